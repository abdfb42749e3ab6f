/-! state, book, cell, set, voter: the reference -/
set_option maxRecDepth 100000 in
theorem b277_1 (call : QC FA) (x1 : Int32) (o2 : Option PV) (L : QH FA) (F : Nat) : rnG call 277 (F + 2) 0 [some (vR 0), some (vI x1), o2] [] L = rnG call 277 F 2 [some (vR 0), some (vI x1), o2] [vI 0, vR 0] L := rfl
set_option maxRecDepth 100000 in
theorem b277_2 (call : QC FA) (y : Int32) (ls : List (Option PV)) (z : Nat → Int32) (f : Nat → FA) (F : Nat) : rnG call 277 (F + 1) 2 ls [vI y, vR 0] (LR z f) = rnG call 277 F 3 ls [] (LR (uZ z 0 y) f) := rfl
set_option maxRecDepth 100000 in
theorem b277_3 (call : QC FA) (x1 : Int32) (o2 : Option PV) (z : Nat → Int32) (f : Nat → FA) (F : Nat) : rnG call 277 (F + 3) 3 [some (vR 0), some (vI x1), o2] [] (LR z f) = rnG call 277 F 6 [some (vR 0), some (vI x1), o2] [vI 2, vR 1] (LR z f) := rfl
set_option maxRecDepth 100000 in
theorem b277_4 (call : QC FA) (x : Int32) (ls : List (Option PV)) (z : Nat → Int32) (f : Nat → FA) (F : Nat) : rnG call 277 (F + 1) 6 ls [vI x, vR 1] (LR z f) = bif (Nat.beq 0 0 && pin x 499) then rnG call 277 F 7 ls [vI (f 1 (ix x))] (LR z f) else none := rfl
set_option maxRecDepth 100000 in
theorem b277_5 (call : QC FA) (x1 : Int32) (o2 : Option PV) (s0 : Int32) (z : Nat → Int32) (f : Nat → FA) (F : Nat) : rnG call 277 (F + 5) 7 [some (vR 0), some (vI x1), o2] [vI s0] (LR z f) = rnG call 277 F 12 [some (vR 0), some (vI x1), some (vI s0)] [vI x1, vI 2, vR 1] (LR z f) := rfl
set_option maxRecDepth 100000 in
theorem b277_6 (call : QC FA) (x y : Int32) (ls : List (Option PV)) (z : Nat → Int32) (f : Nat → FA) (F : Nat) : rnG call 277 (F + 1) 12 ls [vI y, vI x, vR 1] (LR z f) = bif (Nat.beq 0 0 && pin x 499) then rnG call 277 F 13 ls [] (LR z (uA f 1 (upd (f 1) (ix x) y))) else none := rfl
set_option maxRecDepth 100000 in
theorem b277_7 (call : QC FA) (x1 : Int32) (x2 : Int32) (L : QH FA) (F : Nat) : rnG call 277 (F + 2) 13 [some (vR 0), some (vI x1), some (vI x2)] [] L = rnG call 277 F 15 [some (vR 0), some (vI x1), some (vI x2)] [vI 0, vR 0] L := rfl
set_option maxRecDepth 100000 in
theorem b277_8 (call : QC FA) (y : Int32) (ls : List (Option PV)) (z : Nat → Int32) (f : Nat → FA) (F : Nat) : rnG call 277 (F + 1) 15 ls [vI y, vR 0] (LR z f) = rnG call 277 F 16 ls [] (LR (uZ z 3 y) f) := rfl
set_option maxRecDepth 100000 in
theorem b277_9 (call : QC FA) (x1 : Int32) (x2 : Int32) (L : QH FA) (F : Nat) : rnG call 277 (F + 1) 16 [some (vR 0), some (vI x1), some (vI x2)] [] L = rnG call 277 F 17 [some (vR 0), some (vI x1), some (vI x2)] [vI x2] L := rfl
set_option maxRecDepth 100000 in
theorem b277_10 (call : QC FA) (x : Int32) (ls : List (Option PV)) (L : QH FA) (F : Nat) : rnG call 277 (F + 1) 17 ls [vI x] L = some (some (vI x), L) := rfl
theorem vc277_0 (call : QC FA) (x1 : Int32) (o2 : Option PV) (z : Nat → Int32) (f : Nat → FA) (res : Option PV × QH FA) (H : (pin 2 499 = true ∧ (pin 2 499 = true ∧ res = (some (vI (f 1 (ix 2))), LR (uZ (uZ z 0 0) 3 0) (uA f 1 (upd (f 1) (ix 2) x1)))))) : RC call (mP 277) 0 [some (vR 0), some (vI x1), o2] [] (LR z f) res := by
  refine rc_b (i' := 2) (ls' := [some (vR 0), some (vI x1), o2]) (st' := [vI 0, vR 0]) (L' := LR z f) 2 (b277_1 call x1 o2 _) ?_
  refine rc_b (i' := 3) (ls' := [some (vR 0), some (vI x1), o2]) (st' := []) (L' := LR (uZ z 0 0) f) 1 (b277_2 call 0 _ z f) ?_
  refine rc_b (i' := 6) (ls' := [some (vR 0), some (vI x1), o2]) (st' := [vI 2, vR 1]) (L' := LR (uZ z 0 0) f) 3 (b277_3 call x1 o2 (uZ z 0 0) f) ?_
  obtain ⟨g1, H⟩ := H
  refine rc_g (i' := 7) (ls' := [some (vR 0), some (vI x1), o2]) (st' := [vI (f 1 (ix 2))]) (L' := LR (uZ z 0 0) f) (b277_4 call 2 _ (uZ z 0 0) f) (pinG g1) ?_
  refine rc_b (i' := 12) (ls' := [some (vR 0), some (vI x1), some (vI (f 1 (ix 2)))]) (st' := [vI x1, vI 2, vR 1]) (L' := LR (uZ z 0 0) f) 5 (b277_5 call x1 o2 (f 1 (ix 2)) (uZ z 0 0) f) ?_
  obtain ⟨g1, H⟩ := H
  refine rc_g (i' := 13) (ls' := [some (vR 0), some (vI x1), some (vI (f 1 (ix 2)))]) (st' := []) (L' := LR (uZ z 0 0) (uA f 1 (upd (f 1) (ix 2) x1))) (b277_6 call 2 x1 _ (uZ z 0 0) f) (pinG g1) ?_
  refine rc_b (i' := 15) (ls' := [some (vR 0), some (vI x1), some (vI (f 1 (ix 2)))]) (st' := [vI 0, vR 0]) (L' := LR (uZ z 0 0) (uA f 1 (upd (f 1) (ix 2) x1))) 2 (b277_7 call x1 (f 1 (ix 2)) _) ?_
  refine rc_b (i' := 16) (ls' := [some (vR 0), some (vI x1), some (vI (f 1 (ix 2)))]) (st' := []) (L' := LR (uZ (uZ z 0 0) 3 0) (uA f 1 (upd (f 1) (ix 2) x1))) 1 (b277_8 call 0 _ (uZ z 0 0) (uA f 1 (upd (f 1) (ix 2) x1))) ?_
  refine rc_b (i' := 17) (ls' := [some (vR 0), some (vI x1), some (vI (f 1 (ix 2)))]) (st' := [vI (f 1 (ix 2))]) (L' := LR (uZ (uZ z 0 0) 3 0) (uA f 1 (upd (f 1) (ix 2) x1))) 1 (b277_9 call x1 (f 1 (ix 2)) _) ?_
  subst H
  exact rc_ret (b277_10 call _ _ _)
set_option maxRecDepth 100000 in
theorem b191_1 (call : QC FA) (x1 : Int32) (x2 : Int32) (L : QH FA) (F : Nat) : rnG call 191 (F + 2) 0 [some (vR 0), some (vI x1), some (vI x2)] [] L = rnG call 191 F 2 [some (vR 0), some (vI x1), some (vI x2)] [vI 0, vR 0] L := rfl
set_option maxRecDepth 100000 in
theorem b191_2 (call : QC FA) (y : Int32) (ls : List (Option PV)) (z : Nat → Int32) (f : Nat → FA) (F : Nat) : rnG call 191 (F + 1) 2 ls [vI y, vR 0] (LR z f) = rnG call 191 F 3 ls [] (LR (uZ z 0 y) f) := rfl
set_option maxRecDepth 100000 in
theorem b191_3 (call : QC FA) (x1 : Int32) (x2 : Int32) (z : Nat → Int32) (f : Nat → FA) (F : Nat) : rnG call 191 (F + 6) 3 [some (vR 0), some (vI x1), some (vI x2)] [] (LR z f) = rnG call 191 F 9 [some (vR 0), some (vI x1), some (vI x2)] [vI 3, vR 1, vI 0, vI x1, vR 0] (LR z f) := rfl
set_option maxRecDepth 100000 in
theorem b191_4 (call : QC FA) (x : Int32) (s0 : Int32) (s1 : Int32) (ls : List (Option PV)) (z : Nat → Int32) (f : Nat → FA) (F : Nat) : rnG call 191 (F + 1) 9 ls [vI x, vR 1, vI s0, vI s1, vR 0] (LR z f) = bif (Nat.beq 0 0 && pin x 499) then rnG call 191 F 10 ls [vI (f 1 (ix x)), vI s0, vI s1, vR 0] (LR z f) else none := rfl
set_option maxRecDepth 100000 in
theorem b191_5 (call : QC FA) (x1 : Int32) (x2 : Int32) (s0 : Int32) (s1 : Int32) (s2 : Int32) (L : QH FA) (F : Nat) : rnG call 191 (F + 2) 10 [some (vR 0), some (vI x1), some (vI x2)] [vI s0, vI s1, vI s2, vR 0] L = rnG call 191 F 12 [some (vR 0), some (vI x1), some (vI x2)] [vI (s0 - 1), vI s1, vI s2, vR 0] L := rfl
set_option maxRecDepth 100000 in
theorem b191_6 (call : QC FA) (a0 : Int32) (a1 : Int32) (a2 : Int32) (ls : List (Option PV)) (z : Nat → Int32) (f : Nat → FA) (F : Nat) : rnG call 191 (F + 1) 12 ls [vI a2, vI a1, vI a0, vR 0] (LR z f) = cbd (call 47 [vR 0, vI a0, vI a1, vI a2] (LR z f)) (fun r L' => rnG call 191 F 13 ls (r.toList ++ []) L') := pcY (ih := rnG call 191 F) (call := call) (a := 47) (b := 3) (v := 12) (t := 13) (x := 0) (ls := ls) (As := [vI a0, vI a1, vI a2]) (st' := []) (L := LR z f) rfl rfl rfl
set_option maxRecDepth 100000 in
theorem b191_7 (call : QC FA) (x : Int32) (ls : List (Option PV)) (L : QH FA) (F : Nat) : rnG call 191 (F + 1) 13 ls [vI x] L = bif pcmp 0 x 0 then rnG call 191 F 29 ls [] L else rnG call 191 F 14 ls [] L := rfl
set_option maxRecDepth 100000 in
theorem b191_8 (call : QC FA) (x1 : Int32) (x2 : Int32) (L : QH FA) (F : Nat) : rnG call 191 (F + 1) 29 [some (vR 0), some (vI x1), some (vI x2)] [] L = rnG call 191 F 30 [some (vR 0), some (vI x1), some (vI x2)] [vI ((-10000))] L := rfl
set_option maxRecDepth 100000 in
theorem b191_9 (call : QC FA) (x : Int32) (ls : List (Option PV)) (L : QH FA) (F : Nat) : rnG call 191 (F + 1) 30 ls [vI x] L = some (some (vI x), L) := rfl
set_option maxRecDepth 100000 in
theorem b191_10 (call : QC FA) (x1 : Int32) (x2 : Int32) (L : QH FA) (F : Nat) : rnG call 191 (F + 4) 14 [some (vR 0), some (vI x1), some (vI x2)] [] L = rnG call 191 F 18 [some (vR 0), some (vI x1), some (vI x2)] [vI 4, vI 0, vI x2, vR 0] L := rfl
set_option maxRecDepth 100000 in
theorem b191_11 (call : QC FA) (a0 : Int32) (a1 : Int32) (a2 : Int32) (ls : List (Option PV)) (z : Nat → Int32) (f : Nat → FA) (F : Nat) : rnG call 191 (F + 1) 18 ls [vI a2, vI a1, vI a0, vR 0] (LR z f) = cbd (call 47 [vR 0, vI a0, vI a1, vI a2] (LR z f)) (fun r L' => rnG call 191 F 19 ls (r.toList ++ []) L') := pcY (ih := rnG call 191 F) (call := call) (a := 47) (b := 3) (v := 12) (t := 19) (x := 0) (ls := ls) (As := [vI a0, vI a1, vI a2]) (st' := []) (L := LR z f) rfl rfl rfl
set_option maxRecDepth 100000 in
theorem b191_12 (call : QC FA) (x : Int32) (ls : List (Option PV)) (L : QH FA) (F : Nat) : rnG call 191 (F + 1) 19 ls [vI x] L = bif pcmp 0 x 0 then rnG call 191 F 29 ls [] L else rnG call 191 F 20 ls [] L := rfl
set_option maxRecDepth 100000 in
theorem b191_13 (call : QC FA) (x1 : Int32) (x2 : Int32) (z : Nat → Int32) (f : Nat → FA) (F : Nat) : rnG call 191 (F + 7) 20 [some (vR 0), some (vI x1), some (vI x2)] [] (LR z f) = rnG call 191 F 27 [some (vR 0), some (vI x1), some (vI x2)] [vI ((5 * x1) + x2), vR 7] (LR z f) := rfl
set_option maxRecDepth 100000 in
theorem b191_14 (call : QC FA) (x : Int32) (ls : List (Option PV)) (z : Nat → Int32) (f : Nat → FA) (F : Nat) : rnG call 191 (F + 1) 27 ls [vI x, vR 7] (LR z f) = bif (Nat.beq 0 0 && pin x 750) then rnG call 191 F 28 ls [vI (f 7 (ix x))] (LR z f) else none := rfl
set_option maxRecDepth 100000 in
theorem b191_15 (call : QC FA) (x1 : Int32) (x2 : Int32) (s0 : Int32) (L : QH FA) (F : Nat) : rnG call 191 (F + 1) 28 [some (vR 0), some (vI x1), some (vI x2)] [vI s0] L = rnG call 191 F 30 [some (vR 0), some (vI x1), some (vI x2)] [vI s0] L := rfl
theorem vc191_0 (d : Nat) (x1 : Int32) (x2 : Int32) (z : Nat → Int32) (f : Nat → FA) (res : Option PV × QH FA) (H : (pin 3 499 = true ∧ (((0 ≤ I x1 ∧ I x1 ≤ I ((f 1 (ix 3)) - 1)) → (((0 ≤ I x2 ∧ I x2 ≤ 4) → (pin ((5 * x1) + x2) 750 = true ∧ res = (some (vI (f 7 (ix ((5 * x1) + x2)))), LR (uZ z 0 0) f))) ∧ ((¬ (0 ≤ I x2 ∧ I x2 ≤ 4)) → res = (some (vI ((-10000))), LR (uZ z 0 0) f)))) ∧ ((¬ (0 ≤ I x1 ∧ I x1 ≤ I ((f 1 (ix 3)) - 1))) → res = (some (vI ((-10000))), LR (uZ z 0 0) f))))) : RC (mcall (d + 1)) (mP 191) 0 [some (vR 0), some (vI x1), some (vI x2)] [] (LR z f) res := by
  refine rc_b (i' := 2) (ls' := [some (vR 0), some (vI x1), some (vI x2)]) (st' := [vI 0, vR 0]) (L' := LR z f) 2 (b191_1 (mcall (d + 1)) x1 x2 _) ?_
  refine rc_b (i' := 3) (ls' := [some (vR 0), some (vI x1), some (vI x2)]) (st' := []) (L' := LR (uZ z 0 0) f) 1 (b191_2 (mcall (d + 1)) 0 _ z f) ?_
  refine rc_b (i' := 9) (ls' := [some (vR 0), some (vI x1), some (vI x2)]) (st' := [vI 3, vR 1, vI 0, vI x1, vR 0]) (L' := LR (uZ z 0 0) f) 6 (b191_3 (mcall (d + 1)) x1 x2 (uZ z 0 0) f) ?_
  obtain ⟨g1, H⟩ := H
  refine rc_g (i' := 10) (ls' := [some (vR 0), some (vI x1), some (vI x2)]) (st' := [vI (f 1 (ix 3)), vI 0, vI x1, vR 0]) (L' := LR (uZ z 0 0) f) (b191_4 (mcall (d + 1)) 3 0 x1 _ (uZ z 0 0) f) (pinG g1) ?_
  refine rc_b (i' := 12) (ls' := [some (vR 0), some (vI x1), some (vI x2)]) (st' := [vI ((f 1 (ix 3)) - 1), vI 0, vI x1, vR 0]) (L' := LR (uZ z 0 0) f) 2 (b191_5 (mcall (d + 1)) x1 x2 (f 1 (ix 3)) 0 x1 _) ?_
  refine rc_call (t := 13) (ls' := [some (vR 0), some (vI x1), some (vI x2)]) (st' := []) (b191_6 (mcall (d + 1)) x1 0 ((f 1 (ix 3)) - 1) _ (uZ z 0 0) f) (isIn_r _ x1 0 ((f 1 (ix 3)) - 1) (uZ z 0 0) f) ?_
  show RC (mcall (d + 1)) (mP 191) 13 [some (vR 0), some (vI x1), some (vI x2)] [vI (bI (0 ≤ I x1 ∧ I x1 ≤ I ((f 1 (ix 3)) - 1)))] (LR (uZ z 0 0) f) res
  refine rc_bz (it := 29) (ie := 14) (ls' := [some (vR 0), some (vI x1), some (vI x2)]) (st' := []) (b191_7 (mcall (d + 1)) (bI (0 ≤ I x1 ∧ I x1 ≤ I ((f 1 (ix 3)) - 1))) _ _) (fun q1 => ?_) (fun q1 => ?_)
  · have H := H.2 q1
    refine rc_b (i' := 30) (ls' := [some (vR 0), some (vI x1), some (vI x2)]) (st' := [vI ((-10000))]) (L' := LR (uZ z 0 0) f) 1 (b191_8 (mcall (d + 1)) x1 x2 _) ?_
    subst H
    exact rc_ret (b191_9 (mcall (d + 1)) _ _ _)
  · have H := H.1 q1
    refine rc_b (i' := 18) (ls' := [some (vR 0), some (vI x1), some (vI x2)]) (st' := [vI 4, vI 0, vI x2, vR 0]) (L' := LR (uZ z 0 0) f) 4 (b191_10 (mcall (d + 1)) x1 x2 _) ?_
    refine rc_call (t := 19) (ls' := [some (vR 0), some (vI x1), some (vI x2)]) (st' := []) (b191_11 (mcall (d + 1)) x2 0 4 _ (uZ z 0 0) f) (isIn_r _ x2 0 4 (uZ z 0 0) f) ?_
    show RC (mcall (d + 1)) (mP 191) 19 [some (vR 0), some (vI x1), some (vI x2)] [vI (bI (0 ≤ I x2 ∧ I x2 ≤ 4))] (LR (uZ z 0 0) f) res
    refine rc_bz (it := 29) (ie := 20) (ls' := [some (vR 0), some (vI x1), some (vI x2)]) (st' := []) (b191_12 (mcall (d + 1)) (bI (0 ≤ I x2 ∧ I x2 ≤ 4)) _ _) (fun q2 => ?_) (fun q2 => ?_)
    · have H := H.2 q2
      refine rc_b (i' := 30) (ls' := [some (vR 0), some (vI x1), some (vI x2)]) (st' := [vI ((-10000))]) (L' := LR (uZ z 0 0) f) 1 (b191_8 (mcall (d + 1)) x1 x2 _) ?_
      subst H
      exact rc_ret (b191_9 (mcall (d + 1)) _ _ _)
    · have H := H.1 q2
      refine rc_b (i' := 27) (ls' := [some (vR 0), some (vI x1), some (vI x2)]) (st' := [vI ((5 * x1) + x2), vR 7]) (L' := LR (uZ z 0 0) f) 7 (b191_13 (mcall (d + 1)) x1 x2 (uZ z 0 0) f) ?_
      obtain ⟨g1, H⟩ := H
      refine rc_g (i' := 28) (ls' := [some (vR 0), some (vI x1), some (vI x2)]) (st' := [vI (f 7 (ix ((5 * x1) + x2)))]) (L' := LR (uZ z 0 0) f) (b191_14 (mcall (d + 1)) ((5 * x1) + x2) _ (uZ z 0 0) f) (pinG g1) ?_
      refine rc_b (i' := 30) (ls' := [some (vR 0), some (vI x1), some (vI x2)]) (st' := [vI (f 7 (ix ((5 * x1) + x2)))]) (L' := LR (uZ z 0 0) f) 1 (b191_15 (mcall (d + 1)) x1 x2 (f 7 (ix ((5 * x1) + x2))) _) ?_
      subst H
      exact rc_ret (b191_9 (mcall (d + 1)) _ _ _)
set_option maxRecDepth 100000 in
theorem b197_1 (call : QC FA) (x1 : Int32) (x2 : Int32) (x3 : Int32) (o4 : Option PV) (L : QH FA) (F : Nat) : rnG call 197 (F + 2) 0 [some (vR 0), some (vI x1), some (vI x2), some (vI x3), o4] [] L = rnG call 197 F 2 [some (vR 0), some (vI x1), some (vI x2), some (vI x3), o4] [vI 0, vR 0] L := rfl
set_option maxRecDepth 100000 in
theorem b197_2 (call : QC FA) (y : Int32) (ls : List (Option PV)) (z : Nat → Int32) (f : Nat → FA) (F : Nat) : rnG call 197 (F + 1) 2 ls [vI y, vR 0] (LR z f) = rnG call 197 F 3 ls [] (LR (uZ z 0 y) f) := rfl
set_option maxRecDepth 100000 in
theorem b197_3 (call : QC FA) (x1 : Int32) (x2 : Int32) (x3 : Int32) (o4 : Option PV) (L : QH FA) (F : Nat) : rnG call 197 (F + 4) 3 [some (vR 0), some (vI x1), some (vI x2), some (vI x3), o4] [] L = rnG call 197 F 7 [some (vR 0), some (vI x1), some (vI x2), some (vI x3), o4] [vI 11, vI 0, vI x1, vR 0] L := rfl
set_option maxRecDepth 100000 in
theorem b197_4 (call : QC FA) (a0 : Int32) (a1 : Int32) (a2 : Int32) (ls : List (Option PV)) (z : Nat → Int32) (f : Nat → FA) (F : Nat) : rnG call 197 (F + 1) 7 ls [vI a2, vI a1, vI a0, vR 0] (LR z f) = cbd (call 47 [vR 0, vI a0, vI a1, vI a2] (LR z f)) (fun r L' => rnG call 197 F 8 ls (r.toList ++ []) L') := pcY (ih := rnG call 197 F) (call := call) (a := 47) (b := 3) (v := 12) (t := 8) (x := 0) (ls := ls) (As := [vI a0, vI a1, vI a2]) (st' := []) (L := LR z f) rfl rfl rfl
set_option maxRecDepth 100000 in
theorem b197_5 (call : QC FA) (x : Int32) (ls : List (Option PV)) (L : QH FA) (F : Nat) : rnG call 197 (F + 1) 8 ls [vI x] L = bif pcmp 0 x 0 then rnG call 197 F 21 ls [] L else rnG call 197 F 9 ls [] L := rfl
set_option maxRecDepth 100000 in
theorem b197_6 (call : QC FA) (x1 : Int32) (x2 : Int32) (x3 : Int32) (o4 : Option PV) (L : QH FA) (F : Nat) : rnG call 197 (F + 1) 21 [some (vR 0), some (vI x1), some (vI x2), some (vI x3), o4] [] L = rnG call 197 F 22 [some (vR 0), some (vI x1), some (vI x2), some (vI x3), o4] [vI ((-2))] L := rfl
set_option maxRecDepth 100000 in
theorem b197_7 (call : QC FA) (x : Int32) (ls : List (Option PV)) (L : QH FA) (F : Nat) : rnG call 197 (F + 1) 22 ls [vI x] L = some (some (vI x), L) := rfl
set_option maxRecDepth 100000 in
theorem b197_8 (call : QC FA) (x1 : Int32) (x2 : Int32) (x3 : Int32) (o4 : Option PV) (L : QH FA) (F : Nat) : rnG call 197 (F + 4) 9 [some (vR 0), some (vI x1), some (vI x2), some (vI x3), o4] [] L = rnG call 197 F 13 [some (vR 0), some (vI x1), some (vI x2), some (vI x3), o4] [vI 11, vI 0, vI x2, vR 0] L := rfl
set_option maxRecDepth 100000 in
theorem b197_9 (call : QC FA) (a0 : Int32) (a1 : Int32) (a2 : Int32) (ls : List (Option PV)) (z : Nat → Int32) (f : Nat → FA) (F : Nat) : rnG call 197 (F + 1) 13 ls [vI a2, vI a1, vI a0, vR 0] (LR z f) = cbd (call 47 [vR 0, vI a0, vI a1, vI a2] (LR z f)) (fun r L' => rnG call 197 F 14 ls (r.toList ++ []) L') := pcY (ih := rnG call 197 F) (call := call) (a := 47) (b := 3) (v := 12) (t := 14) (x := 0) (ls := ls) (As := [vI a0, vI a1, vI a2]) (st' := []) (L := LR z f) rfl rfl rfl
set_option maxRecDepth 100000 in
theorem b197_10 (call : QC FA) (x : Int32) (ls : List (Option PV)) (L : QH FA) (F : Nat) : rnG call 197 (F + 1) 14 ls [vI x] L = bif pcmp 0 x 0 then rnG call 197 F 21 ls [] L else rnG call 197 F 15 ls [] L := rfl
set_option maxRecDepth 100000 in
theorem b197_11 (call : QC FA) (x1 : Int32) (x2 : Int32) (x3 : Int32) (o4 : Option PV) (L : QH FA) (F : Nat) : rnG call 197 (F + 4) 15 [some (vR 0), some (vI x1), some (vI x2), some (vI x3), o4] [] L = rnG call 197 F 19 [some (vR 0), some (vI x1), some (vI x2), some (vI x3), o4] [vI 4, vI 0, vI x3, vR 0] L := rfl
set_option maxRecDepth 100000 in
theorem b197_12 (call : QC FA) (a0 : Int32) (a1 : Int32) (a2 : Int32) (ls : List (Option PV)) (z : Nat → Int32) (f : Nat → FA) (F : Nat) : rnG call 197 (F + 1) 19 ls [vI a2, vI a1, vI a0, vR 0] (LR z f) = cbd (call 47 [vR 0, vI a0, vI a1, vI a2] (LR z f)) (fun r L' => rnG call 197 F 20 ls (r.toList ++ []) L') := pcY (ih := rnG call 197 F) (call := call) (a := 47) (b := 3) (v := 12) (t := 20) (x := 0) (ls := ls) (As := [vI a0, vI a1, vI a2]) (st' := []) (L := LR z f) rfl rfl rfl
set_option maxRecDepth 100000 in
theorem b197_13 (call : QC FA) (x : Int32) (ls : List (Option PV)) (L : QH FA) (F : Nat) : rnG call 197 (F + 1) 20 ls [vI x] L = bif pcmp 1 x 0 then rnG call 197 F 23 ls [] L else rnG call 197 F 21 ls [] L := rfl
set_option maxRecDepth 100000 in
theorem b197_14 (call : QC FA) (x1 : Int32) (x2 : Int32) (x3 : Int32) (o4 : Option PV) (L : QH FA) (F : Nat) : rnG call 197 (F + 7) 23 [some (vR 0), some (vI x1), some (vI x2), some (vI x3), o4] [] L = rnG call 197 F 30 [some (vR 0), some (vI x1), some (vI x2), some (vI x3), some (vI ((12 * x1) + x2))] [vI x3] L := rfl
set_option maxRecDepth 100000 in
theorem b197_15 (call : QC FA) (x : Int32) (ls : List (Option PV)) (L : QH FA) (F : Nat) : rnG call 197 (F + 1) 30 ls [vI x] L = bif pcmp 1 x 0 then rnG call 197 F 40 ls [] L else rnG call 197 F 31 ls [] L := rfl
set_option maxRecDepth 100000 in
theorem b197_16 (call : QC FA) (x1 : Int32) (x2 : Int32) (x3 : Int32) (x4 : Int32) (L : QH FA) (F : Nat) : rnG call 197 (F + 2) 40 [some (vR 0), some (vI x1), some (vI x2), some (vI x3), some (vI x4)] [] L = rnG call 197 F 42 [some (vR 0), some (vI x1), some (vI x2), some (vI x3), some (vI x4)] [vI 1, vI x3] L := rfl
set_option maxRecDepth 100000 in
theorem b197_17 (call : QC FA) (x y : Int32) (ls : List (Option PV)) (L : QH FA) (F : Nat) : rnG call 197 (F + 1) 42 ls [vI y, vI x] L = bif pcmp 1 x y then rnG call 197 F 50 ls [] L else rnG call 197 F 43 ls [] L := rfl
set_option maxRecDepth 100000 in
theorem b197_18 (call : QC FA) (x1 : Int32) (x2 : Int32) (x3 : Int32) (x4 : Int32) (L : QH FA) (F : Nat) : rnG call 197 (F + 2) 50 [some (vR 0), some (vI x1), some (vI x2), some (vI x3), some (vI x4)] [] L = rnG call 197 F 52 [some (vR 0), some (vI x1), some (vI x2), some (vI x3), some (vI x4)] [vI 2, vI x3] L := rfl
set_option maxRecDepth 100000 in
theorem b197_19 (call : QC FA) (x y : Int32) (ls : List (Option PV)) (L : QH FA) (F : Nat) : rnG call 197 (F + 1) 52 ls [vI y, vI x] L = bif pcmp 1 x y then rnG call 197 F 60 ls [] L else rnG call 197 F 53 ls [] L := rfl
set_option maxRecDepth 100000 in
theorem b197_20 (call : QC FA) (x1 : Int32) (x2 : Int32) (x3 : Int32) (x4 : Int32) (L : QH FA) (F : Nat) : rnG call 197 (F + 2) 60 [some (vR 0), some (vI x1), some (vI x2), some (vI x3), some (vI x4)] [] L = rnG call 197 F 62 [some (vR 0), some (vI x1), some (vI x2), some (vI x3), some (vI x4)] [vI x4, vR 0] L := rfl
set_option maxRecDepth 100000 in
theorem b197_21 (call : QC FA) (a0 : Int32) (ls : List (Option PV)) (z : Nat → Int32) (f : Nat → FA) (F : Nat) : rnG call 197 (F + 1) 62 ls [vI a0, vR 0] (LR z f) = cbd (call 49 [vR 0, vI a0] (LR z f)) (fun r L' => rnG call 197 F 63 ls (r.toList ++ []) L') := pcY (ih := rnG call 197 F) (call := call) (a := 49) (b := 1) (v := 12) (t := 63) (x := 0) (ls := ls) (As := [vI a0]) (st' := []) (L := LR z f) rfl rfl rfl
set_option maxRecDepth 100000 in
theorem b197_22 (call : QC FA) (x : Int32) (ls : List (Option PV)) (L : QH FA) (F : Nat) : rnG call 197 (F + 1) 63 ls [vI x] L = bif pcmp 1 x 0 then rnG call 197 F 66 ls [] L else rnG call 197 F 64 ls [] L := rfl
set_option maxRecDepth 100000 in
theorem b197_23 (call : QC FA) (x1 : Int32) (x2 : Int32) (x3 : Int32) (x4 : Int32) (L : QH FA) (F : Nat) : rnG call 197 (F + 2) 66 [some (vR 0), some (vI x1), some (vI x2), some (vI x3), some (vI x4)] [] L = rnG call 197 F 68 [some (vR 0), some (vI x1), some (vI x2), some (vI x3), some (vI x4)] [vI 3, vI x3] L := rfl
set_option maxRecDepth 100000 in
theorem b197_24 (call : QC FA) (x y : Int32) (ls : List (Option PV)) (L : QH FA) (F : Nat) : rnG call 197 (F + 1) 68 ls [vI y, vI x] L = bif pcmp 1 x y then rnG call 197 F 73 ls [] L else rnG call 197 F 69 ls [] L := rfl
set_option maxRecDepth 100000 in
theorem b197_25 (call : QC FA) (x1 : Int32) (x2 : Int32) (x3 : Int32) (x4 : Int32) (L : QH FA) (F : Nat) : rnG call 197 (F + 2) 73 [some (vR 0), some (vI x1), some (vI x2), some (vI x3), some (vI x4)] [] L = rnG call 197 F 75 [some (vR 0), some (vI x1), some (vI x2), some (vI x3), some (vI x4)] [vI x4, vR 0] L := rfl
set_option maxRecDepth 100000 in
theorem b197_26 (call : QC FA) (a0 : Int32) (ls : List (Option PV)) (z : Nat → Int32) (f : Nat → FA) (F : Nat) : rnG call 197 (F + 1) 75 ls [vI a0, vR 0] (LR z f) = cbd (call 50 [vR 0, vI a0] (LR z f)) (fun r L' => rnG call 197 F 76 ls (r.toList ++ []) L') := pcY (ih := rnG call 197 F) (call := call) (a := 50) (b := 1) (v := 12) (t := 76) (x := 0) (ls := ls) (As := [vI a0]) (st' := []) (L := LR z f) rfl rfl rfl
set_option maxRecDepth 100000 in
theorem b197_27 (call : QC FA) (x : Int32) (ls : List (Option PV)) (L : QH FA) (F : Nat) : rnG call 197 (F + 1) 76 ls [vI x] L = some (some (vI x), L) := rfl
set_option maxRecDepth 100000 in
theorem b197_28 (call : QC FA) (x1 : Int32) (x2 : Int32) (x3 : Int32) (x4 : Int32) (L : QH FA) (F : Nat) : rnG call 197 (F + 2) 69 [some (vR 0), some (vI x1), some (vI x2), some (vI x3), some (vI x4)] [] L = rnG call 197 F 71 [some (vR 0), some (vI x1), some (vI x2), some (vI x3), some (vI x4)] [vI x4, vR 0] L := rfl
set_option maxRecDepth 100000 in
theorem b197_29 (call : QC FA) (a0 : Int32) (ls : List (Option PV)) (z : Nat → Int32) (f : Nat → FA) (F : Nat) : rnG call 197 (F + 1) 71 ls [vI a0, vR 0] (LR z f) = cbd (call 238 [vR 0, vI a0] (LR z f)) (fun r L' => rnG call 197 F 72 ls (r.toList ++ []) L') := pcY (ih := rnG call 197 F) (call := call) (a := 238) (b := 1) (v := 12) (t := 72) (x := 0) (ls := ls) (As := [vI a0]) (st' := []) (L := LR z f) rfl rfl rfl
set_option maxRecDepth 100000 in
theorem b197_30 (call : QC FA) (x1 : Int32) (x2 : Int32) (x3 : Int32) (x4 : Int32) (s0 : Int32) (L : QH FA) (F : Nat) : rnG call 197 (F + 1) 72 [some (vR 0), some (vI x1), some (vI x2), some (vI x3), some (vI x4)] [vI s0] L = rnG call 197 F 76 [some (vR 0), some (vI x1), some (vI x2), some (vI x3), some (vI x4)] [vI s0] L := rfl
set_option maxRecDepth 100000 in
theorem b197_31 (call : QC FA) (x1 : Int32) (x2 : Int32) (x3 : Int32) (x4 : Int32) (L : QH FA) (F : Nat) : rnG call 197 (F + 2) 64 [some (vR 0), some (vI x1), some (vI x2), some (vI x3), some (vI x4)] [] L = rnG call 197 F 76 [some (vR 0), some (vI x1), some (vI x2), some (vI x3), some (vI x4)] [vI ((-1))] L := rfl
set_option maxRecDepth 100000 in
theorem b197_32 (call : QC FA) (x1 : Int32) (x2 : Int32) (x3 : Int32) (x4 : Int32) (z : Nat → Int32) (f : Nat → FA) (F : Nat) : rnG call 197 (F + 5) 53 [some (vR 0), some (vI x1), some (vI x2), some (vI x3), some (vI x4)] [] (LR z f) = rnG call 197 F 58 [some (vR 0), some (vI x1), some (vI x2), some (vI x3), some (vI x4)] [vI (355 + x4), vR 1] (LR z f) := rfl
set_option maxRecDepth 100000 in
theorem b197_33 (call : QC FA) (x : Int32) (ls : List (Option PV)) (z : Nat → Int32) (f : Nat → FA) (F : Nat) : rnG call 197 (F + 1) 58 ls [vI x, vR 1] (LR z f) = bif (Nat.beq 0 0 && pin x 499) then rnG call 197 F 59 ls [vI (f 1 (ix x))] (LR z f) else none := rfl
set_option maxRecDepth 100000 in
theorem b197_34 (call : QC FA) (x : Int32) (ls : List (Option PV)) (L : QH FA) (F : Nat) : rnG call 197 (F + 1) 59 ls [vI x] L = some (some (vI x), L) := rfl
set_option maxRecDepth 100000 in
theorem b197_35 (call : QC FA) (x1 : Int32) (x2 : Int32) (x3 : Int32) (x4 : Int32) (z : Nat → Int32) (f : Nat → FA) (F : Nat) : rnG call 197 (F + 5) 43 [some (vR 0), some (vI x1), some (vI x2), some (vI x3), some (vI x4)] [] (LR z f) = rnG call 197 F 48 [some (vR 0), some (vI x1), some (vI x2), some (vI x3), some (vI x4)] [vI (211 + x4), vR 1] (LR z f) := rfl
set_option maxRecDepth 100000 in
theorem b197_36 (call : QC FA) (x : Int32) (ls : List (Option PV)) (z : Nat → Int32) (f : Nat → FA) (F : Nat) : rnG call 197 (F + 1) 48 ls [vI x, vR 1] (LR z f) = bif (Nat.beq 0 0 && pin x 499) then rnG call 197 F 49 ls [vI (f 1 (ix x))] (LR z f) else none := rfl
set_option maxRecDepth 100000 in
theorem b197_37 (call : QC FA) (x : Int32) (ls : List (Option PV)) (L : QH FA) (F : Nat) : rnG call 197 (F + 1) 49 ls [vI x] L = some (some (vI x), L) := rfl
set_option maxRecDepth 100000 in
theorem b197_38 (call : QC FA) (x1 : Int32) (x2 : Int32) (x3 : Int32) (x4 : Int32) (z : Nat → Int32) (f : Nat → FA) (F : Nat) : rnG call 197 (F + 5) 31 [some (vR 0), some (vI x1), some (vI x2), some (vI x3), some (vI x4)] [] (LR z f) = rnG call 197 F 36 [some (vR 0), some (vI x1), some (vI x2), some (vI x3), some (vI x4)] [vI (67 + x4), vR 1] (LR z f) := rfl
set_option maxRecDepth 100000 in
theorem b197_39 (call : QC FA) (x : Int32) (ls : List (Option PV)) (z : Nat → Int32) (f : Nat → FA) (F : Nat) : rnG call 197 (F + 1) 36 ls [vI x, vR 1] (LR z f) = bif (Nat.beq 0 0 && pin x 499) then rnG call 197 F 37 ls [vI (f 1 (ix x))] (LR z f) else none := rfl
set_option maxRecDepth 100000 in
theorem b197_40 (call : QC FA) (x1 : Int32) (x2 : Int32) (x3 : Int32) (x4 : Int32) (s0 : Int32) (L : QH FA) (F : Nat) : rnG call 197 (F + 2) 37 [some (vR 0), some (vI x1), some (vI x2), some (vI x3), some (vI x4)] [vI s0] L = rnG call 197 F 39 [some (vR 0), some (vI x1), some (vI x2), some (vI x3), some (vI x4)] [vI (s0 - 1)] L := rfl
set_option maxRecDepth 100000 in
theorem b197_41 (call : QC FA) (x : Int32) (ls : List (Option PV)) (L : QH FA) (F : Nat) : rnG call 197 (F + 1) 39 ls [vI x] L = some (some (vI x), L) := rfl
theorem vc197_0 (d : Nat) (x1 : Int32) (x2 : Int32) (x3 : Int32) (o4 : Option PV) (z : Nat → Int32) (f : Nat → FA) (res : Option PV × QH FA) (H : (((0 ≤ I x1 ∧ I x1 ≤ 11) → (((0 ≤ I x2 ∧ I x2 ≤ 11) → (((0 ≤ I x3 ∧ I x3 ≤ 4) → ((¬ x3 = 0 → ((¬ x3 = 1 → ((¬ x3 = 2 → (∃ (r1 : Int32) (z1 : Nat → Int32) (f1 : Nat → FA), (mcall (d + 5)) 49 [vR 0, vI ((12 * x1) + x2)] (LR (uZ z 0 0) f) = some (some (vI r1), LR z1 f1) ∧ ((¬ r1 = 0 → ((¬ x3 = 3 → (∃ (r2 : Int32) (z2 : Nat → Int32) (f2 : Nat → FA), (mcall (d + 5)) 50 [vR 0, vI ((12 * x1) + x2)] (LR z1 f1) = some (some (vI r2), LR z2 f2) ∧ res = (some (vI r2), LR z2 f2))) ∧ (x3 = 3 → (∃ (r3 : Int32) (z3 : Nat → Int32) (f3 : Nat → FA), (mcall (d + 5)) 238 [vR 0, vI ((12 * x1) + x2)] (LR z1 f1) = some (some (vI r3), LR z3 f3) ∧ res = (some (vI r3), LR z3 f3))))) ∧ (r1 = 0 → res = (some (vI ((-1))), LR z1 f1))))) ∧ (x3 = 2 → (pin (355 + ((12 * x1) + x2)) 499 = true ∧ res = (some (vI (f 1 (ix (355 + ((12 * x1) + x2))))), LR (uZ z 0 0) f))))) ∧ (x3 = 1 → (pin (211 + ((12 * x1) + x2)) 499 = true ∧ res = (some (vI (f 1 (ix (211 + ((12 * x1) + x2))))), LR (uZ z 0 0) f))))) ∧ (x3 = 0 → (pin (67 + ((12 * x1) + x2)) 499 = true ∧ res = (some (vI ((f 1 (ix (67 + ((12 * x1) + x2)))) - 1)), LR (uZ z 0 0) f))))) ∧ ((¬ (0 ≤ I x3 ∧ I x3 ≤ 4)) → res = (some (vI ((-2))), LR (uZ z 0 0) f)))) ∧ ((¬ (0 ≤ I x2 ∧ I x2 ≤ 11)) → res = (some (vI ((-2))), LR (uZ z 0 0) f)))) ∧ ((¬ (0 ≤ I x1 ∧ I x1 ≤ 11)) → res = (some (vI ((-2))), LR (uZ z 0 0) f)))) : RC (mcall (d + 5)) (mP 197) 0 [some (vR 0), some (vI x1), some (vI x2), some (vI x3), o4] [] (LR z f) res := by
  refine rc_b (i' := 2) (ls' := [some (vR 0), some (vI x1), some (vI x2), some (vI x3), o4]) (st' := [vI 0, vR 0]) (L' := LR z f) 2 (b197_1 (mcall (d + 5)) x1 x2 x3 o4 _) ?_
  refine rc_b (i' := 3) (ls' := [some (vR 0), some (vI x1), some (vI x2), some (vI x3), o4]) (st' := []) (L' := LR (uZ z 0 0) f) 1 (b197_2 (mcall (d + 5)) 0 _ z f) ?_
  refine rc_b (i' := 7) (ls' := [some (vR 0), some (vI x1), some (vI x2), some (vI x3), o4]) (st' := [vI 11, vI 0, vI x1, vR 0]) (L' := LR (uZ z 0 0) f) 4 (b197_3 (mcall (d + 5)) x1 x2 x3 o4 _) ?_
  refine rc_call (t := 8) (ls' := [some (vR 0), some (vI x1), some (vI x2), some (vI x3), o4]) (st' := []) (b197_4 (mcall (d + 5)) x1 0 11 _ (uZ z 0 0) f) (isIn_r _ x1 0 11 (uZ z 0 0) f) ?_
  show RC (mcall (d + 5)) (mP 197) 8 [some (vR 0), some (vI x1), some (vI x2), some (vI x3), o4] [vI (bI (0 ≤ I x1 ∧ I x1 ≤ 11))] (LR (uZ z 0 0) f) res
  refine rc_bz (it := 21) (ie := 9) (ls' := [some (vR 0), some (vI x1), some (vI x2), some (vI x3), o4]) (st' := []) (b197_5 (mcall (d + 5)) (bI (0 ≤ I x1 ∧ I x1 ≤ 11)) _ _) (fun q1 => ?_) (fun q1 => ?_)
  · have H := H.2 q1
    refine rc_b (i' := 22) (ls' := [some (vR 0), some (vI x1), some (vI x2), some (vI x3), o4]) (st' := [vI ((-2))]) (L' := LR (uZ z 0 0) f) 1 (b197_6 (mcall (d + 5)) x1 x2 x3 o4 _) ?_
    subst H
    exact rc_ret (b197_7 (mcall (d + 5)) _ _ _)
  · have H := H.1 q1
    refine rc_b (i' := 13) (ls' := [some (vR 0), some (vI x1), some (vI x2), some (vI x3), o4]) (st' := [vI 11, vI 0, vI x2, vR 0]) (L' := LR (uZ z 0 0) f) 4 (b197_8 (mcall (d + 5)) x1 x2 x3 o4 _) ?_
    refine rc_call (t := 14) (ls' := [some (vR 0), some (vI x1), some (vI x2), some (vI x3), o4]) (st' := []) (b197_9 (mcall (d + 5)) x2 0 11 _ (uZ z 0 0) f) (isIn_r _ x2 0 11 (uZ z 0 0) f) ?_
    show RC (mcall (d + 5)) (mP 197) 14 [some (vR 0), some (vI x1), some (vI x2), some (vI x3), o4] [vI (bI (0 ≤ I x2 ∧ I x2 ≤ 11))] (LR (uZ z 0 0) f) res
    refine rc_bz (it := 21) (ie := 15) (ls' := [some (vR 0), some (vI x1), some (vI x2), some (vI x3), o4]) (st' := []) (b197_10 (mcall (d + 5)) (bI (0 ≤ I x2 ∧ I x2 ≤ 11)) _ _) (fun q2 => ?_) (fun q2 => ?_)
    · have H := H.2 q2
      refine rc_b (i' := 22) (ls' := [some (vR 0), some (vI x1), some (vI x2), some (vI x3), o4]) (st' := [vI ((-2))]) (L' := LR (uZ z 0 0) f) 1 (b197_6 (mcall (d + 5)) x1 x2 x3 o4 _) ?_
      subst H
      exact rc_ret (b197_7 (mcall (d + 5)) _ _ _)
    · have H := H.1 q2
      refine rc_b (i' := 19) (ls' := [some (vR 0), some (vI x1), some (vI x2), some (vI x3), o4]) (st' := [vI 4, vI 0, vI x3, vR 0]) (L' := LR (uZ z 0 0) f) 4 (b197_11 (mcall (d + 5)) x1 x2 x3 o4 _) ?_
      refine rc_call (t := 20) (ls' := [some (vR 0), some (vI x1), some (vI x2), some (vI x3), o4]) (st' := []) (b197_12 (mcall (d + 5)) x3 0 4 _ (uZ z 0 0) f) (isIn_r _ x3 0 4 (uZ z 0 0) f) ?_
      show RC (mcall (d + 5)) (mP 197) 20 [some (vR 0), some (vI x1), some (vI x2), some (vI x3), o4] [vI (bI (0 ≤ I x3 ∧ I x3 ≤ 4))] (LR (uZ z 0 0) f) res
      refine rc_bn (it := 23) (ie := 21) (ls' := [some (vR 0), some (vI x1), some (vI x2), some (vI x3), o4]) (st' := []) (b197_13 (mcall (d + 5)) (bI (0 ≤ I x3 ∧ I x3 ≤ 4)) _ _) (fun q3 => ?_) (fun q3 => ?_)
      · have H := H.1 q3
        refine rc_b (i' := 30) (ls' := [some (vR 0), some (vI x1), some (vI x2), some (vI x3), some (vI ((12 * x1) + x2))]) (st' := [vI x3]) (L' := LR (uZ z 0 0) f) 7 (b197_14 (mcall (d + 5)) x1 x2 x3 o4 _) ?_
        refine rc_if (it := 40) (ie := 31) (ls' := [some (vR 0), some (vI x1), some (vI x2), some (vI x3), some (vI ((12 * x1) + x2))]) (st' := []) (b197_15 (mcall (d + 5)) x3 _ _) (fun q4 => ?_) (fun q4 => ?_)
        · have H := H.1 (cI1t q4)
          refine rc_b (i' := 42) (ls' := [some (vR 0), some (vI x1), some (vI x2), some (vI x3), some (vI ((12 * x1) + x2))]) (st' := [vI 1, vI x3]) (L' := LR (uZ z 0 0) f) 2 (b197_16 (mcall (d + 5)) x1 x2 x3 ((12 * x1) + x2) _) ?_
          refine rc_if (it := 50) (ie := 43) (ls' := [some (vR 0), some (vI x1), some (vI x2), some (vI x3), some (vI ((12 * x1) + x2))]) (st' := []) (b197_17 (mcall (d + 5)) x3 1 _ _) (fun q5 => ?_) (fun q5 => ?_)
          · have H := H.1 (cI1t q5)
            refine rc_b (i' := 52) (ls' := [some (vR 0), some (vI x1), some (vI x2), some (vI x3), some (vI ((12 * x1) + x2))]) (st' := [vI 2, vI x3]) (L' := LR (uZ z 0 0) f) 2 (b197_18 (mcall (d + 5)) x1 x2 x3 ((12 * x1) + x2) _) ?_
            refine rc_if (it := 60) (ie := 53) (ls' := [some (vR 0), some (vI x1), some (vI x2), some (vI x3), some (vI ((12 * x1) + x2))]) (st' := []) (b197_19 (mcall (d + 5)) x3 2 _ _) (fun q6 => ?_) (fun q6 => ?_)
            · have H := H.1 (cI1t q6)
              refine rc_b (i' := 62) (ls' := [some (vR 0), some (vI x1), some (vI x2), some (vI x3), some (vI ((12 * x1) + x2))]) (st' := [vI ((12 * x1) + x2), vR 0]) (L' := LR (uZ z 0 0) f) 2 (b197_20 (mcall (d + 5)) x1 x2 x3 ((12 * x1) + x2) _) ?_
              obtain ⟨r1, z1, f1, hc, H⟩ := H
              refine rc_call (t := 63) (ls' := [some (vR 0), some (vI x1), some (vI x2), some (vI x3), some (vI ((12 * x1) + x2))]) (st' := []) (b197_21 (mcall (d + 5)) ((12 * x1) + x2) _ (uZ z 0 0) f) hc ?_
              show RC (mcall (d + 5)) (mP 197) 63 [some (vR 0), some (vI x1), some (vI x2), some (vI x3), some (vI ((12 * x1) + x2))] [vI r1] (LR z1 f1) res
              refine rc_if (it := 66) (ie := 64) (ls' := [some (vR 0), some (vI x1), some (vI x2), some (vI x3), some (vI ((12 * x1) + x2))]) (st' := []) (b197_22 (mcall (d + 5)) r1 _ _) (fun q7 => ?_) (fun q7 => ?_)
              · have H := H.1 (cI1t q7)
                refine rc_b (i' := 68) (ls' := [some (vR 0), some (vI x1), some (vI x2), some (vI x3), some (vI ((12 * x1) + x2))]) (st' := [vI 3, vI x3]) (L' := LR z1 f1) 2 (b197_23 (mcall (d + 5)) x1 x2 x3 ((12 * x1) + x2) _) ?_
                refine rc_if (it := 73) (ie := 69) (ls' := [some (vR 0), some (vI x1), some (vI x2), some (vI x3), some (vI ((12 * x1) + x2))]) (st' := []) (b197_24 (mcall (d + 5)) x3 3 _ _) (fun q8 => ?_) (fun q8 => ?_)
                · have H := H.1 (cI1t q8)
                  refine rc_b (i' := 75) (ls' := [some (vR 0), some (vI x1), some (vI x2), some (vI x3), some (vI ((12 * x1) + x2))]) (st' := [vI ((12 * x1) + x2), vR 0]) (L' := LR z1 f1) 2 (b197_25 (mcall (d + 5)) x1 x2 x3 ((12 * x1) + x2) _) ?_
                  obtain ⟨r2, z2, f2, hc, H⟩ := H
                  refine rc_call (t := 76) (ls' := [some (vR 0), some (vI x1), some (vI x2), some (vI x3), some (vI ((12 * x1) + x2))]) (st' := []) (b197_26 (mcall (d + 5)) ((12 * x1) + x2) _ z1 f1) hc ?_
                  show RC (mcall (d + 5)) (mP 197) 76 [some (vR 0), some (vI x1), some (vI x2), some (vI x3), some (vI ((12 * x1) + x2))] [vI r2] (LR z2 f2) res
                  subst H
                  exact rc_ret (b197_27 (mcall (d + 5)) _ _ _)
                · have H := H.2 (cI1f q8)
                  refine rc_b (i' := 71) (ls' := [some (vR 0), some (vI x1), some (vI x2), some (vI x3), some (vI ((12 * x1) + x2))]) (st' := [vI ((12 * x1) + x2), vR 0]) (L' := LR z1 f1) 2 (b197_28 (mcall (d + 5)) x1 x2 x3 ((12 * x1) + x2) _) ?_
                  obtain ⟨r3, z3, f3, hc, H⟩ := H
                  refine rc_call (t := 72) (ls' := [some (vR 0), some (vI x1), some (vI x2), some (vI x3), some (vI ((12 * x1) + x2))]) (st' := []) (b197_29 (mcall (d + 5)) ((12 * x1) + x2) _ z1 f1) hc ?_
                  show RC (mcall (d + 5)) (mP 197) 72 [some (vR 0), some (vI x1), some (vI x2), some (vI x3), some (vI ((12 * x1) + x2))] [vI r3] (LR z3 f3) res
                  refine rc_b (i' := 76) (ls' := [some (vR 0), some (vI x1), some (vI x2), some (vI x3), some (vI ((12 * x1) + x2))]) (st' := [vI r3]) (L' := LR z3 f3) 1 (b197_30 (mcall (d + 5)) x1 x2 x3 ((12 * x1) + x2) r3 _) ?_
                  subst H
                  exact rc_ret (b197_27 (mcall (d + 5)) _ _ _)
              · have H := H.2 (cI1f q7)
                refine rc_b (i' := 76) (ls' := [some (vR 0), some (vI x1), some (vI x2), some (vI x3), some (vI ((12 * x1) + x2))]) (st' := [vI ((-1))]) (L' := LR z1 f1) 2 (b197_31 (mcall (d + 5)) x1 x2 x3 ((12 * x1) + x2) _) ?_
                subst H
                exact rc_ret (b197_27 (mcall (d + 5)) _ _ _)
            · have H := H.2 (cI1f q6)
              refine rc_b (i' := 58) (ls' := [some (vR 0), some (vI x1), some (vI x2), some (vI x3), some (vI ((12 * x1) + x2))]) (st' := [vI (355 + ((12 * x1) + x2)), vR 1]) (L' := LR (uZ z 0 0) f) 5 (b197_32 (mcall (d + 5)) x1 x2 x3 ((12 * x1) + x2) (uZ z 0 0) f) ?_
              obtain ⟨g1, H⟩ := H
              refine rc_g (i' := 59) (ls' := [some (vR 0), some (vI x1), some (vI x2), some (vI x3), some (vI ((12 * x1) + x2))]) (st' := [vI (f 1 (ix (355 + ((12 * x1) + x2))))]) (L' := LR (uZ z 0 0) f) (b197_33 (mcall (d + 5)) (355 + ((12 * x1) + x2)) _ (uZ z 0 0) f) (pinG g1) ?_
              subst H
              exact rc_ret (b197_34 (mcall (d + 5)) _ _ _)
          · have H := H.2 (cI1f q5)
            refine rc_b (i' := 48) (ls' := [some (vR 0), some (vI x1), some (vI x2), some (vI x3), some (vI ((12 * x1) + x2))]) (st' := [vI (211 + ((12 * x1) + x2)), vR 1]) (L' := LR (uZ z 0 0) f) 5 (b197_35 (mcall (d + 5)) x1 x2 x3 ((12 * x1) + x2) (uZ z 0 0) f) ?_
            obtain ⟨g1, H⟩ := H
            refine rc_g (i' := 49) (ls' := [some (vR 0), some (vI x1), some (vI x2), some (vI x3), some (vI ((12 * x1) + x2))]) (st' := [vI (f 1 (ix (211 + ((12 * x1) + x2))))]) (L' := LR (uZ z 0 0) f) (b197_36 (mcall (d + 5)) (211 + ((12 * x1) + x2)) _ (uZ z 0 0) f) (pinG g1) ?_
            subst H
            exact rc_ret (b197_37 (mcall (d + 5)) _ _ _)
        · have H := H.2 (cI1f q4)
          refine rc_b (i' := 36) (ls' := [some (vR 0), some (vI x1), some (vI x2), some (vI x3), some (vI ((12 * x1) + x2))]) (st' := [vI (67 + ((12 * x1) + x2)), vR 1]) (L' := LR (uZ z 0 0) f) 5 (b197_38 (mcall (d + 5)) x1 x2 x3 ((12 * x1) + x2) (uZ z 0 0) f) ?_
          obtain ⟨g1, H⟩ := H
          refine rc_g (i' := 37) (ls' := [some (vR 0), some (vI x1), some (vI x2), some (vI x3), some (vI ((12 * x1) + x2))]) (st' := [vI (f 1 (ix (67 + ((12 * x1) + x2))))]) (L' := LR (uZ z 0 0) f) (b197_39 (mcall (d + 5)) (67 + ((12 * x1) + x2)) _ (uZ z 0 0) f) (pinG g1) ?_
          refine rc_b (i' := 39) (ls' := [some (vR 0), some (vI x1), some (vI x2), some (vI x3), some (vI ((12 * x1) + x2))]) (st' := [vI ((f 1 (ix (67 + ((12 * x1) + x2)))) - 1)]) (L' := LR (uZ z 0 0) f) 2 (b197_40 (mcall (d + 5)) x1 x2 x3 ((12 * x1) + x2) (f 1 (ix (67 + ((12 * x1) + x2)))) _) ?_
          subst H
          exact rc_ret (b197_41 (mcall (d + 5)) _ _ _)
      · have H := H.2 q3
        refine rc_b (i' := 22) (ls' := [some (vR 0), some (vI x1), some (vI x2), some (vI x3), o4]) (st' := [vI ((-2))]) (L' := LR (uZ z 0 0) f) 1 (b197_6 (mcall (d + 5)) x1 x2 x3 o4 _) ?_
        subst H
        exact rc_ret (b197_7 (mcall (d + 5)) _ _ _)
set_option maxRecDepth 100000 in
theorem b194_1 (call : QC FA) (x1 : Int32) (x2 : Int32) (x3 : Int32) (L : QH FA) (F : Nat) : rnG call 194 (F + 2) 0 [some (vR 0), some (vI x1), some (vI x2), some (vI x3)] [] L = rnG call 194 F 2 [some (vR 0), some (vI x1), some (vI x2), some (vI x3)] [vI 4, vI x1] L := rfl
set_option maxRecDepth 100000 in
theorem b194_2 (call : QC FA) (x y : Int32) (ls : List (Option PV)) (L : QH FA) (F : Nat) : rnG call 194 (F + 1) 2 ls [vI y, vI x] L = bif pcmp 1 x y then rnG call 194 F 9 ls [] L else rnG call 194 F 3 ls [] L := rfl
set_option maxRecDepth 100000 in
theorem b194_3 (call : QC FA) (x1 : Int32) (x2 : Int32) (x3 : Int32) (L : QH FA) (F : Nat) : rnG call 194 (F + 4) 9 [some (vR 0), some (vI x1), some (vI x2), some (vI x3)] [] L = rnG call 194 F 13 [some (vR 0), some (vI x1), some (vI x2), some (vI x3)] [vI 3, vI 0, vI x1, vR 0] L := rfl
set_option maxRecDepth 100000 in
theorem b194_4 (call : QC FA) (a0 : Int32) (a1 : Int32) (a2 : Int32) (ls : List (Option PV)) (z : Nat → Int32) (f : Nat → FA) (F : Nat) : rnG call 194 (F + 1) 13 ls [vI a2, vI a1, vI a0, vR 0] (LR z f) = cbd (call 47 [vR 0, vI a0, vI a1, vI a2] (LR z f)) (fun r L' => rnG call 194 F 14 ls (r.toList ++ []) L') := pcY (ih := rnG call 194 F) (call := call) (a := 47) (b := 3) (v := 12) (t := 14) (x := 0) (ls := ls) (As := [vI a0, vI a1, vI a2]) (st' := []) (L := LR z f) rfl rfl rfl
set_option maxRecDepth 100000 in
theorem b194_5 (call : QC FA) (x : Int32) (ls : List (Option PV)) (L : QH FA) (F : Nat) : rnG call 194 (F + 1) 14 ls [vI x] L = bif pcmp 0 x 0 then rnG call 194 F 19 ls [] L else rnG call 194 F 15 ls [] L := rfl
set_option maxRecDepth 100000 in
theorem b194_6 (call : QC FA) (x1 : Int32) (x2 : Int32) (x3 : Int32) (L : QH FA) (F : Nat) : rnG call 194 (F + 1) 19 [some (vR 0), some (vI x1), some (vI x2), some (vI x3)] [] L = rnG call 194 F 20 [some (vR 0), some (vI x1), some (vI x2), some (vI x3)] [vI 0] L := rfl
set_option maxRecDepth 100000 in
theorem b194_7 (call : QC FA) (ls : List (Option PV)) (L : QH FA) (F : Nat) : rnG call 194 (F + 1) 20 ls [vI 0] L = some (some (vI 0), L) := rfl
set_option maxRecDepth 100000 in
theorem b194_8 (call : QC FA) (x1 : Int32) (x2 : Int32) (x3 : Int32) (L : QH FA) (F : Nat) : rnG call 194 (F + 2) 15 [some (vR 0), some (vI x1), some (vI x2), some (vI x3)] [] L = rnG call 194 F 17 [some (vR 0), some (vI x1), some (vI x2), some (vI x3)] [vI x2, vR 0] L := rfl
set_option maxRecDepth 100000 in
theorem b194_9 (call : QC FA) (a0 : Int32) (ls : List (Option PV)) (z : Nat → Int32) (f : Nat → FA) (F : Nat) : rnG call 194 (F + 1) 17 ls [vI a0, vR 0] (LR z f) = cbd (call 227 [vR 0, vI a0] (LR z f)) (fun r L' => rnG call 194 F 18 ls (r.toList ++ []) L') := pcY (ih := rnG call 194 F) (call := call) (a := 227) (b := 1) (v := 12) (t := 18) (x := 0) (ls := ls) (As := [vI a0]) (st' := []) (L := LR z f) rfl rfl rfl
set_option maxRecDepth 100000 in
theorem b194_10 (call : QC FA) (x : Int32) (ls : List (Option PV)) (L : QH FA) (F : Nat) : rnG call 194 (F + 1) 18 ls [vI x] L = bif pcmp 1 x 0 then rnG call 194 F 21 ls [] L else rnG call 194 F 19 ls [] L := rfl
set_option maxRecDepth 100000 in
theorem b194_11 (call : QC FA) (x1 : Int32) (x2 : Int32) (x3 : Int32) (L : QH FA) (F : Nat) : rnG call 194 (F + 4) 21 [some (vR 0), some (vI x1), some (vI x2), some (vI x3)] [] L = rnG call 194 F 25 [some (vR 0), some (vI x1), some (vI x2), some (vI x3)] [vI 1, vI x1, vI x3, vR 0] L := rfl
set_option maxRecDepth 100000 in
theorem b194_12 (call : QC FA) (x y : Int32) (s0 : Int32) (ls : List (Option PV)) (L : QH FA) (F : Nat) : rnG call 194 (F + 1) 25 ls [vI y, vI x, vI s0, vR 0] L = bif pcmp 1 x y then rnG call 194 F 28 ls [vI s0, vR 0] L else rnG call 194 F 26 ls [vI s0, vR 0] L := rfl
set_option maxRecDepth 100000 in
theorem b194_13 (call : QC FA) (x1 : Int32) (x2 : Int32) (x3 : Int32) (s0 : Int32) (L : QH FA) (F : Nat) : rnG call 194 (F + 2) 28 [some (vR 0), some (vI x1), some (vI x2), some (vI x3)] [vI s0, vR 0] L = rnG call 194 F 30 [some (vR 0), some (vI x1), some (vI x2), some (vI x3)] [vI x1, vI 0, vI s0, vR 0] L := rfl
set_option maxRecDepth 100000 in
theorem b194_14 (call : QC FA) (x : Int32) (s0 : Int32) (s1 : Int32) (ls : List (Option PV)) (L : QH FA) (F : Nat) : rnG call 194 (F + 1) 30 ls [vI x, vI s0, vI s1, vR 0] L = bif pcmp 1 x 0 then rnG call 194 F 33 ls [vI s0, vI s1, vR 0] L else rnG call 194 F 31 ls [vI s0, vI s1, vR 0] L := rfl
set_option maxRecDepth 100000 in
theorem b194_15 (call : QC FA) (x1 : Int32) (x2 : Int32) (x3 : Int32) (s0 : Int32) (s1 : Int32) (L : QH FA) (F : Nat) : rnG call 194 (F + 2) 33 [some (vR 0), some (vI x1), some (vI x2), some (vI x3)] [vI s0, vI s1, vR 0] L = rnG call 194 F 35 [some (vR 0), some (vI x1), some (vI x2), some (vI x3)] [vI 1, vI x1, vI s0, vI s1, vR 0] L := rfl
set_option maxRecDepth 100000 in
theorem b194_16 (call : QC FA) (x y : Int32) (s0 : Int32) (s1 : Int32) (ls : List (Option PV)) (L : QH FA) (F : Nat) : rnG call 194 (F + 1) 35 ls [vI y, vI x, vI s0, vI s1, vR 0] L = bif pcmp 1 x y then rnG call 194 F 38 ls [vI s0, vI s1, vR 0] L else rnG call 194 F 36 ls [vI s0, vI s1, vR 0] L := rfl
set_option maxRecDepth 100000 in
theorem b194_17 (call : QC FA) (x1 : Int32) (x2 : Int32) (x3 : Int32) (s0 : Int32) (s1 : Int32) (L : QH FA) (F : Nat) : rnG call 194 (F + 2) 38 [some (vR 0), some (vI x1), some (vI x2), some (vI x3)] [vI s0, vI s1, vR 0] L = rnG call 194 F 40 [some (vR 0), some (vI x1), some (vI x2), some (vI x3)] [vI 2, vI x1, vI s0, vI s1, vR 0] L := rfl
set_option maxRecDepth 100000 in
theorem b194_18 (call : QC FA) (x y : Int32) (s0 : Int32) (s1 : Int32) (ls : List (Option PV)) (L : QH FA) (F : Nat) : rnG call 194 (F + 1) 40 ls [vI y, vI x, vI s0, vI s1, vR 0] L = bif pcmp 1 x y then rnG call 194 F 43 ls [vI s0, vI s1, vR 0] L else rnG call 194 F 41 ls [vI s0, vI s1, vR 0] L := rfl
set_option maxRecDepth 100000 in
theorem b194_19 (call : QC FA) (x1 : Int32) (x2 : Int32) (x3 : Int32) (s0 : Int32) (s1 : Int32) (L : QH FA) (F : Nat) : rnG call 194 (F + 1) 43 [some (vR 0), some (vI x1), some (vI x2), some (vI x3)] [vI s0, vI s1, vR 0] L = rnG call 194 F 44 [some (vR 0), some (vI x1), some (vI x2), some (vI x3)] [vI 9, vI s0, vI s1, vR 0] L := rfl
set_option maxRecDepth 100000 in
theorem b194_20 (call : QC FA) (a0 : Int32) (a1 : Int32) (a2 : Int32) (ls : List (Option PV)) (z : Nat → Int32) (f : Nat → FA) (F : Nat) : rnG call 194 (F + 1) 44 ls [vI a2, vI a1, vI a0, vR 0] (LR z f) = cbd (call 47 [vR 0, vI a0, vI a1, vI a2] (LR z f)) (fun r L' => rnG call 194 F 45 ls (r.toList ++ []) L') := pcY (ih := rnG call 194 F) (call := call) (a := 47) (b := 3) (v := 12) (t := 45) (x := 0) (ls := ls) (As := [vI a0, vI a1, vI a2]) (st' := []) (L := LR z f) rfl rfl rfl
set_option maxRecDepth 100000 in
theorem b194_21 (call : QC FA) (x : Int32) (ls : List (Option PV)) (L : QH FA) (F : Nat) : rnG call 194 (F + 1) 45 ls [vI x] L = bif (pcmp 0 x 0 || pcmp 0 x 1) then some (some (vI x), L) else none := rfl
set_option maxRecDepth 100000 in
theorem b194_22 (call : QC FA) (x1 : Int32) (x2 : Int32) (x3 : Int32) (s0 : Int32) (s1 : Int32) (L : QH FA) (F : Nat) : rnG call 194 (F + 2) 41 [some (vR 0), some (vI x1), some (vI x2), some (vI x3)] [vI s0, vI s1, vR 0] L = rnG call 194 F 44 [some (vR 0), some (vI x1), some (vI x2), some (vI x3)] [vI 11, vI s0, vI s1, vR 0] L := rfl
set_option maxRecDepth 100000 in
theorem b194_23 (call : QC FA) (x1 : Int32) (x2 : Int32) (x3 : Int32) (s0 : Int32) (s1 : Int32) (L : QH FA) (F : Nat) : rnG call 194 (F + 2) 31 [some (vR 0), some (vI x1), some (vI x2), some (vI x3)] [vI s0, vI s1, vR 0] L = rnG call 194 F 44 [some (vR 0), some (vI x1), some (vI x2), some (vI x3)] [vI 255, vI s0, vI s1, vR 0] L := rfl
set_option maxRecDepth 100000 in
theorem b194_24 (call : QC FA) (x1 : Int32) (x2 : Int32) (x3 : Int32) (s0 : Int32) (L : QH FA) (F : Nat) : rnG call 194 (F + 3) 26 [some (vR 0), some (vI x1), some (vI x2), some (vI x3)] [vI s0, vR 0] L = rnG call 194 F 30 [some (vR 0), some (vI x1), some (vI x2), some (vI x3)] [vI x1, vI ((-1)), vI s0, vR 0] L := rfl
set_option maxRecDepth 100000 in
theorem b194_25 (call : QC FA) (x1 : Int32) (x2 : Int32) (x3 : Int32) (s0 : Int32) (s1 : Int32) (L : QH FA) (F : Nat) : rnG call 194 (F + 2) 36 [some (vR 0), some (vI x1), some (vI x2), some (vI x3)] [vI s0, vI s1, vR 0] L = rnG call 194 F 44 [some (vR 0), some (vI x1), some (vI x2), some (vI x3)] [vI 1, vI s0, vI s1, vR 0] L := rfl
set_option maxRecDepth 100000 in
theorem b194_26 (call : QC FA) (x1 : Int32) (x2 : Int32) (x3 : Int32) (L : QH FA) (F : Nat) : rnG call 194 (F + 4) 3 [some (vR 0), some (vI x1), some (vI x2), some (vI x3)] [] L = rnG call 194 F 7 [some (vR 0), some (vI x1), some (vI x2), some (vI x3)] [vI 9, vI 0, vI x3, vR 0] L := rfl
set_option maxRecDepth 100000 in
theorem b194_27 (call : QC FA) (a0 : Int32) (a1 : Int32) (a2 : Int32) (ls : List (Option PV)) (z : Nat → Int32) (f : Nat → FA) (F : Nat) : rnG call 194 (F + 1) 7 ls [vI a2, vI a1, vI a0, vR 0] (LR z f) = cbd (call 47 [vR 0, vI a0, vI a1, vI a2] (LR z f)) (fun r L' => rnG call 194 F 8 ls (r.toList ++ []) L') := pcY (ih := rnG call 194 F) (call := call) (a := 47) (b := 3) (v := 12) (t := 8) (x := 0) (ls := ls) (As := [vI a0, vI a1, vI a2]) (st' := []) (L := LR z f) rfl rfl rfl
set_option maxRecDepth 100000 in
theorem b194_28 (call : QC FA) (x : Int32) (ls : List (Option PV)) (L : QH FA) (F : Nat) : rnG call 194 (F + 1) 8 ls [vI x] L = bif (pcmp 0 x 0 || pcmp 0 x 1) then some (some (vI x), L) else none := rfl
theorem vc194_0 (d : Nat) (x1 : Int32) (x2 : Int32) (x3 : Int32) (z : Nat → Int32) (f : Nat → FA) (res : Option PV × QH FA) (H : ((¬ x1 = 4 → (((0 ≤ I x1 ∧ I x1 ≤ 3) → (∃ (r1 : Int32) (z1 : Nat → Int32) (f1 : Nat → FA), (mcall (d + 1)) 227 [vR 0, vI x2] (LR z f) = some (some (vI r1), LR z1 f1) ∧ ((¬ r1 = 0 → ((¬ x1 = 1 → ((¬ x1 = 0 → ((¬ x1 = 2 → res = (some (vI (bI (0 ≤ I x3 ∧ I x3 ≤ 9))), LR z1 f1)) ∧ (x1 = 2 → res = (some (vI (bI (0 ≤ I x3 ∧ I x3 ≤ 11))), LR z1 f1)))) ∧ (x1 = 0 → res = (some (vI (bI (0 ≤ I x3 ∧ I x3 ≤ 255))), LR z1 f1)))) ∧ (x1 = 1 → ((¬ x1 = 0 → res = (some (vI (bI (-1 ≤ I x3 ∧ I x3 ≤ 1))), LR z1 f1)) ∧ (x1 = 0 → res = (some (vI (bI (-1 ≤ I x3 ∧ I x3 ≤ 255))), LR z1 f1)))))) ∧ (r1 = 0 → res = (some (vI 0), LR z1 f1))))) ∧ ((¬ (0 ≤ I x1 ∧ I x1 ≤ 3)) → res = (some (vI 0), LR z f)))) ∧ (x1 = 4 → res = (some (vI (bI (0 ≤ I x3 ∧ I x3 ≤ 9))), LR z f)))) : RC (mcall (d + 1)) (mP 194) 0 [some (vR 0), some (vI x1), some (vI x2), some (vI x3)] [] (LR z f) res := by
  refine rc_b (i' := 2) (ls' := [some (vR 0), some (vI x1), some (vI x2), some (vI x3)]) (st' := [vI 4, vI x1]) (L' := LR z f) 2 (b194_1 (mcall (d + 1)) x1 x2 x3 _) ?_
  refine rc_if (it := 9) (ie := 3) (ls' := [some (vR 0), some (vI x1), some (vI x2), some (vI x3)]) (st' := []) (b194_2 (mcall (d + 1)) x1 4 _ _) (fun q1 => ?_) (fun q1 => ?_)
  · have H := H.1 (cI1t q1)
    refine rc_b (i' := 13) (ls' := [some (vR 0), some (vI x1), some (vI x2), some (vI x3)]) (st' := [vI 3, vI 0, vI x1, vR 0]) (L' := LR z f) 4 (b194_3 (mcall (d + 1)) x1 x2 x3 _) ?_
    refine rc_call (t := 14) (ls' := [some (vR 0), some (vI x1), some (vI x2), some (vI x3)]) (st' := []) (b194_4 (mcall (d + 1)) x1 0 3 _ z f) (isIn_r _ x1 0 3 z f) ?_
    show RC (mcall (d + 1)) (mP 194) 14 [some (vR 0), some (vI x1), some (vI x2), some (vI x3)] [vI (bI (0 ≤ I x1 ∧ I x1 ≤ 3))] (LR z f) res
    refine rc_bz (it := 19) (ie := 15) (ls' := [some (vR 0), some (vI x1), some (vI x2), some (vI x3)]) (st' := []) (b194_5 (mcall (d + 1)) (bI (0 ≤ I x1 ∧ I x1 ≤ 3)) _ _) (fun q2 => ?_) (fun q2 => ?_)
    · have H := H.2 q2
      refine rc_b (i' := 20) (ls' := [some (vR 0), some (vI x1), some (vI x2), some (vI x3)]) (st' := [vI 0]) (L' := LR z f) 1 (b194_6 (mcall (d + 1)) x1 x2 x3 _) ?_
      subst H
      exact rc_ret (b194_7 (mcall (d + 1)) _ _)
    · have H := H.1 q2
      refine rc_b (i' := 17) (ls' := [some (vR 0), some (vI x1), some (vI x2), some (vI x3)]) (st' := [vI x2, vR 0]) (L' := LR z f) 2 (b194_8 (mcall (d + 1)) x1 x2 x3 _) ?_
      obtain ⟨r1, z1, f1, hc, H⟩ := H
      refine rc_call (t := 18) (ls' := [some (vR 0), some (vI x1), some (vI x2), some (vI x3)]) (st' := []) (b194_9 (mcall (d + 1)) x2 _ z f) hc ?_
      show RC (mcall (d + 1)) (mP 194) 18 [some (vR 0), some (vI x1), some (vI x2), some (vI x3)] [vI r1] (LR z1 f1) res
      refine rc_if (it := 21) (ie := 19) (ls' := [some (vR 0), some (vI x1), some (vI x2), some (vI x3)]) (st' := []) (b194_10 (mcall (d + 1)) r1 _ _) (fun q3 => ?_) (fun q3 => ?_)
      · have H := H.1 (cI1t q3)
        refine rc_b (i' := 25) (ls' := [some (vR 0), some (vI x1), some (vI x2), some (vI x3)]) (st' := [vI 1, vI x1, vI x3, vR 0]) (L' := LR z1 f1) 4 (b194_11 (mcall (d + 1)) x1 x2 x3 _) ?_
        refine rc_if (it := 28) (ie := 26) (ls' := [some (vR 0), some (vI x1), some (vI x2), some (vI x3)]) (st' := [vI x3, vR 0]) (b194_12 (mcall (d + 1)) x1 1 x3 _ _) (fun q4 => ?_) (fun q4 => ?_)
        · have H := H.1 (cI1t q4)
          refine rc_b (i' := 30) (ls' := [some (vR 0), some (vI x1), some (vI x2), some (vI x3)]) (st' := [vI x1, vI 0, vI x3, vR 0]) (L' := LR z1 f1) 2 (b194_13 (mcall (d + 1)) x1 x2 x3 x3 _) ?_
          refine rc_if (it := 33) (ie := 31) (ls' := [some (vR 0), some (vI x1), some (vI x2), some (vI x3)]) (st' := [vI 0, vI x3, vR 0]) (b194_14 (mcall (d + 1)) x1 0 x3 _ _) (fun q5 => ?_) (fun q5 => ?_)
          · have H := H.1 (cI1t q5)
            refine rc_b (i' := 35) (ls' := [some (vR 0), some (vI x1), some (vI x2), some (vI x3)]) (st' := [vI 1, vI x1, vI 0, vI x3, vR 0]) (L' := LR z1 f1) 2 (b194_15 (mcall (d + 1)) x1 x2 x3 0 x3 _) ?_
            refine rc_t (it := 38) (ie := 36) (ls' := [some (vR 0), some (vI x1), some (vI x2), some (vI x3)]) (st' := [vI 0, vI x3, vR 0]) (b194_16 (mcall (d + 1)) x1 1 0 x3 _ _) (pNt (cI1t q4)) ?_
            refine rc_b (i' := 40) (ls' := [some (vR 0), some (vI x1), some (vI x2), some (vI x3)]) (st' := [vI 2, vI x1, vI 0, vI x3, vR 0]) (L' := LR z1 f1) 2 (b194_17 (mcall (d + 1)) x1 x2 x3 0 x3 _) ?_
            refine rc_if (it := 43) (ie := 41) (ls' := [some (vR 0), some (vI x1), some (vI x2), some (vI x3)]) (st' := [vI 0, vI x3, vR 0]) (b194_18 (mcall (d + 1)) x1 2 0 x3 _ _) (fun q6 => ?_) (fun q6 => ?_)
            · have H := H.1 (cI1t q6)
              refine rc_b (i' := 44) (ls' := [some (vR 0), some (vI x1), some (vI x2), some (vI x3)]) (st' := [vI 9, vI 0, vI x3, vR 0]) (L' := LR z1 f1) 1 (b194_19 (mcall (d + 1)) x1 x2 x3 0 x3 _) ?_
              refine rc_call (t := 45) (ls' := [some (vR 0), some (vI x1), some (vI x2), some (vI x3)]) (st' := []) (b194_20 (mcall (d + 1)) x3 0 9 _ z1 f1) (isIn_r _ x3 0 9 z1 f1) ?_
              show RC (mcall (d + 1)) (mP 194) 45 [some (vR 0), some (vI x1), some (vI x2), some (vI x3)] [vI (bI (0 ≤ I x3 ∧ I x3 ≤ 9))] (LR z1 f1) res
              subst H
              exact rc_zret (b194_21 (mcall (d + 1)) _ _ _)
            · have H := H.2 (cI1f q6)
              refine rc_b (i' := 44) (ls' := [some (vR 0), some (vI x1), some (vI x2), some (vI x3)]) (st' := [vI 11, vI 0, vI x3, vR 0]) (L' := LR z1 f1) 2 (b194_22 (mcall (d + 1)) x1 x2 x3 0 x3 _) ?_
              refine rc_call (t := 45) (ls' := [some (vR 0), some (vI x1), some (vI x2), some (vI x3)]) (st' := []) (b194_20 (mcall (d + 1)) x3 0 11 _ z1 f1) (isIn_r _ x3 0 11 z1 f1) ?_
              show RC (mcall (d + 1)) (mP 194) 45 [some (vR 0), some (vI x1), some (vI x2), some (vI x3)] [vI (bI (0 ≤ I x3 ∧ I x3 ≤ 11))] (LR z1 f1) res
              subst H
              exact rc_zret (b194_21 (mcall (d + 1)) _ _ _)
          · have H := H.2 (cI1f q5)
            refine rc_b (i' := 44) (ls' := [some (vR 0), some (vI x1), some (vI x2), some (vI x3)]) (st' := [vI 255, vI 0, vI x3, vR 0]) (L' := LR z1 f1) 2 (b194_23 (mcall (d + 1)) x1 x2 x3 0 x3 _) ?_
            refine rc_call (t := 45) (ls' := [some (vR 0), some (vI x1), some (vI x2), some (vI x3)]) (st' := []) (b194_20 (mcall (d + 1)) x3 0 255 _ z1 f1) (isIn_r _ x3 0 255 z1 f1) ?_
            show RC (mcall (d + 1)) (mP 194) 45 [some (vR 0), some (vI x1), some (vI x2), some (vI x3)] [vI (bI (0 ≤ I x3 ∧ I x3 ≤ 255))] (LR z1 f1) res
            subst H
            exact rc_zret (b194_21 (mcall (d + 1)) _ _ _)
        · have H := H.2 (cI1f q4)
          refine rc_b (i' := 30) (ls' := [some (vR 0), some (vI x1), some (vI x2), some (vI x3)]) (st' := [vI x1, vI ((-1)), vI x3, vR 0]) (L' := LR z1 f1) 3 (b194_24 (mcall (d + 1)) x1 x2 x3 x3 _) ?_
          refine rc_if (it := 33) (ie := 31) (ls' := [some (vR 0), some (vI x1), some (vI x2), some (vI x3)]) (st' := [vI ((-1)), vI x3, vR 0]) (b194_14 (mcall (d + 1)) x1 ((-1)) x3 _ _) (fun q7 => ?_) (fun q7 => ?_)
          · have H := H.1 (cI1t q7)
            refine rc_b (i' := 35) (ls' := [some (vR 0), some (vI x1), some (vI x2), some (vI x3)]) (st' := [vI 1, vI x1, vI ((-1)), vI x3, vR 0]) (L' := LR z1 f1) 2 (b194_15 (mcall (d + 1)) x1 x2 x3 ((-1)) x3 _) ?_
            refine rc_f (it := 38) (ie := 36) (ls' := [some (vR 0), some (vI x1), some (vI x2), some (vI x3)]) (st' := [vI ((-1)), vI x3, vR 0]) (b194_16 (mcall (d + 1)) x1 1 ((-1)) x3 _ _) (pNf (cI1f q4)) ?_
            refine rc_b (i' := 44) (ls' := [some (vR 0), some (vI x1), some (vI x2), some (vI x3)]) (st' := [vI 1, vI ((-1)), vI x3, vR 0]) (L' := LR z1 f1) 2 (b194_25 (mcall (d + 1)) x1 x2 x3 ((-1)) x3 _) ?_
            refine rc_call (t := 45) (ls' := [some (vR 0), some (vI x1), some (vI x2), some (vI x3)]) (st' := []) (b194_20 (mcall (d + 1)) x3 ((-1)) 1 _ z1 f1) (isIn_r _ x3 ((-1)) 1 z1 f1) ?_
            show RC (mcall (d + 1)) (mP 194) 45 [some (vR 0), some (vI x1), some (vI x2), some (vI x3)] [vI (bI (-1 ≤ I x3 ∧ I x3 ≤ 1))] (LR z1 f1) res
            subst H
            exact rc_zret (b194_21 (mcall (d + 1)) _ _ _)
          · have H := H.2 (cI1f q7)
            refine rc_b (i' := 44) (ls' := [some (vR 0), some (vI x1), some (vI x2), some (vI x3)]) (st' := [vI 255, vI ((-1)), vI x3, vR 0]) (L' := LR z1 f1) 2 (b194_23 (mcall (d + 1)) x1 x2 x3 ((-1)) x3 _) ?_
            refine rc_call (t := 45) (ls' := [some (vR 0), some (vI x1), some (vI x2), some (vI x3)]) (st' := []) (b194_20 (mcall (d + 1)) x3 ((-1)) 255 _ z1 f1) (isIn_r _ x3 ((-1)) 255 z1 f1) ?_
            show RC (mcall (d + 1)) (mP 194) 45 [some (vR 0), some (vI x1), some (vI x2), some (vI x3)] [vI (bI (-1 ≤ I x3 ∧ I x3 ≤ 255))] (LR z1 f1) res
            subst H
            exact rc_zret (b194_21 (mcall (d + 1)) _ _ _)
      · have H := H.2 (cI1f q3)
        refine rc_b (i' := 20) (ls' := [some (vR 0), some (vI x1), some (vI x2), some (vI x3)]) (st' := [vI 0]) (L' := LR z1 f1) 1 (b194_6 (mcall (d + 1)) x1 x2 x3 _) ?_
        subst H
        exact rc_ret (b194_7 (mcall (d + 1)) _ _)
  · have H := H.2 (cI1f q1)
    refine rc_b (i' := 7) (ls' := [some (vR 0), some (vI x1), some (vI x2), some (vI x3)]) (st' := [vI 9, vI 0, vI x3, vR 0]) (L' := LR z f) 4 (b194_26 (mcall (d + 1)) x1 x2 x3 _) ?_
    refine rc_call (t := 8) (ls' := [some (vR 0), some (vI x1), some (vI x2), some (vI x3)]) (st' := []) (b194_27 (mcall (d + 1)) x3 0 9 _ z f) (isIn_r _ x3 0 9 z f) ?_
    show RC (mcall (d + 1)) (mP 194) 8 [some (vR 0), some (vI x1), some (vI x2), some (vI x3)] [vI (bI (0 ≤ I x3 ∧ I x3 ≤ 9))] (LR z f) res
    subst H
    exact rc_zret (b194_28 (mcall (d + 1)) _ _ _)
set_option maxRecDepth 100000 in
theorem b272_1 (call : QC FA) (x1 : Int32) (x2 : Int32) (x3 : Int32) (L : QH FA) (F : Nat) : rnG call 272 (F + 2) 0 [some (vR 0), some (vI x1), some (vI x2), some (vI x3)] [] L = rnG call 272 F 2 [some (vR 0), some (vI x1), some (vI x2), some (vI x3)] [vI 0, vR 0] L := rfl
set_option maxRecDepth 100000 in
theorem b272_2 (call : QC FA) (y : Int32) (ls : List (Option PV)) (z : Nat → Int32) (f : Nat → FA) (F : Nat) : rnG call 272 (F + 1) 2 ls [vI y, vR 0] (LR z f) = rnG call 272 F 3 ls [] (LR (uZ z 0 y) f) := rfl
set_option maxRecDepth 100000 in
theorem b272_3 (call : QC FA) (x1 : Int32) (x2 : Int32) (x3 : Int32) (L : QH FA) (F : Nat) : rnG call 272 (F + 4) 3 [some (vR 0), some (vI x1), some (vI x2), some (vI x3)] [] L = rnG call 272 F 7 [some (vR 0), some (vI x1), some (vI x2), some (vI x3)] [vI x3, vI x2, vI x1, vR 0] L := rfl
set_option maxRecDepth 100000 in
theorem b272_4 (call : QC FA) (a0 : Int32) (a1 : Int32) (a2 : Int32) (ls : List (Option PV)) (z : Nat → Int32) (f : Nat → FA) (F : Nat) : rnG call 272 (F + 1) 7 ls [vI a2, vI a1, vI a0, vR 0] (LR z f) = cbd (call 194 [vR 0, vI a0, vI a1, vI a2] (LR z f)) (fun r L' => rnG call 272 F 8 ls (r.toList ++ []) L') := pcY (ih := rnG call 272 F) (call := call) (a := 194) (b := 3) (v := 12) (t := 8) (x := 0) (ls := ls) (As := [vI a0, vI a1, vI a2]) (st' := []) (L := LR z f) rfl rfl rfl
set_option maxRecDepth 100000 in
theorem b272_5 (call : QC FA) (x : Int32) (ls : List (Option PV)) (L : QH FA) (F : Nat) : rnG call 272 (F + 1) 8 ls [vI x] L = bif pcmp 1 x 0 then rnG call 272 F 11 ls [] L else rnG call 272 F 9 ls [] L := rfl
set_option maxRecDepth 100000 in
theorem b272_6 (call : QC FA) (x1 : Int32) (x2 : Int32) (x3 : Int32) (L : QH FA) (F : Nat) : rnG call 272 (F + 1) 11 [some (vR 0), some (vI x1), some (vI x2), some (vI x3)] [] L = rnG call 272 F 12 [some (vR 0), some (vI x1), some (vI x2), some (vI x3)] [vI x1] L := rfl
set_option maxRecDepth 100000 in
theorem b272_7 (call : QC FA) (x : Int32) (ls : List (Option PV)) (L : QH FA) (F : Nat) : rnG call 272 (F + 1) 12 ls [vI x] L = bif pcmp 1 x 0 then rnG call 272 F 18 ls [] L else rnG call 272 F 13 ls [] L := rfl
set_option maxRecDepth 100000 in
theorem b272_8 (call : QC FA) (x1 : Int32) (x2 : Int32) (x3 : Int32) (L : QH FA) (F : Nat) : rnG call 272 (F + 2) 18 [some (vR 0), some (vI x1), some (vI x2), some (vI x3)] [] L = rnG call 272 F 20 [some (vR 0), some (vI x1), some (vI x2), some (vI x3)] [vI 1, vI x1] L := rfl
set_option maxRecDepth 100000 in
theorem b272_9 (call : QC FA) (x y : Int32) (ls : List (Option PV)) (L : QH FA) (F : Nat) : rnG call 272 (F + 1) 20 ls [vI y, vI x] L = bif pcmp 1 x y then rnG call 272 F 28 ls [] L else rnG call 272 F 21 ls [] L := rfl
set_option maxRecDepth 100000 in
theorem b272_10 (call : QC FA) (x1 : Int32) (x2 : Int32) (x3 : Int32) (L : QH FA) (F : Nat) : rnG call 272 (F + 2) 28 [some (vR 0), some (vI x1), some (vI x2), some (vI x3)] [] L = rnG call 272 F 30 [some (vR 0), some (vI x1), some (vI x2), some (vI x3)] [vI 2, vI x1] L := rfl
set_option maxRecDepth 100000 in
theorem b272_11 (call : QC FA) (x y : Int32) (ls : List (Option PV)) (L : QH FA) (F : Nat) : rnG call 272 (F + 1) 30 ls [vI y, vI x] L = bif pcmp 1 x y then rnG call 272 F 36 ls [] L else rnG call 272 F 31 ls [] L := rfl
set_option maxRecDepth 100000 in
theorem b272_12 (call : QC FA) (x1 : Int32) (x2 : Int32) (x3 : Int32) (L : QH FA) (F : Nat) : rnG call 272 (F + 2) 36 [some (vR 0), some (vI x1), some (vI x2), some (vI x3)] [] L = rnG call 272 F 38 [some (vR 0), some (vI x1), some (vI x2), some (vI x3)] [vI 3, vI x1] L := rfl
set_option maxRecDepth 100000 in
theorem b272_13 (call : QC FA) (x y : Int32) (ls : List (Option PV)) (L : QH FA) (F : Nat) : rnG call 272 (F + 1) 38 ls [vI y, vI x] L = bif pcmp 1 x y then rnG call 272 F 44 ls [] L else rnG call 272 F 39 ls [] L := rfl
set_option maxRecDepth 100000 in
theorem b272_14 (call : QC FA) (x1 : Int32) (x2 : Int32) (x3 : Int32) (L : QH FA) (F : Nat) : rnG call 272 (F + 2) 44 [some (vR 0), some (vI x1), some (vI x2), some (vI x3)] [] L = rnG call 272 F 46 [some (vR 0), some (vI x1), some (vI x2), some (vI x3)] [vI 4, vI x1] L := rfl
set_option maxRecDepth 100000 in
theorem b272_15 (call : QC FA) (x y : Int32) (ls : List (Option PV)) (L : QH FA) (F : Nat) : rnG call 272 (F + 1) 46 ls [vI y, vI x] L = bif pcmp 1 x y then rnG call 272 F 52 ls [] L else rnG call 272 F 47 ls [] L := rfl
set_option maxRecDepth 100000 in
theorem b272_16 (call : QC FA) (x1 : Int32) (x2 : Int32) (x3 : Int32) (L : QH FA) (F : Nat) : rnG call 272 (F + 2) 52 [some (vR 0), some (vI x1), some (vI x2), some (vI x3)] [] L = rnG call 272 F 54 [some (vR 0), some (vI x1), some (vI x2), some (vI x3)] [vI 0, vR 0] L := rfl
set_option maxRecDepth 100000 in
theorem b272_17 (call : QC FA) (y : Int32) (ls : List (Option PV)) (z : Nat → Int32) (f : Nat → FA) (F : Nat) : rnG call 272 (F + 1) 54 ls [vI y, vR 0] (LR z f) = rnG call 272 F 55 ls [] (LR (uZ z 3 y) f) := rfl
set_option maxRecDepth 100000 in
theorem b272_18 (call : QC FA) (x1 : Int32) (x2 : Int32) (x3 : Int32) (L : QH FA) (F : Nat) : rnG call 272 (F + 1) 55 [some (vR 0), some (vI x1), some (vI x2), some (vI x3)] [] L = rnG call 272 F 56 [some (vR 0), some (vI x1), some (vI x2), some (vI x3)] [vI 1] L := rfl
set_option maxRecDepth 100000 in
theorem b272_19 (call : QC FA) (ls : List (Option PV)) (L : QH FA) (F : Nat) : rnG call 272 (F + 1) 56 ls [vI 1] L = some (some (vI 1), L) := rfl
set_option maxRecDepth 100000 in
theorem b272_20 (call : QC FA) (x1 : Int32) (x2 : Int32) (x3 : Int32) (z : Nat → Int32) (f : Nat → FA) (F : Nat) : rnG call 272 (F + 4) 47 [some (vR 0), some (vI x1), some (vI x2), some (vI x3)] [] (LR z f) = rnG call 272 F 51 [some (vR 0), some (vI x1), some (vI x2), some (vI x3)] [vI x3, vI 4, vR 1] (LR z f) := rfl
set_option maxRecDepth 100000 in
theorem b272_21 (call : QC FA) (x y : Int32) (ls : List (Option PV)) (z : Nat → Int32) (f : Nat → FA) (F : Nat) : rnG call 272 (F + 1) 51 ls [vI y, vI x, vR 1] (LR z f) = bif (Nat.beq 0 0 && pin x 499) then rnG call 272 F 52 ls [] (LR z (uA f 1 (upd (f 1) (ix x) y))) else none := rfl
set_option maxRecDepth 100000 in
theorem b272_22 (call : QC FA) (x1 : Int32) (x2 : Int32) (x3 : Int32) (z : Nat → Int32) (f : Nat → FA) (F : Nat) : rnG call 272 (F + 4) 39 [some (vR 0), some (vI x1), some (vI x2), some (vI x3)] [] (LR z f) = rnG call 272 F 43 [some (vR 0), some (vI x1), some (vI x2), some (vI x3)] [vI x3, vI x2, vR 6] (LR z f) := rfl
set_option maxRecDepth 100000 in
theorem b272_23 (call : QC FA) (x y : Int32) (ls : List (Option PV)) (z : Nat → Int32) (f : Nat → FA) (F : Nat) : rnG call 272 (F + 1) 43 ls [vI y, vI x, vR 6] (LR z f) = bif (Nat.beq 0 0 && pin x 20) then rnG call 272 F 44 ls [] (LR z (uA f 6 (upd (f 6) (ix x) y))) else none := rfl
set_option maxRecDepth 100000 in
theorem b272_24 (call : QC FA) (x1 : Int32) (x2 : Int32) (x3 : Int32) (z : Nat → Int32) (f : Nat → FA) (F : Nat) : rnG call 272 (F + 4) 31 [some (vR 0), some (vI x1), some (vI x2), some (vI x3)] [] (LR z f) = rnG call 272 F 35 [some (vR 0), some (vI x1), some (vI x2), some (vI x3)] [vI x3, vI x2, vR 5] (LR z f) := rfl
set_option maxRecDepth 100000 in
theorem b272_25 (call : QC FA) (x y : Int32) (ls : List (Option PV)) (z : Nat → Int32) (f : Nat → FA) (F : Nat) : rnG call 272 (F + 1) 35 ls [vI y, vI x, vR 5] (LR z f) = bif (Nat.beq 0 0 && pin x 20) then rnG call 272 F 36 ls [] (LR z (uA f 5 (upd (f 5) (ix x) y))) else none := rfl
set_option maxRecDepth 100000 in
theorem b272_26 (call : QC FA) (x1 : Int32) (x2 : Int32) (x3 : Int32) (z : Nat → Int32) (f : Nat → FA) (F : Nat) : rnG call 272 (F + 6) 21 [some (vR 0), some (vI x1), some (vI x2), some (vI x3)] [] (LR z f) = rnG call 272 F 27 [some (vR 0), some (vI x1), some (vI x2), some (vI x3)] [vI x3, vI (7 + x2), vR 1] (LR z f) := rfl
set_option maxRecDepth 100000 in
theorem b272_27 (call : QC FA) (x y : Int32) (ls : List (Option PV)) (z : Nat → Int32) (f : Nat → FA) (F : Nat) : rnG call 272 (F + 1) 27 ls [vI y, vI x, vR 1] (LR z f) = bif (Nat.beq 0 0 && pin x 499) then rnG call 272 F 28 ls [] (LR z (uA f 1 (upd (f 1) (ix x) y))) else none := rfl
set_option maxRecDepth 100000 in
theorem b272_28 (call : QC FA) (x1 : Int32) (x2 : Int32) (x3 : Int32) (z : Nat → Int32) (f : Nat → FA) (F : Nat) : rnG call 272 (F + 4) 13 [some (vR 0), some (vI x1), some (vI x2), some (vI x3)] [] (LR z f) = rnG call 272 F 17 [some (vR 0), some (vI x1), some (vI x2), some (vI x3)] [vI x3, vI x2, vR 4] (LR z f) := rfl
set_option maxRecDepth 100000 in
theorem b272_29 (call : QC FA) (x y : Int32) (ls : List (Option PV)) (z : Nat → Int32) (f : Nat → FA) (F : Nat) : rnG call 272 (F + 1) 17 ls [vI y, vI x, vR 4] (LR z f) = bif (Nat.beq 0 0 && pin x 20) then rnG call 272 F 18 ls [] (LR z (uA f 4 (upd (f 4) (ix x) y))) else none := rfl
set_option maxRecDepth 100000 in
theorem b272_30 (call : QC FA) (x1 : Int32) (x2 : Int32) (x3 : Int32) (L : QH FA) (F : Nat) : rnG call 272 (F + 1) 9 [some (vR 0), some (vI x1), some (vI x2), some (vI x3)] [] L = rnG call 272 F 10 [some (vR 0), some (vI x1), some (vI x2), some (vI x3)] [vI 0] L := rfl
set_option maxRecDepth 100000 in
theorem b272_31 (call : QC FA) (ls : List (Option PV)) (L : QH FA) (F : Nat) : rnG call 272 (F + 1) 10 ls [vI 0] L = some (some (vI 0), L) := rfl
theorem vc272_0 (d : Nat) (x1 : Int32) (x2 : Int32) (x3 : Int32) (z : Nat → Int32) (f : Nat → FA) (res : Option PV × QH FA) (H : (∃ (r1 : Int32) (z1 : Nat → Int32) (f1 : Nat → FA), (mcall (d + 1)) 194 [vR 0, vI x1, vI x2, vI x3] (LR (uZ z 0 0) f) = some (some (vI r1), LR z1 f1) ∧ ((¬ r1 = 0 → ((¬ x1 = 0 → ((¬ x1 = 1 → ((¬ x1 = 2 → ((¬ x1 = 3 → ((¬ x1 = 4 → res = (some (vI 1), LR (uZ z1 3 0) f1)) ∧ (x1 = 4 → (pin 4 499 = true ∧ res = (some (vI 1), LR (uZ z1 3 0) (uA f1 1 (upd (f1 1) (ix 4) x3))))))) ∧ (x1 = 3 → (pin x2 20 = true ∧ ((¬ x1 = 4 → res = (some (vI 1), LR (uZ z1 3 0) (uA f1 6 (upd (f1 6) (ix x2) x3)))) ∧ (x1 = 4 → (pin 4 499 = true ∧ res = (some (vI 1), LR (uZ z1 3 0) (uA (uA f1 6 (upd (f1 6) (ix x2) x3)) 1 (upd (f1 1) (ix 4) x3)))))))))) ∧ (x1 = 2 → (pin x2 20 = true ∧ ((¬ x1 = 3 → ((¬ x1 = 4 → res = (some (vI 1), LR (uZ z1 3 0) (uA f1 5 (upd (f1 5) (ix x2) x3)))) ∧ (x1 = 4 → (pin 4 499 = true ∧ res = (some (vI 1), LR (uZ z1 3 0) (uA (uA f1 5 (upd (f1 5) (ix x2) x3)) 1 (upd (f1 1) (ix 4) x3))))))) ∧ (x1 = 3 → (pin x2 20 = true ∧ ((¬ x1 = 4 → res = (some (vI 1), LR (uZ z1 3 0) (uA (uA f1 5 (upd (f1 5) (ix x2) x3)) 6 (upd (f1 6) (ix x2) x3)))) ∧ (x1 = 4 → (pin 4 499 = true ∧ res = (some (vI 1), LR (uZ z1 3 0) (uA (uA (uA f1 5 (upd (f1 5) (ix x2) x3)) 6 (upd (f1 6) (ix x2) x3)) 1 (upd (f1 1) (ix 4) x3))))))))))))) ∧ (x1 = 1 → (pin (7 + x2) 499 = true ∧ ((¬ x1 = 2 → ((¬ x1 = 3 → ((¬ x1 = 4 → res = (some (vI 1), LR (uZ z1 3 0) (uA f1 1 (upd (f1 1) (ix (7 + x2)) x3)))) ∧ (x1 = 4 → (pin 4 499 = true ∧ res = (some (vI 1), LR (uZ z1 3 0) (uA (uA f1 1 (upd (f1 1) (ix (7 + x2)) x3)) 1 (upd (upd (f1 1) (ix (7 + x2)) x3) (ix 4) x3))))))) ∧ (x1 = 3 → (pin x2 20 = true ∧ ((¬ x1 = 4 → res = (some (vI 1), LR (uZ z1 3 0) (uA (uA f1 1 (upd (f1 1) (ix (7 + x2)) x3)) 6 (upd (f1 6) (ix x2) x3)))) ∧ (x1 = 4 → (pin 4 499 = true ∧ res = (some (vI 1), LR (uZ z1 3 0) (uA (uA (uA f1 1 (upd (f1 1) (ix (7 + x2)) x3)) 6 (upd (f1 6) (ix x2) x3)) 1 (upd (upd (f1 1) (ix (7 + x2)) x3) (ix 4) x3)))))))))) ∧ (x1 = 2 → (pin x2 20 = true ∧ ((¬ x1 = 3 → ((¬ x1 = 4 → res = (some (vI 1), LR (uZ z1 3 0) (uA (uA f1 1 (upd (f1 1) (ix (7 + x2)) x3)) 5 (upd (f1 5) (ix x2) x3)))) ∧ (x1 = 4 → (pin 4 499 = true ∧ res = (some (vI 1), LR (uZ z1 3 0) (uA (uA (uA f1 1 (upd (f1 1) (ix (7 + x2)) x3)) 5 (upd (f1 5) (ix x2) x3)) 1 (upd (upd (f1 1) (ix (7 + x2)) x3) (ix 4) x3))))))) ∧ (x1 = 3 → (pin x2 20 = true ∧ ((¬ x1 = 4 → res = (some (vI 1), LR (uZ z1 3 0) (uA (uA (uA f1 1 (upd (f1 1) (ix (7 + x2)) x3)) 5 (upd (f1 5) (ix x2) x3)) 6 (upd (f1 6) (ix x2) x3)))) ∧ (x1 = 4 → (pin 4 499 = true ∧ res = (some (vI 1), LR (uZ z1 3 0) (uA (uA (uA (uA f1 1 (upd (f1 1) (ix (7 + x2)) x3)) 5 (upd (f1 5) (ix x2) x3)) 6 (upd (f1 6) (ix x2) x3)) 1 (upd (upd (f1 1) (ix (7 + x2)) x3) (ix 4) x3)))))))))))))))) ∧ (x1 = 0 → (pin x2 20 = true ∧ ((¬ x1 = 1 → ((¬ x1 = 2 → ((¬ x1 = 3 → ((¬ x1 = 4 → res = (some (vI 1), LR (uZ z1 3 0) (uA f1 4 (upd (f1 4) (ix x2) x3)))) ∧ (x1 = 4 → (pin 4 499 = true ∧ res = (some (vI 1), LR (uZ z1 3 0) (uA (uA f1 4 (upd (f1 4) (ix x2) x3)) 1 (upd (f1 1) (ix 4) x3))))))) ∧ (x1 = 3 → (pin x2 20 = true ∧ ((¬ x1 = 4 → res = (some (vI 1), LR (uZ z1 3 0) (uA (uA f1 4 (upd (f1 4) (ix x2) x3)) 6 (upd (f1 6) (ix x2) x3)))) ∧ (x1 = 4 → (pin 4 499 = true ∧ res = (some (vI 1), LR (uZ z1 3 0) (uA (uA (uA f1 4 (upd (f1 4) (ix x2) x3)) 6 (upd (f1 6) (ix x2) x3)) 1 (upd (f1 1) (ix 4) x3)))))))))) ∧ (x1 = 2 → (pin x2 20 = true ∧ ((¬ x1 = 3 → ((¬ x1 = 4 → res = (some (vI 1), LR (uZ z1 3 0) (uA (uA f1 4 (upd (f1 4) (ix x2) x3)) 5 (upd (f1 5) (ix x2) x3)))) ∧ (x1 = 4 → (pin 4 499 = true ∧ res = (some (vI 1), LR (uZ z1 3 0) (uA (uA (uA f1 4 (upd (f1 4) (ix x2) x3)) 5 (upd (f1 5) (ix x2) x3)) 1 (upd (f1 1) (ix 4) x3))))))) ∧ (x1 = 3 → (pin x2 20 = true ∧ ((¬ x1 = 4 → res = (some (vI 1), LR (uZ z1 3 0) (uA (uA (uA f1 4 (upd (f1 4) (ix x2) x3)) 5 (upd (f1 5) (ix x2) x3)) 6 (upd (f1 6) (ix x2) x3)))) ∧ (x1 = 4 → (pin 4 499 = true ∧ res = (some (vI 1), LR (uZ z1 3 0) (uA (uA (uA (uA f1 4 (upd (f1 4) (ix x2) x3)) 5 (upd (f1 5) (ix x2) x3)) 6 (upd (f1 6) (ix x2) x3)) 1 (upd (f1 1) (ix 4) x3))))))))))))) ∧ (x1 = 1 → (pin (7 + x2) 499 = true ∧ ((¬ x1 = 2 → ((¬ x1 = 3 → ((¬ x1 = 4 → res = (some (vI 1), LR (uZ z1 3 0) (uA (uA f1 4 (upd (f1 4) (ix x2) x3)) 1 (upd (f1 1) (ix (7 + x2)) x3)))) ∧ (x1 = 4 → (pin 4 499 = true ∧ res = (some (vI 1), LR (uZ z1 3 0) (uA (uA (uA f1 4 (upd (f1 4) (ix x2) x3)) 1 (upd (f1 1) (ix (7 + x2)) x3)) 1 (upd (upd (f1 1) (ix (7 + x2)) x3) (ix 4) x3))))))) ∧ (x1 = 3 → (pin x2 20 = true ∧ ((¬ x1 = 4 → res = (some (vI 1), LR (uZ z1 3 0) (uA (uA (uA f1 4 (upd (f1 4) (ix x2) x3)) 1 (upd (f1 1) (ix (7 + x2)) x3)) 6 (upd (f1 6) (ix x2) x3)))) ∧ (x1 = 4 → (pin 4 499 = true ∧ res = (some (vI 1), LR (uZ z1 3 0) (uA (uA (uA (uA f1 4 (upd (f1 4) (ix x2) x3)) 1 (upd (f1 1) (ix (7 + x2)) x3)) 6 (upd (f1 6) (ix x2) x3)) 1 (upd (upd (f1 1) (ix (7 + x2)) x3) (ix 4) x3)))))))))) ∧ (x1 = 2 → (pin x2 20 = true ∧ ((¬ x1 = 3 → ((¬ x1 = 4 → res = (some (vI 1), LR (uZ z1 3 0) (uA (uA (uA f1 4 (upd (f1 4) (ix x2) x3)) 1 (upd (f1 1) (ix (7 + x2)) x3)) 5 (upd (f1 5) (ix x2) x3)))) ∧ (x1 = 4 → (pin 4 499 = true ∧ res = (some (vI 1), LR (uZ z1 3 0) (uA (uA (uA (uA f1 4 (upd (f1 4) (ix x2) x3)) 1 (upd (f1 1) (ix (7 + x2)) x3)) 5 (upd (f1 5) (ix x2) x3)) 1 (upd (upd (f1 1) (ix (7 + x2)) x3) (ix 4) x3))))))) ∧ (x1 = 3 → (pin x2 20 = true ∧ ((¬ x1 = 4 → res = (some (vI 1), LR (uZ z1 3 0) (uA (uA (uA (uA f1 4 (upd (f1 4) (ix x2) x3)) 1 (upd (f1 1) (ix (7 + x2)) x3)) 5 (upd (f1 5) (ix x2) x3)) 6 (upd (f1 6) (ix x2) x3)))) ∧ (x1 = 4 → (pin 4 499 = true ∧ res = (some (vI 1), LR (uZ z1 3 0) (uA (uA (uA (uA (uA f1 4 (upd (f1 4) (ix x2) x3)) 1 (upd (f1 1) (ix (7 + x2)) x3)) 5 (upd (f1 5) (ix x2) x3)) 6 (upd (f1 6) (ix x2) x3)) 1 (upd (upd (f1 1) (ix (7 + x2)) x3) (ix 4) x3))))))))))))))))))) ∧ (r1 = 0 → res = (some (vI 0), LR z1 f1))))) : RC (mcall (d + 1)) (mP 272) 0 [some (vR 0), some (vI x1), some (vI x2), some (vI x3)] [] (LR z f) res := by
  refine rc_b (i' := 2) (ls' := [some (vR 0), some (vI x1), some (vI x2), some (vI x3)]) (st' := [vI 0, vR 0]) (L' := LR z f) 2 (b272_1 (mcall (d + 1)) x1 x2 x3 _) ?_
  refine rc_b (i' := 3) (ls' := [some (vR 0), some (vI x1), some (vI x2), some (vI x3)]) (st' := []) (L' := LR (uZ z 0 0) f) 1 (b272_2 (mcall (d + 1)) 0 _ z f) ?_
  refine rc_b (i' := 7) (ls' := [some (vR 0), some (vI x1), some (vI x2), some (vI x3)]) (st' := [vI x3, vI x2, vI x1, vR 0]) (L' := LR (uZ z 0 0) f) 4 (b272_3 (mcall (d + 1)) x1 x2 x3 _) ?_
  obtain ⟨r1, z1, f1, hc, H⟩ := H
  refine rc_call (t := 8) (ls' := [some (vR 0), some (vI x1), some (vI x2), some (vI x3)]) (st' := []) (b272_4 (mcall (d + 1)) x1 x2 x3 _ (uZ z 0 0) f) hc ?_
  show RC (mcall (d + 1)) (mP 272) 8 [some (vR 0), some (vI x1), some (vI x2), some (vI x3)] [vI r1] (LR z1 f1) res
  refine rc_if (it := 11) (ie := 9) (ls' := [some (vR 0), some (vI x1), some (vI x2), some (vI x3)]) (st' := []) (b272_5 (mcall (d + 1)) r1 _ _) (fun q1 => ?_) (fun q1 => ?_)
  · have H := H.1 (cI1t q1)
    refine rc_b (i' := 12) (ls' := [some (vR 0), some (vI x1), some (vI x2), some (vI x3)]) (st' := [vI x1]) (L' := LR z1 f1) 1 (b272_6 (mcall (d + 1)) x1 x2 x3 _) ?_
    refine rc_if (it := 18) (ie := 13) (ls' := [some (vR 0), some (vI x1), some (vI x2), some (vI x3)]) (st' := []) (b272_7 (mcall (d + 1)) x1 _ _) (fun q2 => ?_) (fun q2 => ?_)
    · have H := H.1 (cI1t q2)
      refine rc_b (i' := 20) (ls' := [some (vR 0), some (vI x1), some (vI x2), some (vI x3)]) (st' := [vI 1, vI x1]) (L' := LR z1 f1) 2 (b272_8 (mcall (d + 1)) x1 x2 x3 _) ?_
      refine rc_if (it := 28) (ie := 21) (ls' := [some (vR 0), some (vI x1), some (vI x2), some (vI x3)]) (st' := []) (b272_9 (mcall (d + 1)) x1 1 _ _) (fun q3 => ?_) (fun q3 => ?_)
      · have H := H.1 (cI1t q3)
        refine rc_b (i' := 30) (ls' := [some (vR 0), some (vI x1), some (vI x2), some (vI x3)]) (st' := [vI 2, vI x1]) (L' := LR z1 f1) 2 (b272_10 (mcall (d + 1)) x1 x2 x3 _) ?_
        refine rc_if (it := 36) (ie := 31) (ls' := [some (vR 0), some (vI x1), some (vI x2), some (vI x3)]) (st' := []) (b272_11 (mcall (d + 1)) x1 2 _ _) (fun q4 => ?_) (fun q4 => ?_)
        · have H := H.1 (cI1t q4)
          refine rc_b (i' := 38) (ls' := [some (vR 0), some (vI x1), some (vI x2), some (vI x3)]) (st' := [vI 3, vI x1]) (L' := LR z1 f1) 2 (b272_12 (mcall (d + 1)) x1 x2 x3 _) ?_
          refine rc_if (it := 44) (ie := 39) (ls' := [some (vR 0), some (vI x1), some (vI x2), some (vI x3)]) (st' := []) (b272_13 (mcall (d + 1)) x1 3 _ _) (fun q5 => ?_) (fun q5 => ?_)
          · have H := H.1 (cI1t q5)
            refine rc_b (i' := 46) (ls' := [some (vR 0), some (vI x1), some (vI x2), some (vI x3)]) (st' := [vI 4, vI x1]) (L' := LR z1 f1) 2 (b272_14 (mcall (d + 1)) x1 x2 x3 _) ?_
            refine rc_if (it := 52) (ie := 47) (ls' := [some (vR 0), some (vI x1), some (vI x2), some (vI x3)]) (st' := []) (b272_15 (mcall (d + 1)) x1 4 _ _) (fun q6 => ?_) (fun q6 => ?_)
            · have H := H.1 (cI1t q6)
              refine rc_b (i' := 54) (ls' := [some (vR 0), some (vI x1), some (vI x2), some (vI x3)]) (st' := [vI 0, vR 0]) (L' := LR z1 f1) 2 (b272_16 (mcall (d + 1)) x1 x2 x3 _) ?_
              refine rc_b (i' := 55) (ls' := [some (vR 0), some (vI x1), some (vI x2), some (vI x3)]) (st' := []) (L' := LR (uZ z1 3 0) f1) 1 (b272_17 (mcall (d + 1)) 0 _ z1 f1) ?_
              refine rc_b (i' := 56) (ls' := [some (vR 0), some (vI x1), some (vI x2), some (vI x3)]) (st' := [vI 1]) (L' := LR (uZ z1 3 0) f1) 1 (b272_18 (mcall (d + 1)) x1 x2 x3 _) ?_
              subst H
              exact rc_ret (b272_19 (mcall (d + 1)) _ _)
            · have H := H.2 (cI1f q6)
              refine rc_b (i' := 51) (ls' := [some (vR 0), some (vI x1), some (vI x2), some (vI x3)]) (st' := [vI x3, vI 4, vR 1]) (L' := LR z1 f1) 4 (b272_20 (mcall (d + 1)) x1 x2 x3 z1 f1) ?_
              obtain ⟨g1, H⟩ := H
              refine rc_g (i' := 52) (ls' := [some (vR 0), some (vI x1), some (vI x2), some (vI x3)]) (st' := []) (L' := LR z1 (uA f1 1 (upd (f1 1) (ix 4) x3))) (b272_21 (mcall (d + 1)) 4 x3 _ z1 f1) (pinG g1) ?_
              refine rc_b (i' := 54) (ls' := [some (vR 0), some (vI x1), some (vI x2), some (vI x3)]) (st' := [vI 0, vR 0]) (L' := LR z1 (uA f1 1 (upd (f1 1) (ix 4) x3))) 2 (b272_16 (mcall (d + 1)) x1 x2 x3 _) ?_
              refine rc_b (i' := 55) (ls' := [some (vR 0), some (vI x1), some (vI x2), some (vI x3)]) (st' := []) (L' := LR (uZ z1 3 0) (uA f1 1 (upd (f1 1) (ix 4) x3))) 1 (b272_17 (mcall (d + 1)) 0 _ z1 (uA f1 1 (upd (f1 1) (ix 4) x3))) ?_
              refine rc_b (i' := 56) (ls' := [some (vR 0), some (vI x1), some (vI x2), some (vI x3)]) (st' := [vI 1]) (L' := LR (uZ z1 3 0) (uA f1 1 (upd (f1 1) (ix 4) x3))) 1 (b272_18 (mcall (d + 1)) x1 x2 x3 _) ?_
              subst H
              exact rc_ret (b272_19 (mcall (d + 1)) _ _)
          · have H := H.2 (cI1f q5)
            refine rc_b (i' := 43) (ls' := [some (vR 0), some (vI x1), some (vI x2), some (vI x3)]) (st' := [vI x3, vI x2, vR 6]) (L' := LR z1 f1) 4 (b272_22 (mcall (d + 1)) x1 x2 x3 z1 f1) ?_
            obtain ⟨g1, H⟩ := H
            refine rc_g (i' := 44) (ls' := [some (vR 0), some (vI x1), some (vI x2), some (vI x3)]) (st' := []) (L' := LR z1 (uA f1 6 (upd (f1 6) (ix x2) x3))) (b272_23 (mcall (d + 1)) x2 x3 _ z1 f1) (pinG g1) ?_
            refine rc_b (i' := 46) (ls' := [some (vR 0), some (vI x1), some (vI x2), some (vI x3)]) (st' := [vI 4, vI x1]) (L' := LR z1 (uA f1 6 (upd (f1 6) (ix x2) x3))) 2 (b272_14 (mcall (d + 1)) x1 x2 x3 _) ?_
            refine rc_if (it := 52) (ie := 47) (ls' := [some (vR 0), some (vI x1), some (vI x2), some (vI x3)]) (st' := []) (b272_15 (mcall (d + 1)) x1 4 _ _) (fun q7 => ?_) (fun q7 => ?_)
            · have H := H.1 (cI1t q7)
              refine rc_b (i' := 54) (ls' := [some (vR 0), some (vI x1), some (vI x2), some (vI x3)]) (st' := [vI 0, vR 0]) (L' := LR z1 (uA f1 6 (upd (f1 6) (ix x2) x3))) 2 (b272_16 (mcall (d + 1)) x1 x2 x3 _) ?_
              refine rc_b (i' := 55) (ls' := [some (vR 0), some (vI x1), some (vI x2), some (vI x3)]) (st' := []) (L' := LR (uZ z1 3 0) (uA f1 6 (upd (f1 6) (ix x2) x3))) 1 (b272_17 (mcall (d + 1)) 0 _ z1 (uA f1 6 (upd (f1 6) (ix x2) x3))) ?_
              refine rc_b (i' := 56) (ls' := [some (vR 0), some (vI x1), some (vI x2), some (vI x3)]) (st' := [vI 1]) (L' := LR (uZ z1 3 0) (uA f1 6 (upd (f1 6) (ix x2) x3))) 1 (b272_18 (mcall (d + 1)) x1 x2 x3 _) ?_
              subst H
              exact rc_ret (b272_19 (mcall (d + 1)) _ _)
            · have H := H.2 (cI1f q7)
              refine rc_b (i' := 51) (ls' := [some (vR 0), some (vI x1), some (vI x2), some (vI x3)]) (st' := [vI x3, vI 4, vR 1]) (L' := LR z1 (uA f1 6 (upd (f1 6) (ix x2) x3))) 4 (b272_20 (mcall (d + 1)) x1 x2 x3 z1 (uA f1 6 (upd (f1 6) (ix x2) x3))) ?_
              obtain ⟨g1, H⟩ := H
              refine rc_g (i' := 52) (ls' := [some (vR 0), some (vI x1), some (vI x2), some (vI x3)]) (st' := []) (L' := LR z1 (uA (uA f1 6 (upd (f1 6) (ix x2) x3)) 1 (upd (f1 1) (ix 4) x3))) (b272_21 (mcall (d + 1)) 4 x3 _ z1 (uA f1 6 (upd (f1 6) (ix x2) x3))) (pinG g1) ?_
              refine rc_b (i' := 54) (ls' := [some (vR 0), some (vI x1), some (vI x2), some (vI x3)]) (st' := [vI 0, vR 0]) (L' := LR z1 (uA (uA f1 6 (upd (f1 6) (ix x2) x3)) 1 (upd (f1 1) (ix 4) x3))) 2 (b272_16 (mcall (d + 1)) x1 x2 x3 _) ?_
              refine rc_b (i' := 55) (ls' := [some (vR 0), some (vI x1), some (vI x2), some (vI x3)]) (st' := []) (L' := LR (uZ z1 3 0) (uA (uA f1 6 (upd (f1 6) (ix x2) x3)) 1 (upd (f1 1) (ix 4) x3))) 1 (b272_17 (mcall (d + 1)) 0 _ z1 (uA (uA f1 6 (upd (f1 6) (ix x2) x3)) 1 (upd (f1 1) (ix 4) x3))) ?_
              refine rc_b (i' := 56) (ls' := [some (vR 0), some (vI x1), some (vI x2), some (vI x3)]) (st' := [vI 1]) (L' := LR (uZ z1 3 0) (uA (uA f1 6 (upd (f1 6) (ix x2) x3)) 1 (upd (f1 1) (ix 4) x3))) 1 (b272_18 (mcall (d + 1)) x1 x2 x3 _) ?_
              subst H
              exact rc_ret (b272_19 (mcall (d + 1)) _ _)
        · have H := H.2 (cI1f q4)
          refine rc_b (i' := 35) (ls' := [some (vR 0), some (vI x1), some (vI x2), some (vI x3)]) (st' := [vI x3, vI x2, vR 5]) (L' := LR z1 f1) 4 (b272_24 (mcall (d + 1)) x1 x2 x3 z1 f1) ?_
          obtain ⟨g1, H⟩ := H
          refine rc_g (i' := 36) (ls' := [some (vR 0), some (vI x1), some (vI x2), some (vI x3)]) (st' := []) (L' := LR z1 (uA f1 5 (upd (f1 5) (ix x2) x3))) (b272_25 (mcall (d + 1)) x2 x3 _ z1 f1) (pinG g1) ?_
          refine rc_b (i' := 38) (ls' := [some (vR 0), some (vI x1), some (vI x2), some (vI x3)]) (st' := [vI 3, vI x1]) (L' := LR z1 (uA f1 5 (upd (f1 5) (ix x2) x3))) 2 (b272_12 (mcall (d + 1)) x1 x2 x3 _) ?_
          refine rc_if (it := 44) (ie := 39) (ls' := [some (vR 0), some (vI x1), some (vI x2), some (vI x3)]) (st' := []) (b272_13 (mcall (d + 1)) x1 3 _ _) (fun q8 => ?_) (fun q8 => ?_)
          · have H := H.1 (cI1t q8)
            refine rc_b (i' := 46) (ls' := [some (vR 0), some (vI x1), some (vI x2), some (vI x3)]) (st' := [vI 4, vI x1]) (L' := LR z1 (uA f1 5 (upd (f1 5) (ix x2) x3))) 2 (b272_14 (mcall (d + 1)) x1 x2 x3 _) ?_
            refine rc_if (it := 52) (ie := 47) (ls' := [some (vR 0), some (vI x1), some (vI x2), some (vI x3)]) (st' := []) (b272_15 (mcall (d + 1)) x1 4 _ _) (fun q9 => ?_) (fun q9 => ?_)
            · have H := H.1 (cI1t q9)
              refine rc_b (i' := 54) (ls' := [some (vR 0), some (vI x1), some (vI x2), some (vI x3)]) (st' := [vI 0, vR 0]) (L' := LR z1 (uA f1 5 (upd (f1 5) (ix x2) x3))) 2 (b272_16 (mcall (d + 1)) x1 x2 x3 _) ?_
              refine rc_b (i' := 55) (ls' := [some (vR 0), some (vI x1), some (vI x2), some (vI x3)]) (st' := []) (L' := LR (uZ z1 3 0) (uA f1 5 (upd (f1 5) (ix x2) x3))) 1 (b272_17 (mcall (d + 1)) 0 _ z1 (uA f1 5 (upd (f1 5) (ix x2) x3))) ?_
              refine rc_b (i' := 56) (ls' := [some (vR 0), some (vI x1), some (vI x2), some (vI x3)]) (st' := [vI 1]) (L' := LR (uZ z1 3 0) (uA f1 5 (upd (f1 5) (ix x2) x3))) 1 (b272_18 (mcall (d + 1)) x1 x2 x3 _) ?_
              subst H
              exact rc_ret (b272_19 (mcall (d + 1)) _ _)
            · have H := H.2 (cI1f q9)
              refine rc_b (i' := 51) (ls' := [some (vR 0), some (vI x1), some (vI x2), some (vI x3)]) (st' := [vI x3, vI 4, vR 1]) (L' := LR z1 (uA f1 5 (upd (f1 5) (ix x2) x3))) 4 (b272_20 (mcall (d + 1)) x1 x2 x3 z1 (uA f1 5 (upd (f1 5) (ix x2) x3))) ?_
              obtain ⟨g1, H⟩ := H
              refine rc_g (i' := 52) (ls' := [some (vR 0), some (vI x1), some (vI x2), some (vI x3)]) (st' := []) (L' := LR z1 (uA (uA f1 5 (upd (f1 5) (ix x2) x3)) 1 (upd (f1 1) (ix 4) x3))) (b272_21 (mcall (d + 1)) 4 x3 _ z1 (uA f1 5 (upd (f1 5) (ix x2) x3))) (pinG g1) ?_
              refine rc_b (i' := 54) (ls' := [some (vR 0), some (vI x1), some (vI x2), some (vI x3)]) (st' := [vI 0, vR 0]) (L' := LR z1 (uA (uA f1 5 (upd (f1 5) (ix x2) x3)) 1 (upd (f1 1) (ix 4) x3))) 2 (b272_16 (mcall (d + 1)) x1 x2 x3 _) ?_
              refine rc_b (i' := 55) (ls' := [some (vR 0), some (vI x1), some (vI x2), some (vI x3)]) (st' := []) (L' := LR (uZ z1 3 0) (uA (uA f1 5 (upd (f1 5) (ix x2) x3)) 1 (upd (f1 1) (ix 4) x3))) 1 (b272_17 (mcall (d + 1)) 0 _ z1 (uA (uA f1 5 (upd (f1 5) (ix x2) x3)) 1 (upd (f1 1) (ix 4) x3))) ?_
              refine rc_b (i' := 56) (ls' := [some (vR 0), some (vI x1), some (vI x2), some (vI x3)]) (st' := [vI 1]) (L' := LR (uZ z1 3 0) (uA (uA f1 5 (upd (f1 5) (ix x2) x3)) 1 (upd (f1 1) (ix 4) x3))) 1 (b272_18 (mcall (d + 1)) x1 x2 x3 _) ?_
              subst H
              exact rc_ret (b272_19 (mcall (d + 1)) _ _)
          · have H := H.2 (cI1f q8)
            refine rc_b (i' := 43) (ls' := [some (vR 0), some (vI x1), some (vI x2), some (vI x3)]) (st' := [vI x3, vI x2, vR 6]) (L' := LR z1 (uA f1 5 (upd (f1 5) (ix x2) x3))) 4 (b272_22 (mcall (d + 1)) x1 x2 x3 z1 (uA f1 5 (upd (f1 5) (ix x2) x3))) ?_
            obtain ⟨g1, H⟩ := H
            refine rc_g (i' := 44) (ls' := [some (vR 0), some (vI x1), some (vI x2), some (vI x3)]) (st' := []) (L' := LR z1 (uA (uA f1 5 (upd (f1 5) (ix x2) x3)) 6 (upd (f1 6) (ix x2) x3))) (b272_23 (mcall (d + 1)) x2 x3 _ z1 (uA f1 5 (upd (f1 5) (ix x2) x3))) (pinG g1) ?_
            refine rc_b (i' := 46) (ls' := [some (vR 0), some (vI x1), some (vI x2), some (vI x3)]) (st' := [vI 4, vI x1]) (L' := LR z1 (uA (uA f1 5 (upd (f1 5) (ix x2) x3)) 6 (upd (f1 6) (ix x2) x3))) 2 (b272_14 (mcall (d + 1)) x1 x2 x3 _) ?_
            refine rc_if (it := 52) (ie := 47) (ls' := [some (vR 0), some (vI x1), some (vI x2), some (vI x3)]) (st' := []) (b272_15 (mcall (d + 1)) x1 4 _ _) (fun q10 => ?_) (fun q10 => ?_)
            · have H := H.1 (cI1t q10)
              refine rc_b (i' := 54) (ls' := [some (vR 0), some (vI x1), some (vI x2), some (vI x3)]) (st' := [vI 0, vR 0]) (L' := LR z1 (uA (uA f1 5 (upd (f1 5) (ix x2) x3)) 6 (upd (f1 6) (ix x2) x3))) 2 (b272_16 (mcall (d + 1)) x1 x2 x3 _) ?_
              refine rc_b (i' := 55) (ls' := [some (vR 0), some (vI x1), some (vI x2), some (vI x3)]) (st' := []) (L' := LR (uZ z1 3 0) (uA (uA f1 5 (upd (f1 5) (ix x2) x3)) 6 (upd (f1 6) (ix x2) x3))) 1 (b272_17 (mcall (d + 1)) 0 _ z1 (uA (uA f1 5 (upd (f1 5) (ix x2) x3)) 6 (upd (f1 6) (ix x2) x3))) ?_
              refine rc_b (i' := 56) (ls' := [some (vR 0), some (vI x1), some (vI x2), some (vI x3)]) (st' := [vI 1]) (L' := LR (uZ z1 3 0) (uA (uA f1 5 (upd (f1 5) (ix x2) x3)) 6 (upd (f1 6) (ix x2) x3))) 1 (b272_18 (mcall (d + 1)) x1 x2 x3 _) ?_
              subst H
              exact rc_ret (b272_19 (mcall (d + 1)) _ _)
            · have H := H.2 (cI1f q10)
              refine rc_b (i' := 51) (ls' := [some (vR 0), some (vI x1), some (vI x2), some (vI x3)]) (st' := [vI x3, vI 4, vR 1]) (L' := LR z1 (uA (uA f1 5 (upd (f1 5) (ix x2) x3)) 6 (upd (f1 6) (ix x2) x3))) 4 (b272_20 (mcall (d + 1)) x1 x2 x3 z1 (uA (uA f1 5 (upd (f1 5) (ix x2) x3)) 6 (upd (f1 6) (ix x2) x3))) ?_
              obtain ⟨g1, H⟩ := H
              refine rc_g (i' := 52) (ls' := [some (vR 0), some (vI x1), some (vI x2), some (vI x3)]) (st' := []) (L' := LR z1 (uA (uA (uA f1 5 (upd (f1 5) (ix x2) x3)) 6 (upd (f1 6) (ix x2) x3)) 1 (upd (f1 1) (ix 4) x3))) (b272_21 (mcall (d + 1)) 4 x3 _ z1 (uA (uA f1 5 (upd (f1 5) (ix x2) x3)) 6 (upd (f1 6) (ix x2) x3))) (pinG g1) ?_
              refine rc_b (i' := 54) (ls' := [some (vR 0), some (vI x1), some (vI x2), some (vI x3)]) (st' := [vI 0, vR 0]) (L' := LR z1 (uA (uA (uA f1 5 (upd (f1 5) (ix x2) x3)) 6 (upd (f1 6) (ix x2) x3)) 1 (upd (f1 1) (ix 4) x3))) 2 (b272_16 (mcall (d + 1)) x1 x2 x3 _) ?_
              refine rc_b (i' := 55) (ls' := [some (vR 0), some (vI x1), some (vI x2), some (vI x3)]) (st' := []) (L' := LR (uZ z1 3 0) (uA (uA (uA f1 5 (upd (f1 5) (ix x2) x3)) 6 (upd (f1 6) (ix x2) x3)) 1 (upd (f1 1) (ix 4) x3))) 1 (b272_17 (mcall (d + 1)) 0 _ z1 (uA (uA (uA f1 5 (upd (f1 5) (ix x2) x3)) 6 (upd (f1 6) (ix x2) x3)) 1 (upd (f1 1) (ix 4) x3))) ?_
              refine rc_b (i' := 56) (ls' := [some (vR 0), some (vI x1), some (vI x2), some (vI x3)]) (st' := [vI 1]) (L' := LR (uZ z1 3 0) (uA (uA (uA f1 5 (upd (f1 5) (ix x2) x3)) 6 (upd (f1 6) (ix x2) x3)) 1 (upd (f1 1) (ix 4) x3))) 1 (b272_18 (mcall (d + 1)) x1 x2 x3 _) ?_
              subst H
              exact rc_ret (b272_19 (mcall (d + 1)) _ _)
      · have H := H.2 (cI1f q3)
        refine rc_b (i' := 27) (ls' := [some (vR 0), some (vI x1), some (vI x2), some (vI x3)]) (st' := [vI x3, vI (7 + x2), vR 1]) (L' := LR z1 f1) 6 (b272_26 (mcall (d + 1)) x1 x2 x3 z1 f1) ?_
        obtain ⟨g1, H⟩ := H
        refine rc_g (i' := 28) (ls' := [some (vR 0), some (vI x1), some (vI x2), some (vI x3)]) (st' := []) (L' := LR z1 (uA f1 1 (upd (f1 1) (ix (7 + x2)) x3))) (b272_27 (mcall (d + 1)) (7 + x2) x3 _ z1 f1) (pinG g1) ?_
        refine rc_b (i' := 30) (ls' := [some (vR 0), some (vI x1), some (vI x2), some (vI x3)]) (st' := [vI 2, vI x1]) (L' := LR z1 (uA f1 1 (upd (f1 1) (ix (7 + x2)) x3))) 2 (b272_10 (mcall (d + 1)) x1 x2 x3 _) ?_
        refine rc_if (it := 36) (ie := 31) (ls' := [some (vR 0), some (vI x1), some (vI x2), some (vI x3)]) (st' := []) (b272_11 (mcall (d + 1)) x1 2 _ _) (fun q11 => ?_) (fun q11 => ?_)
        · have H := H.1 (cI1t q11)
          refine rc_b (i' := 38) (ls' := [some (vR 0), some (vI x1), some (vI x2), some (vI x3)]) (st' := [vI 3, vI x1]) (L' := LR z1 (uA f1 1 (upd (f1 1) (ix (7 + x2)) x3))) 2 (b272_12 (mcall (d + 1)) x1 x2 x3 _) ?_
          refine rc_if (it := 44) (ie := 39) (ls' := [some (vR 0), some (vI x1), some (vI x2), some (vI x3)]) (st' := []) (b272_13 (mcall (d + 1)) x1 3 _ _) (fun q12 => ?_) (fun q12 => ?_)
          · have H := H.1 (cI1t q12)
            refine rc_b (i' := 46) (ls' := [some (vR 0), some (vI x1), some (vI x2), some (vI x3)]) (st' := [vI 4, vI x1]) (L' := LR z1 (uA f1 1 (upd (f1 1) (ix (7 + x2)) x3))) 2 (b272_14 (mcall (d + 1)) x1 x2 x3 _) ?_
            refine rc_if (it := 52) (ie := 47) (ls' := [some (vR 0), some (vI x1), some (vI x2), some (vI x3)]) (st' := []) (b272_15 (mcall (d + 1)) x1 4 _ _) (fun q13 => ?_) (fun q13 => ?_)
            · have H := H.1 (cI1t q13)
              refine rc_b (i' := 54) (ls' := [some (vR 0), some (vI x1), some (vI x2), some (vI x3)]) (st' := [vI 0, vR 0]) (L' := LR z1 (uA f1 1 (upd (f1 1) (ix (7 + x2)) x3))) 2 (b272_16 (mcall (d + 1)) x1 x2 x3 _) ?_
              refine rc_b (i' := 55) (ls' := [some (vR 0), some (vI x1), some (vI x2), some (vI x3)]) (st' := []) (L' := LR (uZ z1 3 0) (uA f1 1 (upd (f1 1) (ix (7 + x2)) x3))) 1 (b272_17 (mcall (d + 1)) 0 _ z1 (uA f1 1 (upd (f1 1) (ix (7 + x2)) x3))) ?_
              refine rc_b (i' := 56) (ls' := [some (vR 0), some (vI x1), some (vI x2), some (vI x3)]) (st' := [vI 1]) (L' := LR (uZ z1 3 0) (uA f1 1 (upd (f1 1) (ix (7 + x2)) x3))) 1 (b272_18 (mcall (d + 1)) x1 x2 x3 _) ?_
              subst H
              exact rc_ret (b272_19 (mcall (d + 1)) _ _)
            · have H := H.2 (cI1f q13)
              refine rc_b (i' := 51) (ls' := [some (vR 0), some (vI x1), some (vI x2), some (vI x3)]) (st' := [vI x3, vI 4, vR 1]) (L' := LR z1 (uA f1 1 (upd (f1 1) (ix (7 + x2)) x3))) 4 (b272_20 (mcall (d + 1)) x1 x2 x3 z1 (uA f1 1 (upd (f1 1) (ix (7 + x2)) x3))) ?_
              obtain ⟨g1, H⟩ := H
              refine rc_g (i' := 52) (ls' := [some (vR 0), some (vI x1), some (vI x2), some (vI x3)]) (st' := []) (L' := LR z1 (uA (uA f1 1 (upd (f1 1) (ix (7 + x2)) x3)) 1 (upd (upd (f1 1) (ix (7 + x2)) x3) (ix 4) x3))) (b272_21 (mcall (d + 1)) 4 x3 _ z1 (uA f1 1 (upd (f1 1) (ix (7 + x2)) x3))) (pinG g1) ?_
              refine rc_b (i' := 54) (ls' := [some (vR 0), some (vI x1), some (vI x2), some (vI x3)]) (st' := [vI 0, vR 0]) (L' := LR z1 (uA (uA f1 1 (upd (f1 1) (ix (7 + x2)) x3)) 1 (upd (upd (f1 1) (ix (7 + x2)) x3) (ix 4) x3))) 2 (b272_16 (mcall (d + 1)) x1 x2 x3 _) ?_
              refine rc_b (i' := 55) (ls' := [some (vR 0), some (vI x1), some (vI x2), some (vI x3)]) (st' := []) (L' := LR (uZ z1 3 0) (uA (uA f1 1 (upd (f1 1) (ix (7 + x2)) x3)) 1 (upd (upd (f1 1) (ix (7 + x2)) x3) (ix 4) x3))) 1 (b272_17 (mcall (d + 1)) 0 _ z1 (uA (uA f1 1 (upd (f1 1) (ix (7 + x2)) x3)) 1 (upd (upd (f1 1) (ix (7 + x2)) x3) (ix 4) x3))) ?_
              refine rc_b (i' := 56) (ls' := [some (vR 0), some (vI x1), some (vI x2), some (vI x3)]) (st' := [vI 1]) (L' := LR (uZ z1 3 0) (uA (uA f1 1 (upd (f1 1) (ix (7 + x2)) x3)) 1 (upd (upd (f1 1) (ix (7 + x2)) x3) (ix 4) x3))) 1 (b272_18 (mcall (d + 1)) x1 x2 x3 _) ?_
              subst H
              exact rc_ret (b272_19 (mcall (d + 1)) _ _)
          · have H := H.2 (cI1f q12)
            refine rc_b (i' := 43) (ls' := [some (vR 0), some (vI x1), some (vI x2), some (vI x3)]) (st' := [vI x3, vI x2, vR 6]) (L' := LR z1 (uA f1 1 (upd (f1 1) (ix (7 + x2)) x3))) 4 (b272_22 (mcall (d + 1)) x1 x2 x3 z1 (uA f1 1 (upd (f1 1) (ix (7 + x2)) x3))) ?_
            obtain ⟨g1, H⟩ := H
            refine rc_g (i' := 44) (ls' := [some (vR 0), some (vI x1), some (vI x2), some (vI x3)]) (st' := []) (L' := LR z1 (uA (uA f1 1 (upd (f1 1) (ix (7 + x2)) x3)) 6 (upd (f1 6) (ix x2) x3))) (b272_23 (mcall (d + 1)) x2 x3 _ z1 (uA f1 1 (upd (f1 1) (ix (7 + x2)) x3))) (pinG g1) ?_
            refine rc_b (i' := 46) (ls' := [some (vR 0), some (vI x1), some (vI x2), some (vI x3)]) (st' := [vI 4, vI x1]) (L' := LR z1 (uA (uA f1 1 (upd (f1 1) (ix (7 + x2)) x3)) 6 (upd (f1 6) (ix x2) x3))) 2 (b272_14 (mcall (d + 1)) x1 x2 x3 _) ?_
            refine rc_if (it := 52) (ie := 47) (ls' := [some (vR 0), some (vI x1), some (vI x2), some (vI x3)]) (st' := []) (b272_15 (mcall (d + 1)) x1 4 _ _) (fun q14 => ?_) (fun q14 => ?_)
            · have H := H.1 (cI1t q14)
              refine rc_b (i' := 54) (ls' := [some (vR 0), some (vI x1), some (vI x2), some (vI x3)]) (st' := [vI 0, vR 0]) (L' := LR z1 (uA (uA f1 1 (upd (f1 1) (ix (7 + x2)) x3)) 6 (upd (f1 6) (ix x2) x3))) 2 (b272_16 (mcall (d + 1)) x1 x2 x3 _) ?_
              refine rc_b (i' := 55) (ls' := [some (vR 0), some (vI x1), some (vI x2), some (vI x3)]) (st' := []) (L' := LR (uZ z1 3 0) (uA (uA f1 1 (upd (f1 1) (ix (7 + x2)) x3)) 6 (upd (f1 6) (ix x2) x3))) 1 (b272_17 (mcall (d + 1)) 0 _ z1 (uA (uA f1 1 (upd (f1 1) (ix (7 + x2)) x3)) 6 (upd (f1 6) (ix x2) x3))) ?_
              refine rc_b (i' := 56) (ls' := [some (vR 0), some (vI x1), some (vI x2), some (vI x3)]) (st' := [vI 1]) (L' := LR (uZ z1 3 0) (uA (uA f1 1 (upd (f1 1) (ix (7 + x2)) x3)) 6 (upd (f1 6) (ix x2) x3))) 1 (b272_18 (mcall (d + 1)) x1 x2 x3 _) ?_
              subst H
              exact rc_ret (b272_19 (mcall (d + 1)) _ _)
            · have H := H.2 (cI1f q14)
              refine rc_b (i' := 51) (ls' := [some (vR 0), some (vI x1), some (vI x2), some (vI x3)]) (st' := [vI x3, vI 4, vR 1]) (L' := LR z1 (uA (uA f1 1 (upd (f1 1) (ix (7 + x2)) x3)) 6 (upd (f1 6) (ix x2) x3))) 4 (b272_20 (mcall (d + 1)) x1 x2 x3 z1 (uA (uA f1 1 (upd (f1 1) (ix (7 + x2)) x3)) 6 (upd (f1 6) (ix x2) x3))) ?_
              obtain ⟨g1, H⟩ := H
              refine rc_g (i' := 52) (ls' := [some (vR 0), some (vI x1), some (vI x2), some (vI x3)]) (st' := []) (L' := LR z1 (uA (uA (uA f1 1 (upd (f1 1) (ix (7 + x2)) x3)) 6 (upd (f1 6) (ix x2) x3)) 1 (upd (upd (f1 1) (ix (7 + x2)) x3) (ix 4) x3))) (b272_21 (mcall (d + 1)) 4 x3 _ z1 (uA (uA f1 1 (upd (f1 1) (ix (7 + x2)) x3)) 6 (upd (f1 6) (ix x2) x3))) (pinG g1) ?_
              refine rc_b (i' := 54) (ls' := [some (vR 0), some (vI x1), some (vI x2), some (vI x3)]) (st' := [vI 0, vR 0]) (L' := LR z1 (uA (uA (uA f1 1 (upd (f1 1) (ix (7 + x2)) x3)) 6 (upd (f1 6) (ix x2) x3)) 1 (upd (upd (f1 1) (ix (7 + x2)) x3) (ix 4) x3))) 2 (b272_16 (mcall (d + 1)) x1 x2 x3 _) ?_
              refine rc_b (i' := 55) (ls' := [some (vR 0), some (vI x1), some (vI x2), some (vI x3)]) (st' := []) (L' := LR (uZ z1 3 0) (uA (uA (uA f1 1 (upd (f1 1) (ix (7 + x2)) x3)) 6 (upd (f1 6) (ix x2) x3)) 1 (upd (upd (f1 1) (ix (7 + x2)) x3) (ix 4) x3))) 1 (b272_17 (mcall (d + 1)) 0 _ z1 (uA (uA (uA f1 1 (upd (f1 1) (ix (7 + x2)) x3)) 6 (upd (f1 6) (ix x2) x3)) 1 (upd (upd (f1 1) (ix (7 + x2)) x3) (ix 4) x3))) ?_
              refine rc_b (i' := 56) (ls' := [some (vR 0), some (vI x1), some (vI x2), some (vI x3)]) (st' := [vI 1]) (L' := LR (uZ z1 3 0) (uA (uA (uA f1 1 (upd (f1 1) (ix (7 + x2)) x3)) 6 (upd (f1 6) (ix x2) x3)) 1 (upd (upd (f1 1) (ix (7 + x2)) x3) (ix 4) x3))) 1 (b272_18 (mcall (d + 1)) x1 x2 x3 _) ?_
              subst H
              exact rc_ret (b272_19 (mcall (d + 1)) _ _)
        · have H := H.2 (cI1f q11)
          refine rc_b (i' := 35) (ls' := [some (vR 0), some (vI x1), some (vI x2), some (vI x3)]) (st' := [vI x3, vI x2, vR 5]) (L' := LR z1 (uA f1 1 (upd (f1 1) (ix (7 + x2)) x3))) 4 (b272_24 (mcall (d + 1)) x1 x2 x3 z1 (uA f1 1 (upd (f1 1) (ix (7 + x2)) x3))) ?_
          obtain ⟨g1, H⟩ := H
          refine rc_g (i' := 36) (ls' := [some (vR 0), some (vI x1), some (vI x2), some (vI x3)]) (st' := []) (L' := LR z1 (uA (uA f1 1 (upd (f1 1) (ix (7 + x2)) x3)) 5 (upd (f1 5) (ix x2) x3))) (b272_25 (mcall (d + 1)) x2 x3 _ z1 (uA f1 1 (upd (f1 1) (ix (7 + x2)) x3))) (pinG g1) ?_
          refine rc_b (i' := 38) (ls' := [some (vR 0), some (vI x1), some (vI x2), some (vI x3)]) (st' := [vI 3, vI x1]) (L' := LR z1 (uA (uA f1 1 (upd (f1 1) (ix (7 + x2)) x3)) 5 (upd (f1 5) (ix x2) x3))) 2 (b272_12 (mcall (d + 1)) x1 x2 x3 _) ?_
          refine rc_if (it := 44) (ie := 39) (ls' := [some (vR 0), some (vI x1), some (vI x2), some (vI x3)]) (st' := []) (b272_13 (mcall (d + 1)) x1 3 _ _) (fun q15 => ?_) (fun q15 => ?_)
          · have H := H.1 (cI1t q15)
            refine rc_b (i' := 46) (ls' := [some (vR 0), some (vI x1), some (vI x2), some (vI x3)]) (st' := [vI 4, vI x1]) (L' := LR z1 (uA (uA f1 1 (upd (f1 1) (ix (7 + x2)) x3)) 5 (upd (f1 5) (ix x2) x3))) 2 (b272_14 (mcall (d + 1)) x1 x2 x3 _) ?_
            refine rc_if (it := 52) (ie := 47) (ls' := [some (vR 0), some (vI x1), some (vI x2), some (vI x3)]) (st' := []) (b272_15 (mcall (d + 1)) x1 4 _ _) (fun q16 => ?_) (fun q16 => ?_)
            · have H := H.1 (cI1t q16)
              refine rc_b (i' := 54) (ls' := [some (vR 0), some (vI x1), some (vI x2), some (vI x3)]) (st' := [vI 0, vR 0]) (L' := LR z1 (uA (uA f1 1 (upd (f1 1) (ix (7 + x2)) x3)) 5 (upd (f1 5) (ix x2) x3))) 2 (b272_16 (mcall (d + 1)) x1 x2 x3 _) ?_
              refine rc_b (i' := 55) (ls' := [some (vR 0), some (vI x1), some (vI x2), some (vI x3)]) (st' := []) (L' := LR (uZ z1 3 0) (uA (uA f1 1 (upd (f1 1) (ix (7 + x2)) x3)) 5 (upd (f1 5) (ix x2) x3))) 1 (b272_17 (mcall (d + 1)) 0 _ z1 (uA (uA f1 1 (upd (f1 1) (ix (7 + x2)) x3)) 5 (upd (f1 5) (ix x2) x3))) ?_
              refine rc_b (i' := 56) (ls' := [some (vR 0), some (vI x1), some (vI x2), some (vI x3)]) (st' := [vI 1]) (L' := LR (uZ z1 3 0) (uA (uA f1 1 (upd (f1 1) (ix (7 + x2)) x3)) 5 (upd (f1 5) (ix x2) x3))) 1 (b272_18 (mcall (d + 1)) x1 x2 x3 _) ?_
              subst H
              exact rc_ret (b272_19 (mcall (d + 1)) _ _)
            · have H := H.2 (cI1f q16)
              refine rc_b (i' := 51) (ls' := [some (vR 0), some (vI x1), some (vI x2), some (vI x3)]) (st' := [vI x3, vI 4, vR 1]) (L' := LR z1 (uA (uA f1 1 (upd (f1 1) (ix (7 + x2)) x3)) 5 (upd (f1 5) (ix x2) x3))) 4 (b272_20 (mcall (d + 1)) x1 x2 x3 z1 (uA (uA f1 1 (upd (f1 1) (ix (7 + x2)) x3)) 5 (upd (f1 5) (ix x2) x3))) ?_
              obtain ⟨g1, H⟩ := H
              refine rc_g (i' := 52) (ls' := [some (vR 0), some (vI x1), some (vI x2), some (vI x3)]) (st' := []) (L' := LR z1 (uA (uA (uA f1 1 (upd (f1 1) (ix (7 + x2)) x3)) 5 (upd (f1 5) (ix x2) x3)) 1 (upd (upd (f1 1) (ix (7 + x2)) x3) (ix 4) x3))) (b272_21 (mcall (d + 1)) 4 x3 _ z1 (uA (uA f1 1 (upd (f1 1) (ix (7 + x2)) x3)) 5 (upd (f1 5) (ix x2) x3))) (pinG g1) ?_
              refine rc_b (i' := 54) (ls' := [some (vR 0), some (vI x1), some (vI x2), some (vI x3)]) (st' := [vI 0, vR 0]) (L' := LR z1 (uA (uA (uA f1 1 (upd (f1 1) (ix (7 + x2)) x3)) 5 (upd (f1 5) (ix x2) x3)) 1 (upd (upd (f1 1) (ix (7 + x2)) x3) (ix 4) x3))) 2 (b272_16 (mcall (d + 1)) x1 x2 x3 _) ?_
              refine rc_b (i' := 55) (ls' := [some (vR 0), some (vI x1), some (vI x2), some (vI x3)]) (st' := []) (L' := LR (uZ z1 3 0) (uA (uA (uA f1 1 (upd (f1 1) (ix (7 + x2)) x3)) 5 (upd (f1 5) (ix x2) x3)) 1 (upd (upd (f1 1) (ix (7 + x2)) x3) (ix 4) x3))) 1 (b272_17 (mcall (d + 1)) 0 _ z1 (uA (uA (uA f1 1 (upd (f1 1) (ix (7 + x2)) x3)) 5 (upd (f1 5) (ix x2) x3)) 1 (upd (upd (f1 1) (ix (7 + x2)) x3) (ix 4) x3))) ?_
              refine rc_b (i' := 56) (ls' := [some (vR 0), some (vI x1), some (vI x2), some (vI x3)]) (st' := [vI 1]) (L' := LR (uZ z1 3 0) (uA (uA (uA f1 1 (upd (f1 1) (ix (7 + x2)) x3)) 5 (upd (f1 5) (ix x2) x3)) 1 (upd (upd (f1 1) (ix (7 + x2)) x3) (ix 4) x3))) 1 (b272_18 (mcall (d + 1)) x1 x2 x3 _) ?_
              subst H
              exact rc_ret (b272_19 (mcall (d + 1)) _ _)
          · have H := H.2 (cI1f q15)
            refine rc_b (i' := 43) (ls' := [some (vR 0), some (vI x1), some (vI x2), some (vI x3)]) (st' := [vI x3, vI x2, vR 6]) (L' := LR z1 (uA (uA f1 1 (upd (f1 1) (ix (7 + x2)) x3)) 5 (upd (f1 5) (ix x2) x3))) 4 (b272_22 (mcall (d + 1)) x1 x2 x3 z1 (uA (uA f1 1 (upd (f1 1) (ix (7 + x2)) x3)) 5 (upd (f1 5) (ix x2) x3))) ?_
            obtain ⟨g1, H⟩ := H
            refine rc_g (i' := 44) (ls' := [some (vR 0), some (vI x1), some (vI x2), some (vI x3)]) (st' := []) (L' := LR z1 (uA (uA (uA f1 1 (upd (f1 1) (ix (7 + x2)) x3)) 5 (upd (f1 5) (ix x2) x3)) 6 (upd (f1 6) (ix x2) x3))) (b272_23 (mcall (d + 1)) x2 x3 _ z1 (uA (uA f1 1 (upd (f1 1) (ix (7 + x2)) x3)) 5 (upd (f1 5) (ix x2) x3))) (pinG g1) ?_
            refine rc_b (i' := 46) (ls' := [some (vR 0), some (vI x1), some (vI x2), some (vI x3)]) (st' := [vI 4, vI x1]) (L' := LR z1 (uA (uA (uA f1 1 (upd (f1 1) (ix (7 + x2)) x3)) 5 (upd (f1 5) (ix x2) x3)) 6 (upd (f1 6) (ix x2) x3))) 2 (b272_14 (mcall (d + 1)) x1 x2 x3 _) ?_
            refine rc_if (it := 52) (ie := 47) (ls' := [some (vR 0), some (vI x1), some (vI x2), some (vI x3)]) (st' := []) (b272_15 (mcall (d + 1)) x1 4 _ _) (fun q17 => ?_) (fun q17 => ?_)
            · have H := H.1 (cI1t q17)
              refine rc_b (i' := 54) (ls' := [some (vR 0), some (vI x1), some (vI x2), some (vI x3)]) (st' := [vI 0, vR 0]) (L' := LR z1 (uA (uA (uA f1 1 (upd (f1 1) (ix (7 + x2)) x3)) 5 (upd (f1 5) (ix x2) x3)) 6 (upd (f1 6) (ix x2) x3))) 2 (b272_16 (mcall (d + 1)) x1 x2 x3 _) ?_
              refine rc_b (i' := 55) (ls' := [some (vR 0), some (vI x1), some (vI x2), some (vI x3)]) (st' := []) (L' := LR (uZ z1 3 0) (uA (uA (uA f1 1 (upd (f1 1) (ix (7 + x2)) x3)) 5 (upd (f1 5) (ix x2) x3)) 6 (upd (f1 6) (ix x2) x3))) 1 (b272_17 (mcall (d + 1)) 0 _ z1 (uA (uA (uA f1 1 (upd (f1 1) (ix (7 + x2)) x3)) 5 (upd (f1 5) (ix x2) x3)) 6 (upd (f1 6) (ix x2) x3))) ?_
              refine rc_b (i' := 56) (ls' := [some (vR 0), some (vI x1), some (vI x2), some (vI x3)]) (st' := [vI 1]) (L' := LR (uZ z1 3 0) (uA (uA (uA f1 1 (upd (f1 1) (ix (7 + x2)) x3)) 5 (upd (f1 5) (ix x2) x3)) 6 (upd (f1 6) (ix x2) x3))) 1 (b272_18 (mcall (d + 1)) x1 x2 x3 _) ?_
              subst H
              exact rc_ret (b272_19 (mcall (d + 1)) _ _)
            · have H := H.2 (cI1f q17)
              refine rc_b (i' := 51) (ls' := [some (vR 0), some (vI x1), some (vI x2), some (vI x3)]) (st' := [vI x3, vI 4, vR 1]) (L' := LR z1 (uA (uA (uA f1 1 (upd (f1 1) (ix (7 + x2)) x3)) 5 (upd (f1 5) (ix x2) x3)) 6 (upd (f1 6) (ix x2) x3))) 4 (b272_20 (mcall (d + 1)) x1 x2 x3 z1 (uA (uA (uA f1 1 (upd (f1 1) (ix (7 + x2)) x3)) 5 (upd (f1 5) (ix x2) x3)) 6 (upd (f1 6) (ix x2) x3))) ?_
              obtain ⟨g1, H⟩ := H
              refine rc_g (i' := 52) (ls' := [some (vR 0), some (vI x1), some (vI x2), some (vI x3)]) (st' := []) (L' := LR z1 (uA (uA (uA (uA f1 1 (upd (f1 1) (ix (7 + x2)) x3)) 5 (upd (f1 5) (ix x2) x3)) 6 (upd (f1 6) (ix x2) x3)) 1 (upd (upd (f1 1) (ix (7 + x2)) x3) (ix 4) x3))) (b272_21 (mcall (d + 1)) 4 x3 _ z1 (uA (uA (uA f1 1 (upd (f1 1) (ix (7 + x2)) x3)) 5 (upd (f1 5) (ix x2) x3)) 6 (upd (f1 6) (ix x2) x3))) (pinG g1) ?_
              refine rc_b (i' := 54) (ls' := [some (vR 0), some (vI x1), some (vI x2), some (vI x3)]) (st' := [vI 0, vR 0]) (L' := LR z1 (uA (uA (uA (uA f1 1 (upd (f1 1) (ix (7 + x2)) x3)) 5 (upd (f1 5) (ix x2) x3)) 6 (upd (f1 6) (ix x2) x3)) 1 (upd (upd (f1 1) (ix (7 + x2)) x3) (ix 4) x3))) 2 (b272_16 (mcall (d + 1)) x1 x2 x3 _) ?_
              refine rc_b (i' := 55) (ls' := [some (vR 0), some (vI x1), some (vI x2), some (vI x3)]) (st' := []) (L' := LR (uZ z1 3 0) (uA (uA (uA (uA f1 1 (upd (f1 1) (ix (7 + x2)) x3)) 5 (upd (f1 5) (ix x2) x3)) 6 (upd (f1 6) (ix x2) x3)) 1 (upd (upd (f1 1) (ix (7 + x2)) x3) (ix 4) x3))) 1 (b272_17 (mcall (d + 1)) 0 _ z1 (uA (uA (uA (uA f1 1 (upd (f1 1) (ix (7 + x2)) x3)) 5 (upd (f1 5) (ix x2) x3)) 6 (upd (f1 6) (ix x2) x3)) 1 (upd (upd (f1 1) (ix (7 + x2)) x3) (ix 4) x3))) ?_
              refine rc_b (i' := 56) (ls' := [some (vR 0), some (vI x1), some (vI x2), some (vI x3)]) (st' := [vI 1]) (L' := LR (uZ z1 3 0) (uA (uA (uA (uA f1 1 (upd (f1 1) (ix (7 + x2)) x3)) 5 (upd (f1 5) (ix x2) x3)) 6 (upd (f1 6) (ix x2) x3)) 1 (upd (upd (f1 1) (ix (7 + x2)) x3) (ix 4) x3))) 1 (b272_18 (mcall (d + 1)) x1 x2 x3 _) ?_
              subst H
              exact rc_ret (b272_19 (mcall (d + 1)) _ _)
    · have H := H.2 (cI1f q2)
      refine rc_b (i' := 17) (ls' := [some (vR 0), some (vI x1), some (vI x2), some (vI x3)]) (st' := [vI x3, vI x2, vR 4]) (L' := LR z1 f1) 4 (b272_28 (mcall (d + 1)) x1 x2 x3 z1 f1) ?_
      obtain ⟨g1, H⟩ := H
      refine rc_g (i' := 18) (ls' := [some (vR 0), some (vI x1), some (vI x2), some (vI x3)]) (st' := []) (L' := LR z1 (uA f1 4 (upd (f1 4) (ix x2) x3))) (b272_29 (mcall (d + 1)) x2 x3 _ z1 f1) (pinG g1) ?_
      refine rc_b (i' := 20) (ls' := [some (vR 0), some (vI x1), some (vI x2), some (vI x3)]) (st' := [vI 1, vI x1]) (L' := LR z1 (uA f1 4 (upd (f1 4) (ix x2) x3))) 2 (b272_8 (mcall (d + 1)) x1 x2 x3 _) ?_
      refine rc_if (it := 28) (ie := 21) (ls' := [some (vR 0), some (vI x1), some (vI x2), some (vI x3)]) (st' := []) (b272_9 (mcall (d + 1)) x1 1 _ _) (fun q18 => ?_) (fun q18 => ?_)
      · have H := H.1 (cI1t q18)
        refine rc_b (i' := 30) (ls' := [some (vR 0), some (vI x1), some (vI x2), some (vI x3)]) (st' := [vI 2, vI x1]) (L' := LR z1 (uA f1 4 (upd (f1 4) (ix x2) x3))) 2 (b272_10 (mcall (d + 1)) x1 x2 x3 _) ?_
        refine rc_if (it := 36) (ie := 31) (ls' := [some (vR 0), some (vI x1), some (vI x2), some (vI x3)]) (st' := []) (b272_11 (mcall (d + 1)) x1 2 _ _) (fun q19 => ?_) (fun q19 => ?_)
        · have H := H.1 (cI1t q19)
          refine rc_b (i' := 38) (ls' := [some (vR 0), some (vI x1), some (vI x2), some (vI x3)]) (st' := [vI 3, vI x1]) (L' := LR z1 (uA f1 4 (upd (f1 4) (ix x2) x3))) 2 (b272_12 (mcall (d + 1)) x1 x2 x3 _) ?_
          refine rc_if (it := 44) (ie := 39) (ls' := [some (vR 0), some (vI x1), some (vI x2), some (vI x3)]) (st' := []) (b272_13 (mcall (d + 1)) x1 3 _ _) (fun q20 => ?_) (fun q20 => ?_)
          · have H := H.1 (cI1t q20)
            refine rc_b (i' := 46) (ls' := [some (vR 0), some (vI x1), some (vI x2), some (vI x3)]) (st' := [vI 4, vI x1]) (L' := LR z1 (uA f1 4 (upd (f1 4) (ix x2) x3))) 2 (b272_14 (mcall (d + 1)) x1 x2 x3 _) ?_
            refine rc_if (it := 52) (ie := 47) (ls' := [some (vR 0), some (vI x1), some (vI x2), some (vI x3)]) (st' := []) (b272_15 (mcall (d + 1)) x1 4 _ _) (fun q21 => ?_) (fun q21 => ?_)
            · have H := H.1 (cI1t q21)
              refine rc_b (i' := 54) (ls' := [some (vR 0), some (vI x1), some (vI x2), some (vI x3)]) (st' := [vI 0, vR 0]) (L' := LR z1 (uA f1 4 (upd (f1 4) (ix x2) x3))) 2 (b272_16 (mcall (d + 1)) x1 x2 x3 _) ?_
              refine rc_b (i' := 55) (ls' := [some (vR 0), some (vI x1), some (vI x2), some (vI x3)]) (st' := []) (L' := LR (uZ z1 3 0) (uA f1 4 (upd (f1 4) (ix x2) x3))) 1 (b272_17 (mcall (d + 1)) 0 _ z1 (uA f1 4 (upd (f1 4) (ix x2) x3))) ?_
              refine rc_b (i' := 56) (ls' := [some (vR 0), some (vI x1), some (vI x2), some (vI x3)]) (st' := [vI 1]) (L' := LR (uZ z1 3 0) (uA f1 4 (upd (f1 4) (ix x2) x3))) 1 (b272_18 (mcall (d + 1)) x1 x2 x3 _) ?_
              subst H
              exact rc_ret (b272_19 (mcall (d + 1)) _ _)
            · have H := H.2 (cI1f q21)
              refine rc_b (i' := 51) (ls' := [some (vR 0), some (vI x1), some (vI x2), some (vI x3)]) (st' := [vI x3, vI 4, vR 1]) (L' := LR z1 (uA f1 4 (upd (f1 4) (ix x2) x3))) 4 (b272_20 (mcall (d + 1)) x1 x2 x3 z1 (uA f1 4 (upd (f1 4) (ix x2) x3))) ?_
              obtain ⟨g1, H⟩ := H
              refine rc_g (i' := 52) (ls' := [some (vR 0), some (vI x1), some (vI x2), some (vI x3)]) (st' := []) (L' := LR z1 (uA (uA f1 4 (upd (f1 4) (ix x2) x3)) 1 (upd (f1 1) (ix 4) x3))) (b272_21 (mcall (d + 1)) 4 x3 _ z1 (uA f1 4 (upd (f1 4) (ix x2) x3))) (pinG g1) ?_
              refine rc_b (i' := 54) (ls' := [some (vR 0), some (vI x1), some (vI x2), some (vI x3)]) (st' := [vI 0, vR 0]) (L' := LR z1 (uA (uA f1 4 (upd (f1 4) (ix x2) x3)) 1 (upd (f1 1) (ix 4) x3))) 2 (b272_16 (mcall (d + 1)) x1 x2 x3 _) ?_
              refine rc_b (i' := 55) (ls' := [some (vR 0), some (vI x1), some (vI x2), some (vI x3)]) (st' := []) (L' := LR (uZ z1 3 0) (uA (uA f1 4 (upd (f1 4) (ix x2) x3)) 1 (upd (f1 1) (ix 4) x3))) 1 (b272_17 (mcall (d + 1)) 0 _ z1 (uA (uA f1 4 (upd (f1 4) (ix x2) x3)) 1 (upd (f1 1) (ix 4) x3))) ?_
              refine rc_b (i' := 56) (ls' := [some (vR 0), some (vI x1), some (vI x2), some (vI x3)]) (st' := [vI 1]) (L' := LR (uZ z1 3 0) (uA (uA f1 4 (upd (f1 4) (ix x2) x3)) 1 (upd (f1 1) (ix 4) x3))) 1 (b272_18 (mcall (d + 1)) x1 x2 x3 _) ?_
              subst H
              exact rc_ret (b272_19 (mcall (d + 1)) _ _)
          · have H := H.2 (cI1f q20)
            refine rc_b (i' := 43) (ls' := [some (vR 0), some (vI x1), some (vI x2), some (vI x3)]) (st' := [vI x3, vI x2, vR 6]) (L' := LR z1 (uA f1 4 (upd (f1 4) (ix x2) x3))) 4 (b272_22 (mcall (d + 1)) x1 x2 x3 z1 (uA f1 4 (upd (f1 4) (ix x2) x3))) ?_
            obtain ⟨g1, H⟩ := H
            refine rc_g (i' := 44) (ls' := [some (vR 0), some (vI x1), some (vI x2), some (vI x3)]) (st' := []) (L' := LR z1 (uA (uA f1 4 (upd (f1 4) (ix x2) x3)) 6 (upd (f1 6) (ix x2) x3))) (b272_23 (mcall (d + 1)) x2 x3 _ z1 (uA f1 4 (upd (f1 4) (ix x2) x3))) (pinG g1) ?_
            refine rc_b (i' := 46) (ls' := [some (vR 0), some (vI x1), some (vI x2), some (vI x3)]) (st' := [vI 4, vI x1]) (L' := LR z1 (uA (uA f1 4 (upd (f1 4) (ix x2) x3)) 6 (upd (f1 6) (ix x2) x3))) 2 (b272_14 (mcall (d + 1)) x1 x2 x3 _) ?_
            refine rc_if (it := 52) (ie := 47) (ls' := [some (vR 0), some (vI x1), some (vI x2), some (vI x3)]) (st' := []) (b272_15 (mcall (d + 1)) x1 4 _ _) (fun q22 => ?_) (fun q22 => ?_)
            · have H := H.1 (cI1t q22)
              refine rc_b (i' := 54) (ls' := [some (vR 0), some (vI x1), some (vI x2), some (vI x3)]) (st' := [vI 0, vR 0]) (L' := LR z1 (uA (uA f1 4 (upd (f1 4) (ix x2) x3)) 6 (upd (f1 6) (ix x2) x3))) 2 (b272_16 (mcall (d + 1)) x1 x2 x3 _) ?_
              refine rc_b (i' := 55) (ls' := [some (vR 0), some (vI x1), some (vI x2), some (vI x3)]) (st' := []) (L' := LR (uZ z1 3 0) (uA (uA f1 4 (upd (f1 4) (ix x2) x3)) 6 (upd (f1 6) (ix x2) x3))) 1 (b272_17 (mcall (d + 1)) 0 _ z1 (uA (uA f1 4 (upd (f1 4) (ix x2) x3)) 6 (upd (f1 6) (ix x2) x3))) ?_
              refine rc_b (i' := 56) (ls' := [some (vR 0), some (vI x1), some (vI x2), some (vI x3)]) (st' := [vI 1]) (L' := LR (uZ z1 3 0) (uA (uA f1 4 (upd (f1 4) (ix x2) x3)) 6 (upd (f1 6) (ix x2) x3))) 1 (b272_18 (mcall (d + 1)) x1 x2 x3 _) ?_
              subst H
              exact rc_ret (b272_19 (mcall (d + 1)) _ _)
            · have H := H.2 (cI1f q22)
              refine rc_b (i' := 51) (ls' := [some (vR 0), some (vI x1), some (vI x2), some (vI x3)]) (st' := [vI x3, vI 4, vR 1]) (L' := LR z1 (uA (uA f1 4 (upd (f1 4) (ix x2) x3)) 6 (upd (f1 6) (ix x2) x3))) 4 (b272_20 (mcall (d + 1)) x1 x2 x3 z1 (uA (uA f1 4 (upd (f1 4) (ix x2) x3)) 6 (upd (f1 6) (ix x2) x3))) ?_
              obtain ⟨g1, H⟩ := H
              refine rc_g (i' := 52) (ls' := [some (vR 0), some (vI x1), some (vI x2), some (vI x3)]) (st' := []) (L' := LR z1 (uA (uA (uA f1 4 (upd (f1 4) (ix x2) x3)) 6 (upd (f1 6) (ix x2) x3)) 1 (upd (f1 1) (ix 4) x3))) (b272_21 (mcall (d + 1)) 4 x3 _ z1 (uA (uA f1 4 (upd (f1 4) (ix x2) x3)) 6 (upd (f1 6) (ix x2) x3))) (pinG g1) ?_
              refine rc_b (i' := 54) (ls' := [some (vR 0), some (vI x1), some (vI x2), some (vI x3)]) (st' := [vI 0, vR 0]) (L' := LR z1 (uA (uA (uA f1 4 (upd (f1 4) (ix x2) x3)) 6 (upd (f1 6) (ix x2) x3)) 1 (upd (f1 1) (ix 4) x3))) 2 (b272_16 (mcall (d + 1)) x1 x2 x3 _) ?_
              refine rc_b (i' := 55) (ls' := [some (vR 0), some (vI x1), some (vI x2), some (vI x3)]) (st' := []) (L' := LR (uZ z1 3 0) (uA (uA (uA f1 4 (upd (f1 4) (ix x2) x3)) 6 (upd (f1 6) (ix x2) x3)) 1 (upd (f1 1) (ix 4) x3))) 1 (b272_17 (mcall (d + 1)) 0 _ z1 (uA (uA (uA f1 4 (upd (f1 4) (ix x2) x3)) 6 (upd (f1 6) (ix x2) x3)) 1 (upd (f1 1) (ix 4) x3))) ?_
              refine rc_b (i' := 56) (ls' := [some (vR 0), some (vI x1), some (vI x2), some (vI x3)]) (st' := [vI 1]) (L' := LR (uZ z1 3 0) (uA (uA (uA f1 4 (upd (f1 4) (ix x2) x3)) 6 (upd (f1 6) (ix x2) x3)) 1 (upd (f1 1) (ix 4) x3))) 1 (b272_18 (mcall (d + 1)) x1 x2 x3 _) ?_
              subst H
              exact rc_ret (b272_19 (mcall (d + 1)) _ _)
        · have H := H.2 (cI1f q19)
          refine rc_b (i' := 35) (ls' := [some (vR 0), some (vI x1), some (vI x2), some (vI x3)]) (st' := [vI x3, vI x2, vR 5]) (L' := LR z1 (uA f1 4 (upd (f1 4) (ix x2) x3))) 4 (b272_24 (mcall (d + 1)) x1 x2 x3 z1 (uA f1 4 (upd (f1 4) (ix x2) x3))) ?_
          obtain ⟨g1, H⟩ := H
          refine rc_g (i' := 36) (ls' := [some (vR 0), some (vI x1), some (vI x2), some (vI x3)]) (st' := []) (L' := LR z1 (uA (uA f1 4 (upd (f1 4) (ix x2) x3)) 5 (upd (f1 5) (ix x2) x3))) (b272_25 (mcall (d + 1)) x2 x3 _ z1 (uA f1 4 (upd (f1 4) (ix x2) x3))) (pinG g1) ?_
          refine rc_b (i' := 38) (ls' := [some (vR 0), some (vI x1), some (vI x2), some (vI x3)]) (st' := [vI 3, vI x1]) (L' := LR z1 (uA (uA f1 4 (upd (f1 4) (ix x2) x3)) 5 (upd (f1 5) (ix x2) x3))) 2 (b272_12 (mcall (d + 1)) x1 x2 x3 _) ?_
          refine rc_if (it := 44) (ie := 39) (ls' := [some (vR 0), some (vI x1), some (vI x2), some (vI x3)]) (st' := []) (b272_13 (mcall (d + 1)) x1 3 _ _) (fun q23 => ?_) (fun q23 => ?_)
          · have H := H.1 (cI1t q23)
            refine rc_b (i' := 46) (ls' := [some (vR 0), some (vI x1), some (vI x2), some (vI x3)]) (st' := [vI 4, vI x1]) (L' := LR z1 (uA (uA f1 4 (upd (f1 4) (ix x2) x3)) 5 (upd (f1 5) (ix x2) x3))) 2 (b272_14 (mcall (d + 1)) x1 x2 x3 _) ?_
            refine rc_if (it := 52) (ie := 47) (ls' := [some (vR 0), some (vI x1), some (vI x2), some (vI x3)]) (st' := []) (b272_15 (mcall (d + 1)) x1 4 _ _) (fun q24 => ?_) (fun q24 => ?_)
            · have H := H.1 (cI1t q24)
              refine rc_b (i' := 54) (ls' := [some (vR 0), some (vI x1), some (vI x2), some (vI x3)]) (st' := [vI 0, vR 0]) (L' := LR z1 (uA (uA f1 4 (upd (f1 4) (ix x2) x3)) 5 (upd (f1 5) (ix x2) x3))) 2 (b272_16 (mcall (d + 1)) x1 x2 x3 _) ?_
              refine rc_b (i' := 55) (ls' := [some (vR 0), some (vI x1), some (vI x2), some (vI x3)]) (st' := []) (L' := LR (uZ z1 3 0) (uA (uA f1 4 (upd (f1 4) (ix x2) x3)) 5 (upd (f1 5) (ix x2) x3))) 1 (b272_17 (mcall (d + 1)) 0 _ z1 (uA (uA f1 4 (upd (f1 4) (ix x2) x3)) 5 (upd (f1 5) (ix x2) x3))) ?_
              refine rc_b (i' := 56) (ls' := [some (vR 0), some (vI x1), some (vI x2), some (vI x3)]) (st' := [vI 1]) (L' := LR (uZ z1 3 0) (uA (uA f1 4 (upd (f1 4) (ix x2) x3)) 5 (upd (f1 5) (ix x2) x3))) 1 (b272_18 (mcall (d + 1)) x1 x2 x3 _) ?_
              subst H
              exact rc_ret (b272_19 (mcall (d + 1)) _ _)
            · have H := H.2 (cI1f q24)
              refine rc_b (i' := 51) (ls' := [some (vR 0), some (vI x1), some (vI x2), some (vI x3)]) (st' := [vI x3, vI 4, vR 1]) (L' := LR z1 (uA (uA f1 4 (upd (f1 4) (ix x2) x3)) 5 (upd (f1 5) (ix x2) x3))) 4 (b272_20 (mcall (d + 1)) x1 x2 x3 z1 (uA (uA f1 4 (upd (f1 4) (ix x2) x3)) 5 (upd (f1 5) (ix x2) x3))) ?_
              obtain ⟨g1, H⟩ := H
              refine rc_g (i' := 52) (ls' := [some (vR 0), some (vI x1), some (vI x2), some (vI x3)]) (st' := []) (L' := LR z1 (uA (uA (uA f1 4 (upd (f1 4) (ix x2) x3)) 5 (upd (f1 5) (ix x2) x3)) 1 (upd (f1 1) (ix 4) x3))) (b272_21 (mcall (d + 1)) 4 x3 _ z1 (uA (uA f1 4 (upd (f1 4) (ix x2) x3)) 5 (upd (f1 5) (ix x2) x3))) (pinG g1) ?_
              refine rc_b (i' := 54) (ls' := [some (vR 0), some (vI x1), some (vI x2), some (vI x3)]) (st' := [vI 0, vR 0]) (L' := LR z1 (uA (uA (uA f1 4 (upd (f1 4) (ix x2) x3)) 5 (upd (f1 5) (ix x2) x3)) 1 (upd (f1 1) (ix 4) x3))) 2 (b272_16 (mcall (d + 1)) x1 x2 x3 _) ?_
              refine rc_b (i' := 55) (ls' := [some (vR 0), some (vI x1), some (vI x2), some (vI x3)]) (st' := []) (L' := LR (uZ z1 3 0) (uA (uA (uA f1 4 (upd (f1 4) (ix x2) x3)) 5 (upd (f1 5) (ix x2) x3)) 1 (upd (f1 1) (ix 4) x3))) 1 (b272_17 (mcall (d + 1)) 0 _ z1 (uA (uA (uA f1 4 (upd (f1 4) (ix x2) x3)) 5 (upd (f1 5) (ix x2) x3)) 1 (upd (f1 1) (ix 4) x3))) ?_
              refine rc_b (i' := 56) (ls' := [some (vR 0), some (vI x1), some (vI x2), some (vI x3)]) (st' := [vI 1]) (L' := LR (uZ z1 3 0) (uA (uA (uA f1 4 (upd (f1 4) (ix x2) x3)) 5 (upd (f1 5) (ix x2) x3)) 1 (upd (f1 1) (ix 4) x3))) 1 (b272_18 (mcall (d + 1)) x1 x2 x3 _) ?_
              subst H
              exact rc_ret (b272_19 (mcall (d + 1)) _ _)
          · have H := H.2 (cI1f q23)
            refine rc_b (i' := 43) (ls' := [some (vR 0), some (vI x1), some (vI x2), some (vI x3)]) (st' := [vI x3, vI x2, vR 6]) (L' := LR z1 (uA (uA f1 4 (upd (f1 4) (ix x2) x3)) 5 (upd (f1 5) (ix x2) x3))) 4 (b272_22 (mcall (d + 1)) x1 x2 x3 z1 (uA (uA f1 4 (upd (f1 4) (ix x2) x3)) 5 (upd (f1 5) (ix x2) x3))) ?_
            obtain ⟨g1, H⟩ := H
            refine rc_g (i' := 44) (ls' := [some (vR 0), some (vI x1), some (vI x2), some (vI x3)]) (st' := []) (L' := LR z1 (uA (uA (uA f1 4 (upd (f1 4) (ix x2) x3)) 5 (upd (f1 5) (ix x2) x3)) 6 (upd (f1 6) (ix x2) x3))) (b272_23 (mcall (d + 1)) x2 x3 _ z1 (uA (uA f1 4 (upd (f1 4) (ix x2) x3)) 5 (upd (f1 5) (ix x2) x3))) (pinG g1) ?_
            refine rc_b (i' := 46) (ls' := [some (vR 0), some (vI x1), some (vI x2), some (vI x3)]) (st' := [vI 4, vI x1]) (L' := LR z1 (uA (uA (uA f1 4 (upd (f1 4) (ix x2) x3)) 5 (upd (f1 5) (ix x2) x3)) 6 (upd (f1 6) (ix x2) x3))) 2 (b272_14 (mcall (d + 1)) x1 x2 x3 _) ?_
            refine rc_if (it := 52) (ie := 47) (ls' := [some (vR 0), some (vI x1), some (vI x2), some (vI x3)]) (st' := []) (b272_15 (mcall (d + 1)) x1 4 _ _) (fun q25 => ?_) (fun q25 => ?_)
            · have H := H.1 (cI1t q25)
              refine rc_b (i' := 54) (ls' := [some (vR 0), some (vI x1), some (vI x2), some (vI x3)]) (st' := [vI 0, vR 0]) (L' := LR z1 (uA (uA (uA f1 4 (upd (f1 4) (ix x2) x3)) 5 (upd (f1 5) (ix x2) x3)) 6 (upd (f1 6) (ix x2) x3))) 2 (b272_16 (mcall (d + 1)) x1 x2 x3 _) ?_
              refine rc_b (i' := 55) (ls' := [some (vR 0), some (vI x1), some (vI x2), some (vI x3)]) (st' := []) (L' := LR (uZ z1 3 0) (uA (uA (uA f1 4 (upd (f1 4) (ix x2) x3)) 5 (upd (f1 5) (ix x2) x3)) 6 (upd (f1 6) (ix x2) x3))) 1 (b272_17 (mcall (d + 1)) 0 _ z1 (uA (uA (uA f1 4 (upd (f1 4) (ix x2) x3)) 5 (upd (f1 5) (ix x2) x3)) 6 (upd (f1 6) (ix x2) x3))) ?_
              refine rc_b (i' := 56) (ls' := [some (vR 0), some (vI x1), some (vI x2), some (vI x3)]) (st' := [vI 1]) (L' := LR (uZ z1 3 0) (uA (uA (uA f1 4 (upd (f1 4) (ix x2) x3)) 5 (upd (f1 5) (ix x2) x3)) 6 (upd (f1 6) (ix x2) x3))) 1 (b272_18 (mcall (d + 1)) x1 x2 x3 _) ?_
              subst H
              exact rc_ret (b272_19 (mcall (d + 1)) _ _)
            · have H := H.2 (cI1f q25)
              refine rc_b (i' := 51) (ls' := [some (vR 0), some (vI x1), some (vI x2), some (vI x3)]) (st' := [vI x3, vI 4, vR 1]) (L' := LR z1 (uA (uA (uA f1 4 (upd (f1 4) (ix x2) x3)) 5 (upd (f1 5) (ix x2) x3)) 6 (upd (f1 6) (ix x2) x3))) 4 (b272_20 (mcall (d + 1)) x1 x2 x3 z1 (uA (uA (uA f1 4 (upd (f1 4) (ix x2) x3)) 5 (upd (f1 5) (ix x2) x3)) 6 (upd (f1 6) (ix x2) x3))) ?_
              obtain ⟨g1, H⟩ := H
              refine rc_g (i' := 52) (ls' := [some (vR 0), some (vI x1), some (vI x2), some (vI x3)]) (st' := []) (L' := LR z1 (uA (uA (uA (uA f1 4 (upd (f1 4) (ix x2) x3)) 5 (upd (f1 5) (ix x2) x3)) 6 (upd (f1 6) (ix x2) x3)) 1 (upd (f1 1) (ix 4) x3))) (b272_21 (mcall (d + 1)) 4 x3 _ z1 (uA (uA (uA f1 4 (upd (f1 4) (ix x2) x3)) 5 (upd (f1 5) (ix x2) x3)) 6 (upd (f1 6) (ix x2) x3))) (pinG g1) ?_
              refine rc_b (i' := 54) (ls' := [some (vR 0), some (vI x1), some (vI x2), some (vI x3)]) (st' := [vI 0, vR 0]) (L' := LR z1 (uA (uA (uA (uA f1 4 (upd (f1 4) (ix x2) x3)) 5 (upd (f1 5) (ix x2) x3)) 6 (upd (f1 6) (ix x2) x3)) 1 (upd (f1 1) (ix 4) x3))) 2 (b272_16 (mcall (d + 1)) x1 x2 x3 _) ?_
              refine rc_b (i' := 55) (ls' := [some (vR 0), some (vI x1), some (vI x2), some (vI x3)]) (st' := []) (L' := LR (uZ z1 3 0) (uA (uA (uA (uA f1 4 (upd (f1 4) (ix x2) x3)) 5 (upd (f1 5) (ix x2) x3)) 6 (upd (f1 6) (ix x2) x3)) 1 (upd (f1 1) (ix 4) x3))) 1 (b272_17 (mcall (d + 1)) 0 _ z1 (uA (uA (uA (uA f1 4 (upd (f1 4) (ix x2) x3)) 5 (upd (f1 5) (ix x2) x3)) 6 (upd (f1 6) (ix x2) x3)) 1 (upd (f1 1) (ix 4) x3))) ?_
              refine rc_b (i' := 56) (ls' := [some (vR 0), some (vI x1), some (vI x2), some (vI x3)]) (st' := [vI 1]) (L' := LR (uZ z1 3 0) (uA (uA (uA (uA f1 4 (upd (f1 4) (ix x2) x3)) 5 (upd (f1 5) (ix x2) x3)) 6 (upd (f1 6) (ix x2) x3)) 1 (upd (f1 1) (ix 4) x3))) 1 (b272_18 (mcall (d + 1)) x1 x2 x3 _) ?_
              subst H
              exact rc_ret (b272_19 (mcall (d + 1)) _ _)
      · have H := H.2 (cI1f q18)
        refine rc_b (i' := 27) (ls' := [some (vR 0), some (vI x1), some (vI x2), some (vI x3)]) (st' := [vI x3, vI (7 + x2), vR 1]) (L' := LR z1 (uA f1 4 (upd (f1 4) (ix x2) x3))) 6 (b272_26 (mcall (d + 1)) x1 x2 x3 z1 (uA f1 4 (upd (f1 4) (ix x2) x3))) ?_
        obtain ⟨g1, H⟩ := H
        refine rc_g (i' := 28) (ls' := [some (vR 0), some (vI x1), some (vI x2), some (vI x3)]) (st' := []) (L' := LR z1 (uA (uA f1 4 (upd (f1 4) (ix x2) x3)) 1 (upd (f1 1) (ix (7 + x2)) x3))) (b272_27 (mcall (d + 1)) (7 + x2) x3 _ z1 (uA f1 4 (upd (f1 4) (ix x2) x3))) (pinG g1) ?_
        refine rc_b (i' := 30) (ls' := [some (vR 0), some (vI x1), some (vI x2), some (vI x3)]) (st' := [vI 2, vI x1]) (L' := LR z1 (uA (uA f1 4 (upd (f1 4) (ix x2) x3)) 1 (upd (f1 1) (ix (7 + x2)) x3))) 2 (b272_10 (mcall (d + 1)) x1 x2 x3 _) ?_
        refine rc_if (it := 36) (ie := 31) (ls' := [some (vR 0), some (vI x1), some (vI x2), some (vI x3)]) (st' := []) (b272_11 (mcall (d + 1)) x1 2 _ _) (fun q26 => ?_) (fun q26 => ?_)
        · have H := H.1 (cI1t q26)
          refine rc_b (i' := 38) (ls' := [some (vR 0), some (vI x1), some (vI x2), some (vI x3)]) (st' := [vI 3, vI x1]) (L' := LR z1 (uA (uA f1 4 (upd (f1 4) (ix x2) x3)) 1 (upd (f1 1) (ix (7 + x2)) x3))) 2 (b272_12 (mcall (d + 1)) x1 x2 x3 _) ?_
          refine rc_if (it := 44) (ie := 39) (ls' := [some (vR 0), some (vI x1), some (vI x2), some (vI x3)]) (st' := []) (b272_13 (mcall (d + 1)) x1 3 _ _) (fun q27 => ?_) (fun q27 => ?_)
          · have H := H.1 (cI1t q27)
            refine rc_b (i' := 46) (ls' := [some (vR 0), some (vI x1), some (vI x2), some (vI x3)]) (st' := [vI 4, vI x1]) (L' := LR z1 (uA (uA f1 4 (upd (f1 4) (ix x2) x3)) 1 (upd (f1 1) (ix (7 + x2)) x3))) 2 (b272_14 (mcall (d + 1)) x1 x2 x3 _) ?_
            refine rc_if (it := 52) (ie := 47) (ls' := [some (vR 0), some (vI x1), some (vI x2), some (vI x3)]) (st' := []) (b272_15 (mcall (d + 1)) x1 4 _ _) (fun q28 => ?_) (fun q28 => ?_)
            · have H := H.1 (cI1t q28)
              refine rc_b (i' := 54) (ls' := [some (vR 0), some (vI x1), some (vI x2), some (vI x3)]) (st' := [vI 0, vR 0]) (L' := LR z1 (uA (uA f1 4 (upd (f1 4) (ix x2) x3)) 1 (upd (f1 1) (ix (7 + x2)) x3))) 2 (b272_16 (mcall (d + 1)) x1 x2 x3 _) ?_
              refine rc_b (i' := 55) (ls' := [some (vR 0), some (vI x1), some (vI x2), some (vI x3)]) (st' := []) (L' := LR (uZ z1 3 0) (uA (uA f1 4 (upd (f1 4) (ix x2) x3)) 1 (upd (f1 1) (ix (7 + x2)) x3))) 1 (b272_17 (mcall (d + 1)) 0 _ z1 (uA (uA f1 4 (upd (f1 4) (ix x2) x3)) 1 (upd (f1 1) (ix (7 + x2)) x3))) ?_
              refine rc_b (i' := 56) (ls' := [some (vR 0), some (vI x1), some (vI x2), some (vI x3)]) (st' := [vI 1]) (L' := LR (uZ z1 3 0) (uA (uA f1 4 (upd (f1 4) (ix x2) x3)) 1 (upd (f1 1) (ix (7 + x2)) x3))) 1 (b272_18 (mcall (d + 1)) x1 x2 x3 _) ?_
              subst H
              exact rc_ret (b272_19 (mcall (d + 1)) _ _)
            · have H := H.2 (cI1f q28)
              refine rc_b (i' := 51) (ls' := [some (vR 0), some (vI x1), some (vI x2), some (vI x3)]) (st' := [vI x3, vI 4, vR 1]) (L' := LR z1 (uA (uA f1 4 (upd (f1 4) (ix x2) x3)) 1 (upd (f1 1) (ix (7 + x2)) x3))) 4 (b272_20 (mcall (d + 1)) x1 x2 x3 z1 (uA (uA f1 4 (upd (f1 4) (ix x2) x3)) 1 (upd (f1 1) (ix (7 + x2)) x3))) ?_
              obtain ⟨g1, H⟩ := H
              refine rc_g (i' := 52) (ls' := [some (vR 0), some (vI x1), some (vI x2), some (vI x3)]) (st' := []) (L' := LR z1 (uA (uA (uA f1 4 (upd (f1 4) (ix x2) x3)) 1 (upd (f1 1) (ix (7 + x2)) x3)) 1 (upd (upd (f1 1) (ix (7 + x2)) x3) (ix 4) x3))) (b272_21 (mcall (d + 1)) 4 x3 _ z1 (uA (uA f1 4 (upd (f1 4) (ix x2) x3)) 1 (upd (f1 1) (ix (7 + x2)) x3))) (pinG g1) ?_
              refine rc_b (i' := 54) (ls' := [some (vR 0), some (vI x1), some (vI x2), some (vI x3)]) (st' := [vI 0, vR 0]) (L' := LR z1 (uA (uA (uA f1 4 (upd (f1 4) (ix x2) x3)) 1 (upd (f1 1) (ix (7 + x2)) x3)) 1 (upd (upd (f1 1) (ix (7 + x2)) x3) (ix 4) x3))) 2 (b272_16 (mcall (d + 1)) x1 x2 x3 _) ?_
              refine rc_b (i' := 55) (ls' := [some (vR 0), some (vI x1), some (vI x2), some (vI x3)]) (st' := []) (L' := LR (uZ z1 3 0) (uA (uA (uA f1 4 (upd (f1 4) (ix x2) x3)) 1 (upd (f1 1) (ix (7 + x2)) x3)) 1 (upd (upd (f1 1) (ix (7 + x2)) x3) (ix 4) x3))) 1 (b272_17 (mcall (d + 1)) 0 _ z1 (uA (uA (uA f1 4 (upd (f1 4) (ix x2) x3)) 1 (upd (f1 1) (ix (7 + x2)) x3)) 1 (upd (upd (f1 1) (ix (7 + x2)) x3) (ix 4) x3))) ?_
              refine rc_b (i' := 56) (ls' := [some (vR 0), some (vI x1), some (vI x2), some (vI x3)]) (st' := [vI 1]) (L' := LR (uZ z1 3 0) (uA (uA (uA f1 4 (upd (f1 4) (ix x2) x3)) 1 (upd (f1 1) (ix (7 + x2)) x3)) 1 (upd (upd (f1 1) (ix (7 + x2)) x3) (ix 4) x3))) 1 (b272_18 (mcall (d + 1)) x1 x2 x3 _) ?_
              subst H
              exact rc_ret (b272_19 (mcall (d + 1)) _ _)
          · have H := H.2 (cI1f q27)
            refine rc_b (i' := 43) (ls' := [some (vR 0), some (vI x1), some (vI x2), some (vI x3)]) (st' := [vI x3, vI x2, vR 6]) (L' := LR z1 (uA (uA f1 4 (upd (f1 4) (ix x2) x3)) 1 (upd (f1 1) (ix (7 + x2)) x3))) 4 (b272_22 (mcall (d + 1)) x1 x2 x3 z1 (uA (uA f1 4 (upd (f1 4) (ix x2) x3)) 1 (upd (f1 1) (ix (7 + x2)) x3))) ?_
            obtain ⟨g1, H⟩ := H
            refine rc_g (i' := 44) (ls' := [some (vR 0), some (vI x1), some (vI x2), some (vI x3)]) (st' := []) (L' := LR z1 (uA (uA (uA f1 4 (upd (f1 4) (ix x2) x3)) 1 (upd (f1 1) (ix (7 + x2)) x3)) 6 (upd (f1 6) (ix x2) x3))) (b272_23 (mcall (d + 1)) x2 x3 _ z1 (uA (uA f1 4 (upd (f1 4) (ix x2) x3)) 1 (upd (f1 1) (ix (7 + x2)) x3))) (pinG g1) ?_
            refine rc_b (i' := 46) (ls' := [some (vR 0), some (vI x1), some (vI x2), some (vI x3)]) (st' := [vI 4, vI x1]) (L' := LR z1 (uA (uA (uA f1 4 (upd (f1 4) (ix x2) x3)) 1 (upd (f1 1) (ix (7 + x2)) x3)) 6 (upd (f1 6) (ix x2) x3))) 2 (b272_14 (mcall (d + 1)) x1 x2 x3 _) ?_
            refine rc_if (it := 52) (ie := 47) (ls' := [some (vR 0), some (vI x1), some (vI x2), some (vI x3)]) (st' := []) (b272_15 (mcall (d + 1)) x1 4 _ _) (fun q29 => ?_) (fun q29 => ?_)
            · have H := H.1 (cI1t q29)
              refine rc_b (i' := 54) (ls' := [some (vR 0), some (vI x1), some (vI x2), some (vI x3)]) (st' := [vI 0, vR 0]) (L' := LR z1 (uA (uA (uA f1 4 (upd (f1 4) (ix x2) x3)) 1 (upd (f1 1) (ix (7 + x2)) x3)) 6 (upd (f1 6) (ix x2) x3))) 2 (b272_16 (mcall (d + 1)) x1 x2 x3 _) ?_
              refine rc_b (i' := 55) (ls' := [some (vR 0), some (vI x1), some (vI x2), some (vI x3)]) (st' := []) (L' := LR (uZ z1 3 0) (uA (uA (uA f1 4 (upd (f1 4) (ix x2) x3)) 1 (upd (f1 1) (ix (7 + x2)) x3)) 6 (upd (f1 6) (ix x2) x3))) 1 (b272_17 (mcall (d + 1)) 0 _ z1 (uA (uA (uA f1 4 (upd (f1 4) (ix x2) x3)) 1 (upd (f1 1) (ix (7 + x2)) x3)) 6 (upd (f1 6) (ix x2) x3))) ?_
              refine rc_b (i' := 56) (ls' := [some (vR 0), some (vI x1), some (vI x2), some (vI x3)]) (st' := [vI 1]) (L' := LR (uZ z1 3 0) (uA (uA (uA f1 4 (upd (f1 4) (ix x2) x3)) 1 (upd (f1 1) (ix (7 + x2)) x3)) 6 (upd (f1 6) (ix x2) x3))) 1 (b272_18 (mcall (d + 1)) x1 x2 x3 _) ?_
              subst H
              exact rc_ret (b272_19 (mcall (d + 1)) _ _)
            · have H := H.2 (cI1f q29)
              refine rc_b (i' := 51) (ls' := [some (vR 0), some (vI x1), some (vI x2), some (vI x3)]) (st' := [vI x3, vI 4, vR 1]) (L' := LR z1 (uA (uA (uA f1 4 (upd (f1 4) (ix x2) x3)) 1 (upd (f1 1) (ix (7 + x2)) x3)) 6 (upd (f1 6) (ix x2) x3))) 4 (b272_20 (mcall (d + 1)) x1 x2 x3 z1 (uA (uA (uA f1 4 (upd (f1 4) (ix x2) x3)) 1 (upd (f1 1) (ix (7 + x2)) x3)) 6 (upd (f1 6) (ix x2) x3))) ?_
              obtain ⟨g1, H⟩ := H
              refine rc_g (i' := 52) (ls' := [some (vR 0), some (vI x1), some (vI x2), some (vI x3)]) (st' := []) (L' := LR z1 (uA (uA (uA (uA f1 4 (upd (f1 4) (ix x2) x3)) 1 (upd (f1 1) (ix (7 + x2)) x3)) 6 (upd (f1 6) (ix x2) x3)) 1 (upd (upd (f1 1) (ix (7 + x2)) x3) (ix 4) x3))) (b272_21 (mcall (d + 1)) 4 x3 _ z1 (uA (uA (uA f1 4 (upd (f1 4) (ix x2) x3)) 1 (upd (f1 1) (ix (7 + x2)) x3)) 6 (upd (f1 6) (ix x2) x3))) (pinG g1) ?_
              refine rc_b (i' := 54) (ls' := [some (vR 0), some (vI x1), some (vI x2), some (vI x3)]) (st' := [vI 0, vR 0]) (L' := LR z1 (uA (uA (uA (uA f1 4 (upd (f1 4) (ix x2) x3)) 1 (upd (f1 1) (ix (7 + x2)) x3)) 6 (upd (f1 6) (ix x2) x3)) 1 (upd (upd (f1 1) (ix (7 + x2)) x3) (ix 4) x3))) 2 (b272_16 (mcall (d + 1)) x1 x2 x3 _) ?_
              refine rc_b (i' := 55) (ls' := [some (vR 0), some (vI x1), some (vI x2), some (vI x3)]) (st' := []) (L' := LR (uZ z1 3 0) (uA (uA (uA (uA f1 4 (upd (f1 4) (ix x2) x3)) 1 (upd (f1 1) (ix (7 + x2)) x3)) 6 (upd (f1 6) (ix x2) x3)) 1 (upd (upd (f1 1) (ix (7 + x2)) x3) (ix 4) x3))) 1 (b272_17 (mcall (d + 1)) 0 _ z1 (uA (uA (uA (uA f1 4 (upd (f1 4) (ix x2) x3)) 1 (upd (f1 1) (ix (7 + x2)) x3)) 6 (upd (f1 6) (ix x2) x3)) 1 (upd (upd (f1 1) (ix (7 + x2)) x3) (ix 4) x3))) ?_
              refine rc_b (i' := 56) (ls' := [some (vR 0), some (vI x1), some (vI x2), some (vI x3)]) (st' := [vI 1]) (L' := LR (uZ z1 3 0) (uA (uA (uA (uA f1 4 (upd (f1 4) (ix x2) x3)) 1 (upd (f1 1) (ix (7 + x2)) x3)) 6 (upd (f1 6) (ix x2) x3)) 1 (upd (upd (f1 1) (ix (7 + x2)) x3) (ix 4) x3))) 1 (b272_18 (mcall (d + 1)) x1 x2 x3 _) ?_
              subst H
              exact rc_ret (b272_19 (mcall (d + 1)) _ _)
        · have H := H.2 (cI1f q26)
          refine rc_b (i' := 35) (ls' := [some (vR 0), some (vI x1), some (vI x2), some (vI x3)]) (st' := [vI x3, vI x2, vR 5]) (L' := LR z1 (uA (uA f1 4 (upd (f1 4) (ix x2) x3)) 1 (upd (f1 1) (ix (7 + x2)) x3))) 4 (b272_24 (mcall (d + 1)) x1 x2 x3 z1 (uA (uA f1 4 (upd (f1 4) (ix x2) x3)) 1 (upd (f1 1) (ix (7 + x2)) x3))) ?_
          obtain ⟨g1, H⟩ := H
          refine rc_g (i' := 36) (ls' := [some (vR 0), some (vI x1), some (vI x2), some (vI x3)]) (st' := []) (L' := LR z1 (uA (uA (uA f1 4 (upd (f1 4) (ix x2) x3)) 1 (upd (f1 1) (ix (7 + x2)) x3)) 5 (upd (f1 5) (ix x2) x3))) (b272_25 (mcall (d + 1)) x2 x3 _ z1 (uA (uA f1 4 (upd (f1 4) (ix x2) x3)) 1 (upd (f1 1) (ix (7 + x2)) x3))) (pinG g1) ?_
          refine rc_b (i' := 38) (ls' := [some (vR 0), some (vI x1), some (vI x2), some (vI x3)]) (st' := [vI 3, vI x1]) (L' := LR z1 (uA (uA (uA f1 4 (upd (f1 4) (ix x2) x3)) 1 (upd (f1 1) (ix (7 + x2)) x3)) 5 (upd (f1 5) (ix x2) x3))) 2 (b272_12 (mcall (d + 1)) x1 x2 x3 _) ?_
          refine rc_if (it := 44) (ie := 39) (ls' := [some (vR 0), some (vI x1), some (vI x2), some (vI x3)]) (st' := []) (b272_13 (mcall (d + 1)) x1 3 _ _) (fun q30 => ?_) (fun q30 => ?_)
          · have H := H.1 (cI1t q30)
            refine rc_b (i' := 46) (ls' := [some (vR 0), some (vI x1), some (vI x2), some (vI x3)]) (st' := [vI 4, vI x1]) (L' := LR z1 (uA (uA (uA f1 4 (upd (f1 4) (ix x2) x3)) 1 (upd (f1 1) (ix (7 + x2)) x3)) 5 (upd (f1 5) (ix x2) x3))) 2 (b272_14 (mcall (d + 1)) x1 x2 x3 _) ?_
            refine rc_if (it := 52) (ie := 47) (ls' := [some (vR 0), some (vI x1), some (vI x2), some (vI x3)]) (st' := []) (b272_15 (mcall (d + 1)) x1 4 _ _) (fun q31 => ?_) (fun q31 => ?_)
            · have H := H.1 (cI1t q31)
              refine rc_b (i' := 54) (ls' := [some (vR 0), some (vI x1), some (vI x2), some (vI x3)]) (st' := [vI 0, vR 0]) (L' := LR z1 (uA (uA (uA f1 4 (upd (f1 4) (ix x2) x3)) 1 (upd (f1 1) (ix (7 + x2)) x3)) 5 (upd (f1 5) (ix x2) x3))) 2 (b272_16 (mcall (d + 1)) x1 x2 x3 _) ?_
              refine rc_b (i' := 55) (ls' := [some (vR 0), some (vI x1), some (vI x2), some (vI x3)]) (st' := []) (L' := LR (uZ z1 3 0) (uA (uA (uA f1 4 (upd (f1 4) (ix x2) x3)) 1 (upd (f1 1) (ix (7 + x2)) x3)) 5 (upd (f1 5) (ix x2) x3))) 1 (b272_17 (mcall (d + 1)) 0 _ z1 (uA (uA (uA f1 4 (upd (f1 4) (ix x2) x3)) 1 (upd (f1 1) (ix (7 + x2)) x3)) 5 (upd (f1 5) (ix x2) x3))) ?_
              refine rc_b (i' := 56) (ls' := [some (vR 0), some (vI x1), some (vI x2), some (vI x3)]) (st' := [vI 1]) (L' := LR (uZ z1 3 0) (uA (uA (uA f1 4 (upd (f1 4) (ix x2) x3)) 1 (upd (f1 1) (ix (7 + x2)) x3)) 5 (upd (f1 5) (ix x2) x3))) 1 (b272_18 (mcall (d + 1)) x1 x2 x3 _) ?_
              subst H
              exact rc_ret (b272_19 (mcall (d + 1)) _ _)
            · have H := H.2 (cI1f q31)
              refine rc_b (i' := 51) (ls' := [some (vR 0), some (vI x1), some (vI x2), some (vI x3)]) (st' := [vI x3, vI 4, vR 1]) (L' := LR z1 (uA (uA (uA f1 4 (upd (f1 4) (ix x2) x3)) 1 (upd (f1 1) (ix (7 + x2)) x3)) 5 (upd (f1 5) (ix x2) x3))) 4 (b272_20 (mcall (d + 1)) x1 x2 x3 z1 (uA (uA (uA f1 4 (upd (f1 4) (ix x2) x3)) 1 (upd (f1 1) (ix (7 + x2)) x3)) 5 (upd (f1 5) (ix x2) x3))) ?_
              obtain ⟨g1, H⟩ := H
              refine rc_g (i' := 52) (ls' := [some (vR 0), some (vI x1), some (vI x2), some (vI x3)]) (st' := []) (L' := LR z1 (uA (uA (uA (uA f1 4 (upd (f1 4) (ix x2) x3)) 1 (upd (f1 1) (ix (7 + x2)) x3)) 5 (upd (f1 5) (ix x2) x3)) 1 (upd (upd (f1 1) (ix (7 + x2)) x3) (ix 4) x3))) (b272_21 (mcall (d + 1)) 4 x3 _ z1 (uA (uA (uA f1 4 (upd (f1 4) (ix x2) x3)) 1 (upd (f1 1) (ix (7 + x2)) x3)) 5 (upd (f1 5) (ix x2) x3))) (pinG g1) ?_
              refine rc_b (i' := 54) (ls' := [some (vR 0), some (vI x1), some (vI x2), some (vI x3)]) (st' := [vI 0, vR 0]) (L' := LR z1 (uA (uA (uA (uA f1 4 (upd (f1 4) (ix x2) x3)) 1 (upd (f1 1) (ix (7 + x2)) x3)) 5 (upd (f1 5) (ix x2) x3)) 1 (upd (upd (f1 1) (ix (7 + x2)) x3) (ix 4) x3))) 2 (b272_16 (mcall (d + 1)) x1 x2 x3 _) ?_
              refine rc_b (i' := 55) (ls' := [some (vR 0), some (vI x1), some (vI x2), some (vI x3)]) (st' := []) (L' := LR (uZ z1 3 0) (uA (uA (uA (uA f1 4 (upd (f1 4) (ix x2) x3)) 1 (upd (f1 1) (ix (7 + x2)) x3)) 5 (upd (f1 5) (ix x2) x3)) 1 (upd (upd (f1 1) (ix (7 + x2)) x3) (ix 4) x3))) 1 (b272_17 (mcall (d + 1)) 0 _ z1 (uA (uA (uA (uA f1 4 (upd (f1 4) (ix x2) x3)) 1 (upd (f1 1) (ix (7 + x2)) x3)) 5 (upd (f1 5) (ix x2) x3)) 1 (upd (upd (f1 1) (ix (7 + x2)) x3) (ix 4) x3))) ?_
              refine rc_b (i' := 56) (ls' := [some (vR 0), some (vI x1), some (vI x2), some (vI x3)]) (st' := [vI 1]) (L' := LR (uZ z1 3 0) (uA (uA (uA (uA f1 4 (upd (f1 4) (ix x2) x3)) 1 (upd (f1 1) (ix (7 + x2)) x3)) 5 (upd (f1 5) (ix x2) x3)) 1 (upd (upd (f1 1) (ix (7 + x2)) x3) (ix 4) x3))) 1 (b272_18 (mcall (d + 1)) x1 x2 x3 _) ?_
              subst H
              exact rc_ret (b272_19 (mcall (d + 1)) _ _)
          · have H := H.2 (cI1f q30)
            refine rc_b (i' := 43) (ls' := [some (vR 0), some (vI x1), some (vI x2), some (vI x3)]) (st' := [vI x3, vI x2, vR 6]) (L' := LR z1 (uA (uA (uA f1 4 (upd (f1 4) (ix x2) x3)) 1 (upd (f1 1) (ix (7 + x2)) x3)) 5 (upd (f1 5) (ix x2) x3))) 4 (b272_22 (mcall (d + 1)) x1 x2 x3 z1 (uA (uA (uA f1 4 (upd (f1 4) (ix x2) x3)) 1 (upd (f1 1) (ix (7 + x2)) x3)) 5 (upd (f1 5) (ix x2) x3))) ?_
            obtain ⟨g1, H⟩ := H
            refine rc_g (i' := 44) (ls' := [some (vR 0), some (vI x1), some (vI x2), some (vI x3)]) (st' := []) (L' := LR z1 (uA (uA (uA (uA f1 4 (upd (f1 4) (ix x2) x3)) 1 (upd (f1 1) (ix (7 + x2)) x3)) 5 (upd (f1 5) (ix x2) x3)) 6 (upd (f1 6) (ix x2) x3))) (b272_23 (mcall (d + 1)) x2 x3 _ z1 (uA (uA (uA f1 4 (upd (f1 4) (ix x2) x3)) 1 (upd (f1 1) (ix (7 + x2)) x3)) 5 (upd (f1 5) (ix x2) x3))) (pinG g1) ?_
            refine rc_b (i' := 46) (ls' := [some (vR 0), some (vI x1), some (vI x2), some (vI x3)]) (st' := [vI 4, vI x1]) (L' := LR z1 (uA (uA (uA (uA f1 4 (upd (f1 4) (ix x2) x3)) 1 (upd (f1 1) (ix (7 + x2)) x3)) 5 (upd (f1 5) (ix x2) x3)) 6 (upd (f1 6) (ix x2) x3))) 2 (b272_14 (mcall (d + 1)) x1 x2 x3 _) ?_
            refine rc_if (it := 52) (ie := 47) (ls' := [some (vR 0), some (vI x1), some (vI x2), some (vI x3)]) (st' := []) (b272_15 (mcall (d + 1)) x1 4 _ _) (fun q32 => ?_) (fun q32 => ?_)
            · have H := H.1 (cI1t q32)
              refine rc_b (i' := 54) (ls' := [some (vR 0), some (vI x1), some (vI x2), some (vI x3)]) (st' := [vI 0, vR 0]) (L' := LR z1 (uA (uA (uA (uA f1 4 (upd (f1 4) (ix x2) x3)) 1 (upd (f1 1) (ix (7 + x2)) x3)) 5 (upd (f1 5) (ix x2) x3)) 6 (upd (f1 6) (ix x2) x3))) 2 (b272_16 (mcall (d + 1)) x1 x2 x3 _) ?_
              refine rc_b (i' := 55) (ls' := [some (vR 0), some (vI x1), some (vI x2), some (vI x3)]) (st' := []) (L' := LR (uZ z1 3 0) (uA (uA (uA (uA f1 4 (upd (f1 4) (ix x2) x3)) 1 (upd (f1 1) (ix (7 + x2)) x3)) 5 (upd (f1 5) (ix x2) x3)) 6 (upd (f1 6) (ix x2) x3))) 1 (b272_17 (mcall (d + 1)) 0 _ z1 (uA (uA (uA (uA f1 4 (upd (f1 4) (ix x2) x3)) 1 (upd (f1 1) (ix (7 + x2)) x3)) 5 (upd (f1 5) (ix x2) x3)) 6 (upd (f1 6) (ix x2) x3))) ?_
              refine rc_b (i' := 56) (ls' := [some (vR 0), some (vI x1), some (vI x2), some (vI x3)]) (st' := [vI 1]) (L' := LR (uZ z1 3 0) (uA (uA (uA (uA f1 4 (upd (f1 4) (ix x2) x3)) 1 (upd (f1 1) (ix (7 + x2)) x3)) 5 (upd (f1 5) (ix x2) x3)) 6 (upd (f1 6) (ix x2) x3))) 1 (b272_18 (mcall (d + 1)) x1 x2 x3 _) ?_
              subst H
              exact rc_ret (b272_19 (mcall (d + 1)) _ _)
            · have H := H.2 (cI1f q32)
              refine rc_b (i' := 51) (ls' := [some (vR 0), some (vI x1), some (vI x2), some (vI x3)]) (st' := [vI x3, vI 4, vR 1]) (L' := LR z1 (uA (uA (uA (uA f1 4 (upd (f1 4) (ix x2) x3)) 1 (upd (f1 1) (ix (7 + x2)) x3)) 5 (upd (f1 5) (ix x2) x3)) 6 (upd (f1 6) (ix x2) x3))) 4 (b272_20 (mcall (d + 1)) x1 x2 x3 z1 (uA (uA (uA (uA f1 4 (upd (f1 4) (ix x2) x3)) 1 (upd (f1 1) (ix (7 + x2)) x3)) 5 (upd (f1 5) (ix x2) x3)) 6 (upd (f1 6) (ix x2) x3))) ?_
              obtain ⟨g1, H⟩ := H
              refine rc_g (i' := 52) (ls' := [some (vR 0), some (vI x1), some (vI x2), some (vI x3)]) (st' := []) (L' := LR z1 (uA (uA (uA (uA (uA f1 4 (upd (f1 4) (ix x2) x3)) 1 (upd (f1 1) (ix (7 + x2)) x3)) 5 (upd (f1 5) (ix x2) x3)) 6 (upd (f1 6) (ix x2) x3)) 1 (upd (upd (f1 1) (ix (7 + x2)) x3) (ix 4) x3))) (b272_21 (mcall (d + 1)) 4 x3 _ z1 (uA (uA (uA (uA f1 4 (upd (f1 4) (ix x2) x3)) 1 (upd (f1 1) (ix (7 + x2)) x3)) 5 (upd (f1 5) (ix x2) x3)) 6 (upd (f1 6) (ix x2) x3))) (pinG g1) ?_
              refine rc_b (i' := 54) (ls' := [some (vR 0), some (vI x1), some (vI x2), some (vI x3)]) (st' := [vI 0, vR 0]) (L' := LR z1 (uA (uA (uA (uA (uA f1 4 (upd (f1 4) (ix x2) x3)) 1 (upd (f1 1) (ix (7 + x2)) x3)) 5 (upd (f1 5) (ix x2) x3)) 6 (upd (f1 6) (ix x2) x3)) 1 (upd (upd (f1 1) (ix (7 + x2)) x3) (ix 4) x3))) 2 (b272_16 (mcall (d + 1)) x1 x2 x3 _) ?_
              refine rc_b (i' := 55) (ls' := [some (vR 0), some (vI x1), some (vI x2), some (vI x3)]) (st' := []) (L' := LR (uZ z1 3 0) (uA (uA (uA (uA (uA f1 4 (upd (f1 4) (ix x2) x3)) 1 (upd (f1 1) (ix (7 + x2)) x3)) 5 (upd (f1 5) (ix x2) x3)) 6 (upd (f1 6) (ix x2) x3)) 1 (upd (upd (f1 1) (ix (7 + x2)) x3) (ix 4) x3))) 1 (b272_17 (mcall (d + 1)) 0 _ z1 (uA (uA (uA (uA (uA f1 4 (upd (f1 4) (ix x2) x3)) 1 (upd (f1 1) (ix (7 + x2)) x3)) 5 (upd (f1 5) (ix x2) x3)) 6 (upd (f1 6) (ix x2) x3)) 1 (upd (upd (f1 1) (ix (7 + x2)) x3) (ix 4) x3))) ?_
              refine rc_b (i' := 56) (ls' := [some (vR 0), some (vI x1), some (vI x2), some (vI x3)]) (st' := [vI 1]) (L' := LR (uZ z1 3 0) (uA (uA (uA (uA (uA f1 4 (upd (f1 4) (ix x2) x3)) 1 (upd (f1 1) (ix (7 + x2)) x3)) 5 (upd (f1 5) (ix x2) x3)) 6 (upd (f1 6) (ix x2) x3)) 1 (upd (upd (f1 1) (ix (7 + x2)) x3) (ix 4) x3))) 1 (b272_18 (mcall (d + 1)) x1 x2 x3 _) ?_
              subst H
              exact rc_ret (b272_19 (mcall (d + 1)) _ _)
  · have H := H.2 (cI1f q1)
    refine rc_b (i' := 10) (ls' := [some (vR 0), some (vI x1), some (vI x2), some (vI x3)]) (st' := [vI 0]) (L' := LR z1 f1) 1 (b272_30 (mcall (d + 1)) x1 x2 x3 _) ?_
    subst H
    exact rc_ret (b272_31 (mcall (d + 1)) _ _)
set_option maxRecDepth 100000 in
theorem b284_1 (call : QC FA) (x1 : Int32) (x2 : Int32) (x3 : Int32) (x4 : Int32) (L : QH FA) (F : Nat) : rnG call 284 (F + 2) 0 [some (vR 0), some (vI x1), some (vI x2), some (vI x3), some (vI x4)] [] L = rnG call 284 F 2 [some (vR 0), some (vI x1), some (vI x2), some (vI x3), some (vI x4)] [vI 0, vR 0] L := rfl
set_option maxRecDepth 100000 in
theorem b284_2 (call : QC FA) (y : Int32) (ls : List (Option PV)) (z : Nat → Int32) (f : Nat → FA) (F : Nat) : rnG call 284 (F + 1) 2 ls [vI y, vR 0] (LR z f) = rnG call 284 F 3 ls [] (LR (uZ z 0 y) f) := rfl
set_option maxRecDepth 100000 in
theorem b284_3 (call : QC FA) (x1 : Int32) (x2 : Int32) (x3 : Int32) (x4 : Int32) (L : QH FA) (F : Nat) : rnG call 284 (F + 4) 3 [some (vR 0), some (vI x1), some (vI x2), some (vI x3), some (vI x4)] [] L = rnG call 284 F 7 [some (vR 0), some (vI x1), some (vI x2), some (vI x3), some (vI x4)] [vI 255, vI 0, vI x1, vR 0] L := rfl
set_option maxRecDepth 100000 in
theorem b284_4 (call : QC FA) (a0 : Int32) (a1 : Int32) (a2 : Int32) (ls : List (Option PV)) (z : Nat → Int32) (f : Nat → FA) (F : Nat) : rnG call 284 (F + 1) 7 ls [vI a2, vI a1, vI a0, vR 0] (LR z f) = cbd (call 47 [vR 0, vI a0, vI a1, vI a2] (LR z f)) (fun r L' => rnG call 284 F 8 ls (r.toList ++ []) L') := pcY (ih := rnG call 284 F) (call := call) (a := 47) (b := 3) (v := 12) (t := 8) (x := 0) (ls := ls) (As := [vI a0, vI a1, vI a2]) (st' := []) (L := LR z f) rfl rfl rfl
set_option maxRecDepth 100000 in
theorem b284_5 (call : QC FA) (x : Int32) (ls : List (Option PV)) (L : QH FA) (F : Nat) : rnG call 284 (F + 1) 8 ls [vI x] L = bif pcmp 0 x 0 then rnG call 284 F 31 ls [] L else rnG call 284 F 9 ls [] L := rfl
set_option maxRecDepth 100000 in
theorem b284_6 (call : QC FA) (x1 : Int32) (x2 : Int32) (x3 : Int32) (x4 : Int32) (L : QH FA) (F : Nat) : rnG call 284 (F + 1) 31 [some (vR 0), some (vI x1), some (vI x2), some (vI x3), some (vI x4)] [] L = rnG call 284 F 32 [some (vR 0), some (vI x1), some (vI x2), some (vI x3), some (vI x4)] [vI ((-1))] L := rfl
set_option maxRecDepth 100000 in
theorem b284_7 (call : QC FA) (x : Int32) (ls : List (Option PV)) (L : QH FA) (F : Nat) : rnG call 284 (F + 1) 32 ls [vI x] L = some (some (vI x), L) := rfl
set_option maxRecDepth 100000 in
theorem b284_8 (call : QC FA) (x1 : Int32) (x2 : Int32) (x3 : Int32) (x4 : Int32) (L : QH FA) (F : Nat) : rnG call 284 (F + 4) 9 [some (vR 0), some (vI x1), some (vI x2), some (vI x3), some (vI x4)] [] L = rnG call 284 F 13 [some (vR 0), some (vI x1), some (vI x2), some (vI x3), some (vI x4)] [vI 1, vI ((-1)), vI x2, vR 0] L := rfl
set_option maxRecDepth 100000 in
theorem b284_9 (call : QC FA) (a0 : Int32) (a1 : Int32) (a2 : Int32) (ls : List (Option PV)) (z : Nat → Int32) (f : Nat → FA) (F : Nat) : rnG call 284 (F + 1) 13 ls [vI a2, vI a1, vI a0, vR 0] (LR z f) = cbd (call 47 [vR 0, vI a0, vI a1, vI a2] (LR z f)) (fun r L' => rnG call 284 F 14 ls (r.toList ++ []) L') := pcY (ih := rnG call 284 F) (call := call) (a := 47) (b := 3) (v := 12) (t := 14) (x := 0) (ls := ls) (As := [vI a0, vI a1, vI a2]) (st' := []) (L := LR z f) rfl rfl rfl
set_option maxRecDepth 100000 in
theorem b284_10 (call : QC FA) (x : Int32) (ls : List (Option PV)) (L : QH FA) (F : Nat) : rnG call 284 (F + 1) 14 ls [vI x] L = bif pcmp 0 x 0 then rnG call 284 F 31 ls [] L else rnG call 284 F 15 ls [] L := rfl
set_option maxRecDepth 100000 in
theorem b284_11 (call : QC FA) (x1 : Int32) (x2 : Int32) (x3 : Int32) (x4 : Int32) (L : QH FA) (F : Nat) : rnG call 284 (F + 4) 15 [some (vR 0), some (vI x1), some (vI x2), some (vI x3), some (vI x4)] [] L = rnG call 284 F 19 [some (vR 0), some (vI x1), some (vI x2), some (vI x3), some (vI x4)] [vI 11, vI 0, vI x3, vR 0] L := rfl
set_option maxRecDepth 100000 in
theorem b284_12 (call : QC FA) (a0 : Int32) (a1 : Int32) (a2 : Int32) (ls : List (Option PV)) (z : Nat → Int32) (f : Nat → FA) (F : Nat) : rnG call 284 (F + 1) 19 ls [vI a2, vI a1, vI a0, vR 0] (LR z f) = cbd (call 47 [vR 0, vI a0, vI a1, vI a2] (LR z f)) (fun r L' => rnG call 284 F 20 ls (r.toList ++ []) L') := pcY (ih := rnG call 284 F) (call := call) (a := 47) (b := 3) (v := 12) (t := 20) (x := 0) (ls := ls) (As := [vI a0, vI a1, vI a2]) (st' := []) (L := LR z f) rfl rfl rfl
set_option maxRecDepth 100000 in
theorem b284_13 (call : QC FA) (x : Int32) (ls : List (Option PV)) (L : QH FA) (F : Nat) : rnG call 284 (F + 1) 20 ls [vI x] L = bif pcmp 0 x 0 then rnG call 284 F 31 ls [] L else rnG call 284 F 21 ls [] L := rfl
set_option maxRecDepth 100000 in
theorem b284_14 (call : QC FA) (x1 : Int32) (x2 : Int32) (x3 : Int32) (x4 : Int32) (L : QH FA) (F : Nat) : rnG call 284 (F + 4) 21 [some (vR 0), some (vI x1), some (vI x2), some (vI x3), some (vI x4)] [] L = rnG call 284 F 25 [some (vR 0), some (vI x1), some (vI x2), some (vI x3), some (vI x4)] [vI 9, vI 0, vI x4, vR 0] L := rfl
set_option maxRecDepth 100000 in
theorem b284_15 (call : QC FA) (a0 : Int32) (a1 : Int32) (a2 : Int32) (ls : List (Option PV)) (z : Nat → Int32) (f : Nat → FA) (F : Nat) : rnG call 284 (F + 1) 25 ls [vI a2, vI a1, vI a0, vR 0] (LR z f) = cbd (call 47 [vR 0, vI a0, vI a1, vI a2] (LR z f)) (fun r L' => rnG call 284 F 26 ls (r.toList ++ []) L') := pcY (ih := rnG call 284 F) (call := call) (a := 47) (b := 3) (v := 12) (t := 26) (x := 0) (ls := ls) (As := [vI a0, vI a1, vI a2]) (st' := []) (L := LR z f) rfl rfl rfl
set_option maxRecDepth 100000 in
theorem b284_16 (call : QC FA) (x : Int32) (ls : List (Option PV)) (L : QH FA) (F : Nat) : rnG call 284 (F + 1) 26 ls [vI x] L = bif pcmp 0 x 0 then rnG call 284 F 31 ls [] L else rnG call 284 F 27 ls [] L := rfl
set_option maxRecDepth 100000 in
theorem b284_17 (call : QC FA) (x1 : Int32) (x2 : Int32) (x3 : Int32) (x4 : Int32) (z : Nat → Int32) (f : Nat → FA) (F : Nat) : rnG call 284 (F + 3) 27 [some (vR 0), some (vI x1), some (vI x2), some (vI x3), some (vI x4)] [] (LR z f) = rnG call 284 F 30 [some (vR 0), some (vI x1), some (vI x2), some (vI x3), some (vI x4)] [vI 20, vI (z 6)] (LR z f) := rfl
set_option maxRecDepth 100000 in
theorem b284_18 (call : QC FA) (x y : Int32) (ls : List (Option PV)) (L : QH FA) (F : Nat) : rnG call 284 (F + 1) 30 ls [vI y, vI x] L = bif pcmp 1 x y then rnG call 284 F 33 ls [] L else rnG call 284 F 31 ls [] L := rfl
set_option maxRecDepth 100000 in
theorem b284_19 (call : QC FA) (x1 : Int32) (x2 : Int32) (x3 : Int32) (x4 : Int32) (z : Nat → Int32) (f : Nat → FA) (F : Nat) : rnG call 284 (F + 5) 33 [some (vR 0), some (vI x1), some (vI x2), some (vI x3), some (vI x4)] [] (LR z f) = rnG call 284 F 38 [some (vR 0), some (vI x1), some (vI x2), some (vI x3), some (vI x4)] [vI x1, vI (z 6), vR 4] (LR z f) := rfl
set_option maxRecDepth 100000 in
theorem b284_20 (call : QC FA) (x y : Int32) (ls : List (Option PV)) (z : Nat → Int32) (f : Nat → FA) (F : Nat) : rnG call 284 (F + 1) 38 ls [vI y, vI x, vR 4] (LR z f) = bif (Nat.beq 0 0 && pin x 20) then rnG call 284 F 39 ls [] (LR z (uA f 4 (upd (f 4) (ix x) y))) else none := rfl
set_option maxRecDepth 100000 in
theorem b284_21 (call : QC FA) (x1 : Int32) (x2 : Int32) (x3 : Int32) (x4 : Int32) (z : Nat → Int32) (f : Nat → FA) (F : Nat) : rnG call 284 (F + 5) 39 [some (vR 0), some (vI x1), some (vI x2), some (vI x3), some (vI x4)] [] (LR z f) = rnG call 284 F 44 [some (vR 0), some (vI x1), some (vI x2), some (vI x3), some (vI x4)] [vI x3, vI (z 6), vR 5] (LR z f) := rfl
set_option maxRecDepth 100000 in
theorem b284_22 (call : QC FA) (x y : Int32) (ls : List (Option PV)) (z : Nat → Int32) (f : Nat → FA) (F : Nat) : rnG call 284 (F + 1) 44 ls [vI y, vI x, vR 5] (LR z f) = bif (Nat.beq 0 0 && pin x 20) then rnG call 284 F 45 ls [] (LR z (uA f 5 (upd (f 5) (ix x) y))) else none := rfl
set_option maxRecDepth 100000 in
theorem b284_23 (call : QC FA) (x1 : Int32) (x2 : Int32) (x3 : Int32) (x4 : Int32) (z : Nat → Int32) (f : Nat → FA) (F : Nat) : rnG call 284 (F + 5) 45 [some (vR 0), some (vI x1), some (vI x2), some (vI x3), some (vI x4)] [] (LR z f) = rnG call 284 F 50 [some (vR 0), some (vI x1), some (vI x2), some (vI x3), some (vI x4)] [vI x4, vI (z 6), vR 6] (LR z f) := rfl
set_option maxRecDepth 100000 in
theorem b284_24 (call : QC FA) (x y : Int32) (ls : List (Option PV)) (z : Nat → Int32) (f : Nat → FA) (F : Nat) : rnG call 284 (F + 1) 50 ls [vI y, vI x, vR 6] (LR z f) = bif (Nat.beq 0 0 && pin x 20) then rnG call 284 F 51 ls [] (LR z (uA f 6 (upd (f 6) (ix x) y))) else none := rfl
set_option maxRecDepth 100000 in
theorem b284_25 (call : QC FA) (x1 : Int32) (x2 : Int32) (x3 : Int32) (x4 : Int32) (z : Nat → Int32) (f : Nat → FA) (F : Nat) : rnG call 284 (F + 7) 51 [some (vR 0), some (vI x1), some (vI x2), some (vI x3), some (vI x4)] [] (LR z f) = rnG call 284 F 58 [some (vR 0), some (vI x1), some (vI x2), some (vI x3), some (vI x4)] [vI x2, vI (7 + (z 6)), vR 1] (LR z f) := rfl
set_option maxRecDepth 100000 in
theorem b284_26 (call : QC FA) (x y : Int32) (ls : List (Option PV)) (z : Nat → Int32) (f : Nat → FA) (F : Nat) : rnG call 284 (F + 1) 58 ls [vI y, vI x, vR 1] (LR z f) = bif (Nat.beq 0 0 && pin x 499) then rnG call 284 F 59 ls [] (LR z (uA f 1 (upd (f 1) (ix x) y))) else none := rfl
set_option maxRecDepth 100000 in
theorem b284_27 (call : QC FA) (x1 : Int32) (x2 : Int32) (x3 : Int32) (x4 : Int32) (z : Nat → Int32) (f : Nat → FA) (F : Nat) : rnG call 284 (F + 7) 59 [some (vR 0), some (vI x1), some (vI x2), some (vI x3), some (vI x4)] [] (LR z f) = rnG call 284 F 66 [some (vR 0), some (vI x1), some (vI x2), some (vI x3), some (vI x4)] [vI 0, vI (27 + (z 6)), vR 1] (LR z f) := rfl
set_option maxRecDepth 100000 in
theorem b284_28 (call : QC FA) (x y : Int32) (ls : List (Option PV)) (z : Nat → Int32) (f : Nat → FA) (F : Nat) : rnG call 284 (F + 1) 66 ls [vI y, vI x, vR 1] (LR z f) = bif (Nat.beq 0 0 && pin x 499) then rnG call 284 F 67 ls [] (LR z (uA f 1 (upd (f 1) (ix x) y))) else none := rfl
set_option maxRecDepth 100000 in
theorem b284_29 (call : QC FA) (x1 : Int32) (x2 : Int32) (x3 : Int32) (x4 : Int32) (z : Nat → Int32) (f : Nat → FA) (F : Nat) : rnG call 284 (F + 7) 67 [some (vR 0), some (vI x1), some (vI x2), some (vI x3), some (vI x4)] [] (LR z f) = rnG call 284 F 74 [some (vR 0), some (vI x1), some (vI x2), some (vI x3), some (vI x4)] [vI 0, vI (47 + (z 6)), vR 1] (LR z f) := rfl
set_option maxRecDepth 100000 in
theorem b284_30 (call : QC FA) (x y : Int32) (ls : List (Option PV)) (z : Nat → Int32) (f : Nat → FA) (F : Nat) : rnG call 284 (F + 1) 74 ls [vI y, vI x, vR 1] (LR z f) = bif (Nat.beq 0 0 && pin x 499) then rnG call 284 F 75 ls [] (LR z (uA f 1 (upd (f 1) (ix x) y))) else none := rfl
set_option maxRecDepth 100000 in
theorem b284_31 (call : QC FA) (x1 : Int32) (x2 : Int32) (x3 : Int32) (x4 : Int32) (z : Nat → Int32) (f : Nat → FA) (F : Nat) : rnG call 284 (F + 5) 75 [some (vR 0), some (vI x1), some (vI x2), some (vI x3), some (vI x4)] [] (LR z f) = rnG call 284 F 80 [some (vR 0), some (vI x1), some (vI x2), some (vI x3), some (vI x4)] [vI ((z 6) + 1), vR 0] (LR z f) := rfl
set_option maxRecDepth 100000 in
theorem b284_32 (call : QC FA) (y : Int32) (ls : List (Option PV)) (z : Nat → Int32) (f : Nat → FA) (F : Nat) : rnG call 284 (F + 1) 80 ls [vI y, vR 0] (LR z f) = rnG call 284 F 81 ls [] (LR (uZ z 6 y) f) := rfl
set_option maxRecDepth 100000 in
theorem b284_33 (call : QC FA) (x1 : Int32) (x2 : Int32) (x3 : Int32) (x4 : Int32) (L : QH FA) (F : Nat) : rnG call 284 (F + 2) 81 [some (vR 0), some (vI x1), some (vI x2), some (vI x3), some (vI x4)] [] L = rnG call 284 F 83 [some (vR 0), some (vI x1), some (vI x2), some (vI x3), some (vI x4)] [vI 0, vR 0] L := rfl
set_option maxRecDepth 100000 in
theorem b284_34 (call : QC FA) (y : Int32) (ls : List (Option PV)) (z : Nat → Int32) (f : Nat → FA) (F : Nat) : rnG call 284 (F + 1) 83 ls [vI y, vR 0] (LR z f) = rnG call 284 F 84 ls [] (LR (uZ z 3 y) f) := rfl
set_option maxRecDepth 100000 in
theorem b284_35 (call : QC FA) (x1 : Int32) (x2 : Int32) (x3 : Int32) (x4 : Int32) (z : Nat → Int32) (f : Nat → FA) (F : Nat) : rnG call 284 (F + 4) 84 [some (vR 0), some (vI x1), some (vI x2), some (vI x3), some (vI x4)] [] (LR z f) = rnG call 284 F 88 [some (vR 0), some (vI x1), some (vI x2), some (vI x3), some (vI x4)] [vI ((z 6) - 1)] (LR z f) := rfl
set_option maxRecDepth 100000 in
theorem b284_36 (call : QC FA) (x : Int32) (ls : List (Option PV)) (L : QH FA) (F : Nat) : rnG call 284 (F + 1) 88 ls [vI x] L = some (some (vI x), L) := rfl
theorem vc284_0 (d : Nat) (x1 : Int32) (x2 : Int32) (x3 : Int32) (x4 : Int32) (z : Nat → Int32) (f : Nat → FA) (res : Option PV × QH FA) (H : (((0 ≤ I x1 ∧ I x1 ≤ 255) → (((-1 ≤ I x2 ∧ I x2 ≤ 1) → (((0 ≤ I x3 ∧ I x3 ≤ 11) → (((0 ≤ I x4 ∧ I x4 ≤ 9) → ((¬ z 6 = 20 → (pin (z 6) 20 = true ∧ (pin (z 6) 20 = true ∧ (pin (z 6) 20 = true ∧ (pin (7 + (z 6)) 499 = true ∧ (pin (27 + (z 6)) 499 = true ∧ (pin (47 + (z 6)) 499 = true ∧ res = (some (vI (((z 6) + 1) - 1)), LR (uZ (uZ (uZ z 0 0) 6 ((z 6) + 1)) 3 0) (uA (uA (uA (uA (uA (uA f 4 (upd (f 4) (ix (z 6)) x1)) 5 (upd (f 5) (ix (z 6)) x3)) 6 (upd (f 6) (ix (z 6)) x4)) 1 (upd (f 1) (ix (7 + (z 6))) x2)) 1 (upd (upd (f 1) (ix (7 + (z 6))) x2) (ix (27 + (z 6))) 0)) 1 (upd (upd (upd (f 1) (ix (7 + (z 6))) x2) (ix (27 + (z 6))) 0) (ix (47 + (z 6))) 0)))))))))) ∧ (z 6 = 20 → res = (some (vI ((-1))), LR (uZ z 0 0) f)))) ∧ ((¬ (0 ≤ I x4 ∧ I x4 ≤ 9)) → res = (some (vI ((-1))), LR (uZ z 0 0) f)))) ∧ ((¬ (0 ≤ I x3 ∧ I x3 ≤ 11)) → res = (some (vI ((-1))), LR (uZ z 0 0) f)))) ∧ ((¬ (-1 ≤ I x2 ∧ I x2 ≤ 1)) → res = (some (vI ((-1))), LR (uZ z 0 0) f)))) ∧ ((¬ (0 ≤ I x1 ∧ I x1 ≤ 255)) → res = (some (vI ((-1))), LR (uZ z 0 0) f)))) : RC (mcall (d + 1)) (mP 284) 0 [some (vR 0), some (vI x1), some (vI x2), some (vI x3), some (vI x4)] [] (LR z f) res := by
  refine rc_b (i' := 2) (ls' := [some (vR 0), some (vI x1), some (vI x2), some (vI x3), some (vI x4)]) (st' := [vI 0, vR 0]) (L' := LR z f) 2 (b284_1 (mcall (d + 1)) x1 x2 x3 x4 _) ?_
  refine rc_b (i' := 3) (ls' := [some (vR 0), some (vI x1), some (vI x2), some (vI x3), some (vI x4)]) (st' := []) (L' := LR (uZ z 0 0) f) 1 (b284_2 (mcall (d + 1)) 0 _ z f) ?_
  refine rc_b (i' := 7) (ls' := [some (vR 0), some (vI x1), some (vI x2), some (vI x3), some (vI x4)]) (st' := [vI 255, vI 0, vI x1, vR 0]) (L' := LR (uZ z 0 0) f) 4 (b284_3 (mcall (d + 1)) x1 x2 x3 x4 _) ?_
  refine rc_call (t := 8) (ls' := [some (vR 0), some (vI x1), some (vI x2), some (vI x3), some (vI x4)]) (st' := []) (b284_4 (mcall (d + 1)) x1 0 255 _ (uZ z 0 0) f) (isIn_r _ x1 0 255 (uZ z 0 0) f) ?_
  show RC (mcall (d + 1)) (mP 284) 8 [some (vR 0), some (vI x1), some (vI x2), some (vI x3), some (vI x4)] [vI (bI (0 ≤ I x1 ∧ I x1 ≤ 255))] (LR (uZ z 0 0) f) res
  refine rc_bz (it := 31) (ie := 9) (ls' := [some (vR 0), some (vI x1), some (vI x2), some (vI x3), some (vI x4)]) (st' := []) (b284_5 (mcall (d + 1)) (bI (0 ≤ I x1 ∧ I x1 ≤ 255)) _ _) (fun q1 => ?_) (fun q1 => ?_)
  · have H := H.2 q1
    refine rc_b (i' := 32) (ls' := [some (vR 0), some (vI x1), some (vI x2), some (vI x3), some (vI x4)]) (st' := [vI ((-1))]) (L' := LR (uZ z 0 0) f) 1 (b284_6 (mcall (d + 1)) x1 x2 x3 x4 _) ?_
    subst H
    exact rc_ret (b284_7 (mcall (d + 1)) _ _ _)
  · have H := H.1 q1
    refine rc_b (i' := 13) (ls' := [some (vR 0), some (vI x1), some (vI x2), some (vI x3), some (vI x4)]) (st' := [vI 1, vI ((-1)), vI x2, vR 0]) (L' := LR (uZ z 0 0) f) 4 (b284_8 (mcall (d + 1)) x1 x2 x3 x4 _) ?_
    refine rc_call (t := 14) (ls' := [some (vR 0), some (vI x1), some (vI x2), some (vI x3), some (vI x4)]) (st' := []) (b284_9 (mcall (d + 1)) x2 ((-1)) 1 _ (uZ z 0 0) f) (isIn_r _ x2 ((-1)) 1 (uZ z 0 0) f) ?_
    show RC (mcall (d + 1)) (mP 284) 14 [some (vR 0), some (vI x1), some (vI x2), some (vI x3), some (vI x4)] [vI (bI (-1 ≤ I x2 ∧ I x2 ≤ 1))] (LR (uZ z 0 0) f) res
    refine rc_bz (it := 31) (ie := 15) (ls' := [some (vR 0), some (vI x1), some (vI x2), some (vI x3), some (vI x4)]) (st' := []) (b284_10 (mcall (d + 1)) (bI (-1 ≤ I x2 ∧ I x2 ≤ 1)) _ _) (fun q2 => ?_) (fun q2 => ?_)
    · have H := H.2 q2
      refine rc_b (i' := 32) (ls' := [some (vR 0), some (vI x1), some (vI x2), some (vI x3), some (vI x4)]) (st' := [vI ((-1))]) (L' := LR (uZ z 0 0) f) 1 (b284_6 (mcall (d + 1)) x1 x2 x3 x4 _) ?_
      subst H
      exact rc_ret (b284_7 (mcall (d + 1)) _ _ _)
    · have H := H.1 q2
      refine rc_b (i' := 19) (ls' := [some (vR 0), some (vI x1), some (vI x2), some (vI x3), some (vI x4)]) (st' := [vI 11, vI 0, vI x3, vR 0]) (L' := LR (uZ z 0 0) f) 4 (b284_11 (mcall (d + 1)) x1 x2 x3 x4 _) ?_
      refine rc_call (t := 20) (ls' := [some (vR 0), some (vI x1), some (vI x2), some (vI x3), some (vI x4)]) (st' := []) (b284_12 (mcall (d + 1)) x3 0 11 _ (uZ z 0 0) f) (isIn_r _ x3 0 11 (uZ z 0 0) f) ?_
      show RC (mcall (d + 1)) (mP 284) 20 [some (vR 0), some (vI x1), some (vI x2), some (vI x3), some (vI x4)] [vI (bI (0 ≤ I x3 ∧ I x3 ≤ 11))] (LR (uZ z 0 0) f) res
      refine rc_bz (it := 31) (ie := 21) (ls' := [some (vR 0), some (vI x1), some (vI x2), some (vI x3), some (vI x4)]) (st' := []) (b284_13 (mcall (d + 1)) (bI (0 ≤ I x3 ∧ I x3 ≤ 11)) _ _) (fun q3 => ?_) (fun q3 => ?_)
      · have H := H.2 q3
        refine rc_b (i' := 32) (ls' := [some (vR 0), some (vI x1), some (vI x2), some (vI x3), some (vI x4)]) (st' := [vI ((-1))]) (L' := LR (uZ z 0 0) f) 1 (b284_6 (mcall (d + 1)) x1 x2 x3 x4 _) ?_
        subst H
        exact rc_ret (b284_7 (mcall (d + 1)) _ _ _)
      · have H := H.1 q3
        refine rc_b (i' := 25) (ls' := [some (vR 0), some (vI x1), some (vI x2), some (vI x3), some (vI x4)]) (st' := [vI 9, vI 0, vI x4, vR 0]) (L' := LR (uZ z 0 0) f) 4 (b284_14 (mcall (d + 1)) x1 x2 x3 x4 _) ?_
        refine rc_call (t := 26) (ls' := [some (vR 0), some (vI x1), some (vI x2), some (vI x3), some (vI x4)]) (st' := []) (b284_15 (mcall (d + 1)) x4 0 9 _ (uZ z 0 0) f) (isIn_r _ x4 0 9 (uZ z 0 0) f) ?_
        show RC (mcall (d + 1)) (mP 284) 26 [some (vR 0), some (vI x1), some (vI x2), some (vI x3), some (vI x4)] [vI (bI (0 ≤ I x4 ∧ I x4 ≤ 9))] (LR (uZ z 0 0) f) res
        refine rc_bz (it := 31) (ie := 27) (ls' := [some (vR 0), some (vI x1), some (vI x2), some (vI x3), some (vI x4)]) (st' := []) (b284_16 (mcall (d + 1)) (bI (0 ≤ I x4 ∧ I x4 ≤ 9)) _ _) (fun q4 => ?_) (fun q4 => ?_)
        · have H := H.2 q4
          refine rc_b (i' := 32) (ls' := [some (vR 0), some (vI x1), some (vI x2), some (vI x3), some (vI x4)]) (st' := [vI ((-1))]) (L' := LR (uZ z 0 0) f) 1 (b284_6 (mcall (d + 1)) x1 x2 x3 x4 _) ?_
          subst H
          exact rc_ret (b284_7 (mcall (d + 1)) _ _ _)
        · have H := H.1 q4
          refine rc_b (i' := 30) (ls' := [some (vR 0), some (vI x1), some (vI x2), some (vI x3), some (vI x4)]) (st' := [vI 20, vI (z 6)]) (L' := LR (uZ z 0 0) f) 3 (b284_17 (mcall (d + 1)) x1 x2 x3 x4 (uZ z 0 0) f) ?_
          refine rc_if (it := 33) (ie := 31) (ls' := [some (vR 0), some (vI x1), some (vI x2), some (vI x3), some (vI x4)]) (st' := []) (b284_18 (mcall (d + 1)) (z 6) 20 _ _) (fun q5 => ?_) (fun q5 => ?_)
          · have H := H.1 (cI1t q5)
            refine rc_b (i' := 38) (ls' := [some (vR 0), some (vI x1), some (vI x2), some (vI x3), some (vI x4)]) (st' := [vI x1, vI (z 6), vR 4]) (L' := LR (uZ z 0 0) f) 5 (b284_19 (mcall (d + 1)) x1 x2 x3 x4 (uZ z 0 0) f) ?_
            obtain ⟨g1, H⟩ := H
            refine rc_g (i' := 39) (ls' := [some (vR 0), some (vI x1), some (vI x2), some (vI x3), some (vI x4)]) (st' := []) (L' := LR (uZ z 0 0) (uA f 4 (upd (f 4) (ix (z 6)) x1))) (b284_20 (mcall (d + 1)) (z 6) x1 _ (uZ z 0 0) f) (pinG g1) ?_
            refine rc_b (i' := 44) (ls' := [some (vR 0), some (vI x1), some (vI x2), some (vI x3), some (vI x4)]) (st' := [vI x3, vI (z 6), vR 5]) (L' := LR (uZ z 0 0) (uA f 4 (upd (f 4) (ix (z 6)) x1))) 5 (b284_21 (mcall (d + 1)) x1 x2 x3 x4 (uZ z 0 0) (uA f 4 (upd (f 4) (ix (z 6)) x1))) ?_
            obtain ⟨g1, H⟩ := H
            refine rc_g (i' := 45) (ls' := [some (vR 0), some (vI x1), some (vI x2), some (vI x3), some (vI x4)]) (st' := []) (L' := LR (uZ z 0 0) (uA (uA f 4 (upd (f 4) (ix (z 6)) x1)) 5 (upd (f 5) (ix (z 6)) x3))) (b284_22 (mcall (d + 1)) (z 6) x3 _ (uZ z 0 0) (uA f 4 (upd (f 4) (ix (z 6)) x1))) (pinG g1) ?_
            refine rc_b (i' := 50) (ls' := [some (vR 0), some (vI x1), some (vI x2), some (vI x3), some (vI x4)]) (st' := [vI x4, vI (z 6), vR 6]) (L' := LR (uZ z 0 0) (uA (uA f 4 (upd (f 4) (ix (z 6)) x1)) 5 (upd (f 5) (ix (z 6)) x3))) 5 (b284_23 (mcall (d + 1)) x1 x2 x3 x4 (uZ z 0 0) (uA (uA f 4 (upd (f 4) (ix (z 6)) x1)) 5 (upd (f 5) (ix (z 6)) x3))) ?_
            obtain ⟨g1, H⟩ := H
            refine rc_g (i' := 51) (ls' := [some (vR 0), some (vI x1), some (vI x2), some (vI x3), some (vI x4)]) (st' := []) (L' := LR (uZ z 0 0) (uA (uA (uA f 4 (upd (f 4) (ix (z 6)) x1)) 5 (upd (f 5) (ix (z 6)) x3)) 6 (upd (f 6) (ix (z 6)) x4))) (b284_24 (mcall (d + 1)) (z 6) x4 _ (uZ z 0 0) (uA (uA f 4 (upd (f 4) (ix (z 6)) x1)) 5 (upd (f 5) (ix (z 6)) x3))) (pinG g1) ?_
            refine rc_b (i' := 58) (ls' := [some (vR 0), some (vI x1), some (vI x2), some (vI x3), some (vI x4)]) (st' := [vI x2, vI (7 + (z 6)), vR 1]) (L' := LR (uZ z 0 0) (uA (uA (uA f 4 (upd (f 4) (ix (z 6)) x1)) 5 (upd (f 5) (ix (z 6)) x3)) 6 (upd (f 6) (ix (z 6)) x4))) 7 (b284_25 (mcall (d + 1)) x1 x2 x3 x4 (uZ z 0 0) (uA (uA (uA f 4 (upd (f 4) (ix (z 6)) x1)) 5 (upd (f 5) (ix (z 6)) x3)) 6 (upd (f 6) (ix (z 6)) x4))) ?_
            obtain ⟨g1, H⟩ := H
            refine rc_g (i' := 59) (ls' := [some (vR 0), some (vI x1), some (vI x2), some (vI x3), some (vI x4)]) (st' := []) (L' := LR (uZ z 0 0) (uA (uA (uA (uA f 4 (upd (f 4) (ix (z 6)) x1)) 5 (upd (f 5) (ix (z 6)) x3)) 6 (upd (f 6) (ix (z 6)) x4)) 1 (upd (f 1) (ix (7 + (z 6))) x2))) (b284_26 (mcall (d + 1)) (7 + (z 6)) x2 _ (uZ z 0 0) (uA (uA (uA f 4 (upd (f 4) (ix (z 6)) x1)) 5 (upd (f 5) (ix (z 6)) x3)) 6 (upd (f 6) (ix (z 6)) x4))) (pinG g1) ?_
            refine rc_b (i' := 66) (ls' := [some (vR 0), some (vI x1), some (vI x2), some (vI x3), some (vI x4)]) (st' := [vI 0, vI (27 + (z 6)), vR 1]) (L' := LR (uZ z 0 0) (uA (uA (uA (uA f 4 (upd (f 4) (ix (z 6)) x1)) 5 (upd (f 5) (ix (z 6)) x3)) 6 (upd (f 6) (ix (z 6)) x4)) 1 (upd (f 1) (ix (7 + (z 6))) x2))) 7 (b284_27 (mcall (d + 1)) x1 x2 x3 x4 (uZ z 0 0) (uA (uA (uA (uA f 4 (upd (f 4) (ix (z 6)) x1)) 5 (upd (f 5) (ix (z 6)) x3)) 6 (upd (f 6) (ix (z 6)) x4)) 1 (upd (f 1) (ix (7 + (z 6))) x2))) ?_
            obtain ⟨g1, H⟩ := H
            refine rc_g (i' := 67) (ls' := [some (vR 0), some (vI x1), some (vI x2), some (vI x3), some (vI x4)]) (st' := []) (L' := LR (uZ z 0 0) (uA (uA (uA (uA (uA f 4 (upd (f 4) (ix (z 6)) x1)) 5 (upd (f 5) (ix (z 6)) x3)) 6 (upd (f 6) (ix (z 6)) x4)) 1 (upd (f 1) (ix (7 + (z 6))) x2)) 1 (upd (upd (f 1) (ix (7 + (z 6))) x2) (ix (27 + (z 6))) 0))) (b284_28 (mcall (d + 1)) (27 + (z 6)) 0 _ (uZ z 0 0) (uA (uA (uA (uA f 4 (upd (f 4) (ix (z 6)) x1)) 5 (upd (f 5) (ix (z 6)) x3)) 6 (upd (f 6) (ix (z 6)) x4)) 1 (upd (f 1) (ix (7 + (z 6))) x2))) (pinG g1) ?_
            refine rc_b (i' := 74) (ls' := [some (vR 0), some (vI x1), some (vI x2), some (vI x3), some (vI x4)]) (st' := [vI 0, vI (47 + (z 6)), vR 1]) (L' := LR (uZ z 0 0) (uA (uA (uA (uA (uA f 4 (upd (f 4) (ix (z 6)) x1)) 5 (upd (f 5) (ix (z 6)) x3)) 6 (upd (f 6) (ix (z 6)) x4)) 1 (upd (f 1) (ix (7 + (z 6))) x2)) 1 (upd (upd (f 1) (ix (7 + (z 6))) x2) (ix (27 + (z 6))) 0))) 7 (b284_29 (mcall (d + 1)) x1 x2 x3 x4 (uZ z 0 0) (uA (uA (uA (uA (uA f 4 (upd (f 4) (ix (z 6)) x1)) 5 (upd (f 5) (ix (z 6)) x3)) 6 (upd (f 6) (ix (z 6)) x4)) 1 (upd (f 1) (ix (7 + (z 6))) x2)) 1 (upd (upd (f 1) (ix (7 + (z 6))) x2) (ix (27 + (z 6))) 0))) ?_
            obtain ⟨g1, H⟩ := H
            refine rc_g (i' := 75) (ls' := [some (vR 0), some (vI x1), some (vI x2), some (vI x3), some (vI x4)]) (st' := []) (L' := LR (uZ z 0 0) (uA (uA (uA (uA (uA (uA f 4 (upd (f 4) (ix (z 6)) x1)) 5 (upd (f 5) (ix (z 6)) x3)) 6 (upd (f 6) (ix (z 6)) x4)) 1 (upd (f 1) (ix (7 + (z 6))) x2)) 1 (upd (upd (f 1) (ix (7 + (z 6))) x2) (ix (27 + (z 6))) 0)) 1 (upd (upd (upd (f 1) (ix (7 + (z 6))) x2) (ix (27 + (z 6))) 0) (ix (47 + (z 6))) 0))) (b284_30 (mcall (d + 1)) (47 + (z 6)) 0 _ (uZ z 0 0) (uA (uA (uA (uA (uA f 4 (upd (f 4) (ix (z 6)) x1)) 5 (upd (f 5) (ix (z 6)) x3)) 6 (upd (f 6) (ix (z 6)) x4)) 1 (upd (f 1) (ix (7 + (z 6))) x2)) 1 (upd (upd (f 1) (ix (7 + (z 6))) x2) (ix (27 + (z 6))) 0))) (pinG g1) ?_
            refine rc_b (i' := 80) (ls' := [some (vR 0), some (vI x1), some (vI x2), some (vI x3), some (vI x4)]) (st' := [vI ((z 6) + 1), vR 0]) (L' := LR (uZ z 0 0) (uA (uA (uA (uA (uA (uA f 4 (upd (f 4) (ix (z 6)) x1)) 5 (upd (f 5) (ix (z 6)) x3)) 6 (upd (f 6) (ix (z 6)) x4)) 1 (upd (f 1) (ix (7 + (z 6))) x2)) 1 (upd (upd (f 1) (ix (7 + (z 6))) x2) (ix (27 + (z 6))) 0)) 1 (upd (upd (upd (f 1) (ix (7 + (z 6))) x2) (ix (27 + (z 6))) 0) (ix (47 + (z 6))) 0))) 5 (b284_31 (mcall (d + 1)) x1 x2 x3 x4 (uZ z 0 0) (uA (uA (uA (uA (uA (uA f 4 (upd (f 4) (ix (z 6)) x1)) 5 (upd (f 5) (ix (z 6)) x3)) 6 (upd (f 6) (ix (z 6)) x4)) 1 (upd (f 1) (ix (7 + (z 6))) x2)) 1 (upd (upd (f 1) (ix (7 + (z 6))) x2) (ix (27 + (z 6))) 0)) 1 (upd (upd (upd (f 1) (ix (7 + (z 6))) x2) (ix (27 + (z 6))) 0) (ix (47 + (z 6))) 0))) ?_
            refine rc_b (i' := 81) (ls' := [some (vR 0), some (vI x1), some (vI x2), some (vI x3), some (vI x4)]) (st' := []) (L' := LR (uZ (uZ z 0 0) 6 ((z 6) + 1)) (uA (uA (uA (uA (uA (uA f 4 (upd (f 4) (ix (z 6)) x1)) 5 (upd (f 5) (ix (z 6)) x3)) 6 (upd (f 6) (ix (z 6)) x4)) 1 (upd (f 1) (ix (7 + (z 6))) x2)) 1 (upd (upd (f 1) (ix (7 + (z 6))) x2) (ix (27 + (z 6))) 0)) 1 (upd (upd (upd (f 1) (ix (7 + (z 6))) x2) (ix (27 + (z 6))) 0) (ix (47 + (z 6))) 0))) 1 (b284_32 (mcall (d + 1)) ((z 6) + 1) _ (uZ z 0 0) (uA (uA (uA (uA (uA (uA f 4 (upd (f 4) (ix (z 6)) x1)) 5 (upd (f 5) (ix (z 6)) x3)) 6 (upd (f 6) (ix (z 6)) x4)) 1 (upd (f 1) (ix (7 + (z 6))) x2)) 1 (upd (upd (f 1) (ix (7 + (z 6))) x2) (ix (27 + (z 6))) 0)) 1 (upd (upd (upd (f 1) (ix (7 + (z 6))) x2) (ix (27 + (z 6))) 0) (ix (47 + (z 6))) 0))) ?_
            refine rc_b (i' := 83) (ls' := [some (vR 0), some (vI x1), some (vI x2), some (vI x3), some (vI x4)]) (st' := [vI 0, vR 0]) (L' := LR (uZ (uZ z 0 0) 6 ((z 6) + 1)) (uA (uA (uA (uA (uA (uA f 4 (upd (f 4) (ix (z 6)) x1)) 5 (upd (f 5) (ix (z 6)) x3)) 6 (upd (f 6) (ix (z 6)) x4)) 1 (upd (f 1) (ix (7 + (z 6))) x2)) 1 (upd (upd (f 1) (ix (7 + (z 6))) x2) (ix (27 + (z 6))) 0)) 1 (upd (upd (upd (f 1) (ix (7 + (z 6))) x2) (ix (27 + (z 6))) 0) (ix (47 + (z 6))) 0))) 2 (b284_33 (mcall (d + 1)) x1 x2 x3 x4 _) ?_
            refine rc_b (i' := 84) (ls' := [some (vR 0), some (vI x1), some (vI x2), some (vI x3), some (vI x4)]) (st' := []) (L' := LR (uZ (uZ (uZ z 0 0) 6 ((z 6) + 1)) 3 0) (uA (uA (uA (uA (uA (uA f 4 (upd (f 4) (ix (z 6)) x1)) 5 (upd (f 5) (ix (z 6)) x3)) 6 (upd (f 6) (ix (z 6)) x4)) 1 (upd (f 1) (ix (7 + (z 6))) x2)) 1 (upd (upd (f 1) (ix (7 + (z 6))) x2) (ix (27 + (z 6))) 0)) 1 (upd (upd (upd (f 1) (ix (7 + (z 6))) x2) (ix (27 + (z 6))) 0) (ix (47 + (z 6))) 0))) 1 (b284_34 (mcall (d + 1)) 0 _ (uZ (uZ z 0 0) 6 ((z 6) + 1)) (uA (uA (uA (uA (uA (uA f 4 (upd (f 4) (ix (z 6)) x1)) 5 (upd (f 5) (ix (z 6)) x3)) 6 (upd (f 6) (ix (z 6)) x4)) 1 (upd (f 1) (ix (7 + (z 6))) x2)) 1 (upd (upd (f 1) (ix (7 + (z 6))) x2) (ix (27 + (z 6))) 0)) 1 (upd (upd (upd (f 1) (ix (7 + (z 6))) x2) (ix (27 + (z 6))) 0) (ix (47 + (z 6))) 0))) ?_
            refine rc_b (i' := 88) (ls' := [some (vR 0), some (vI x1), some (vI x2), some (vI x3), some (vI x4)]) (st' := [vI (((z 6) + 1) - 1)]) (L' := LR (uZ (uZ (uZ z 0 0) 6 ((z 6) + 1)) 3 0) (uA (uA (uA (uA (uA (uA f 4 (upd (f 4) (ix (z 6)) x1)) 5 (upd (f 5) (ix (z 6)) x3)) 6 (upd (f 6) (ix (z 6)) x4)) 1 (upd (f 1) (ix (7 + (z 6))) x2)) 1 (upd (upd (f 1) (ix (7 + (z 6))) x2) (ix (27 + (z 6))) 0)) 1 (upd (upd (upd (f 1) (ix (7 + (z 6))) x2) (ix (27 + (z 6))) 0) (ix (47 + (z 6))) 0))) 4 (b284_35 (mcall (d + 1)) x1 x2 x3 x4 (uZ (uZ (uZ z 0 0) 6 ((z 6) + 1)) 3 0) (uA (uA (uA (uA (uA (uA f 4 (upd (f 4) (ix (z 6)) x1)) 5 (upd (f 5) (ix (z 6)) x3)) 6 (upd (f 6) (ix (z 6)) x4)) 1 (upd (f 1) (ix (7 + (z 6))) x2)) 1 (upd (upd (f 1) (ix (7 + (z 6))) x2) (ix (27 + (z 6))) 0)) 1 (upd (upd (upd (f 1) (ix (7 + (z 6))) x2) (ix (27 + (z 6))) 0) (ix (47 + (z 6))) 0))) ?_
            subst H
            exact rc_ret (b284_36 (mcall (d + 1)) _ _ _)
          · have H := H.2 (cI1f q5)
            refine rc_b (i' := 32) (ls' := [some (vR 0), some (vI x1), some (vI x2), some (vI x3), some (vI x4)]) (st' := [vI ((-1))]) (L' := LR (uZ z 0 0) f) 1 (b284_6 (mcall (d + 1)) x1 x2 x3 x4 _) ?_
            subst H
            exact rc_ret (b284_7 (mcall (d + 1)) _ _ _)
theorem RGA.forget {c c2 k nv nv' : Nat} {z z' zr zr' : Nat → Int32} {f r f' r' : Nat → FA} (g : RGA c c2 k nv z f zr r) (h1 : z' 122 = z 122) (h2 : z' 123 = 0) (h3 : zr' 3 = 0) : RGA 0 0 0 nv' z' f' zr' r' := by
  obtain ⟨p, hp, hc, hc2, hk1, hk2, g1, -⟩ := g
  exact ⟨p, hp, by decide, by decide, by decide, by decide, h1.trans g1, h2, h3, fun i hi => absurd hi (Nat.not_lt_zero i)⟩
theorem I_pred {l : Nat} (hl : l ≤ 150) : I (nI l - 1) = (l : Int) - 1 := by
  cases l with
  | zero => decide
  | succ l =>
    rw [show nI (l + 1) - 1 = nI l from nI_sub (a := l + 1) (b := 1) (by omega), I_nI (by omega)]
    omega
theorem cr_whorl {nv v : Nat} (hv : v < nv) {z : Nat → Int32} {f r : Nat → FA} (x : Int32) (h : CRL 2 nv z f r) : CRL 2 nv z (uA f 3 (upd (f 3) (0 + v) x)) (uA r 4 (upd (r 4) v x)) := by
  obtain ⟨hn, hs, ht, hm, hr⟩ := h
  refine ⟨hn, ?_, ?_, ?_, ?_⟩
  · rw [uA_ne (show (1 : Nat) ≠ 4 by decide)]
    exact hs
  · show CRt nv (upd (f 3) (0 + v) x) (r 1) (upd (r 4) v x) (r 5) (r 6)
    intro u hu
    obtain ⟨b1, b2, b3, b4, b5, b6, b7, b8, b9⟩ := ht u hu
    refine ⟨?_, (pk_un (by omega)).trans b2, (pk_un (by omega)).trans b3, (pk_un (by omega)).trans b4, (pk_un (by omega)).trans b5, (pk_un (by omega)).trans b6, b7, b8, b9⟩
    · by_cases q : u = v
      · subst q
        rw [Nat.zero_add, pk_us, pk_us]
      · rw [pk_un (by omega), pk_un q]
        exact b1
  · rw [uA_ne (show (1 : Nat) ≠ 4 by decide)]
    exact hm.cong (fun j hj => by rw [uA_ne (show (4 : Nat) ≠ 3 by decide)]) (fun j h1 h2 => rfl)
  · rw [uA_ne (show (1 : Nat) ≠ 4 by decide)]
    exact hr
theorem cr_height {nv v : Nat} (hv : v < nv) {z : Nat → Int32} {f r : Nat → FA} (x : Int32) (hx : ∃ a, a ≤ 11 ∧ x = nI a) (h : CRL 2 nv z f r) : CRL 2 nv z (uA f 3 (upd (f 3) (40 + v) x)) (uA r 5 (upd (r 5) v x)) := by
  obtain ⟨hn, hs, ht, hm, hr⟩ := h
  refine ⟨hn, ?_, ?_, ?_, ?_⟩
  · rw [uA_ne (show (1 : Nat) ≠ 5 by decide)]
    exact hs
  · show CRt nv (upd (f 3) (40 + v) x) (r 1) (r 4) (upd (r 5) v x) (r 6)
    intro u hu
    obtain ⟨b1, b2, b3, b4, b5, b6, b7, b8, b9⟩ := ht u hu
    refine ⟨(pk_un (by omega)).trans b1, (pk_un (by omega)).trans b2, ?_, (pk_un (by omega)).trans b4, (pk_un (by omega)).trans b5, (pk_un (by omega)).trans b6, ?_, b8, b9⟩
    · by_cases q : u = v
      · subst q
        rw [pk_us, pk_us]
      · rw [pk_un (by omega), pk_un q]
        exact b3
    · by_cases q : u = v
      · subst q
        rw [pk_us]
        exact hx
      · rw [pk_un q]
        exact b7
  · rw [uA_ne (show (1 : Nat) ≠ 5 by decide)]
    exact hm.cong (fun j hj => by rw [uA_ne (show (4 : Nat) ≠ 3 by decide)]) (fun j h1 h2 => rfl)
  · rw [uA_ne (show (1 : Nat) ≠ 5 by decide)]
    exact hr
theorem cr_press {nv v : Nat} (hv : v < nv) {z : Nat → Int32} {f r : Nat → FA} (x : Int32) (hx : ∃ p, p ≤ 9 ∧ x = nI p) (h : CRL 2 nv z f r) : CRL 2 nv z (uA f 3 (upd (f 3) (60 + v) x)) (uA r 6 (upd (r 6) v x)) := by
  obtain ⟨hn, hs, ht, hm, hr⟩ := h
  refine ⟨hn, ?_, ?_, ?_, ?_⟩
  · rw [uA_ne (show (1 : Nat) ≠ 6 by decide)]
    exact hs
  · show CRt nv (upd (f 3) (60 + v) x) (r 1) (r 4) (r 5) (upd (r 6) v x)
    intro u hu
    obtain ⟨b1, b2, b3, b4, b5, b6, b7, b8, b9⟩ := ht u hu
    refine ⟨(pk_un (by omega)).trans b1, (pk_un (by omega)).trans b2, (pk_un (by omega)).trans b3, ?_, (pk_un (by omega)).trans b5, (pk_un (by omega)).trans b6, b7, ?_, b9⟩
    · by_cases q : u = v
      · subst q
        rw [pk_us, pk_us]
      · rw [pk_un (by omega), pk_un q]
        exact b4
    · by_cases q : u = v
      · subst q
        rw [pk_us]
        exact hx
      · rw [pk_un q]
        exact b8
  · rw [uA_ne (show (1 : Nat) ≠ 6 by decide)]
    exact hm.cong (fun j hj => by rw [uA_ne (show (4 : Nat) ≠ 3 by decide)]) (fun j h1 h2 => rfl)
  · rw [uA_ne (show (1 : Nat) ≠ 6 by decide)]
    exact hr
