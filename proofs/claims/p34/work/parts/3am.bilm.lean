/-! bills of the reference, and the pair -/
set_option maxRecDepth 100000 in
theorem b201_1 (call : QC FA) (x1 : Int32) (o2 : Option PV) (L : QH FA) (F : Nat) : rnG call 201 (F + 2) 0 [some (vR 0), some (vI x1), o2] [] L = rnG call 201 F 2 [some (vR 0), some (vI x1), some (vI 0)] [] L := rfl
theorem vc201_0 (d : Nat) (x1 : Int32) (o2 : Option PV) (z : Nat → Int32) (f : Nat → FA) (res : Option PV × QH FA) (H : RC (mcall (d + 1)) (mP 201) 2 [some (vR 0), some (vI x1), some (vI 0)] [] (LR z f) res) : RC (mcall (d + 1)) (mP 201) 0 [some (vR 0), some (vI x1), o2] [] (LR z f) res := by
  refine rc_b (i' := 2) (ls' := [some (vR 0), some (vI x1), some (vI 0)]) (st' := []) (L' := LR z f) 2 (b201_1 (mcall (d + 1)) x1 o2 _) ?_
  exact H
set_option maxRecDepth 100000 in
theorem bc2_201_1 (call : QC FA) (x1 : Int32) (x2 : Int32) (L : QH FA) (F : Nat) : rnG call 201 (F + 2) 2 [some (vR 0), some (vI x1), some (vI x2)] [] L = rnG call 201 F 4 [some (vR 0), some (vI x1), some (vI x2)] [vI 8, vI x2] L := rfl
set_option maxRecDepth 100000 in
theorem bc2_201_2 (call : QC FA) (x y : Int32) (ls : List (Option PV)) (L : QH FA) (F : Nat) : rnG call 201 (F + 1) 4 ls [vI y, vI x] L = bif pcmp 3 x y then rnG call 201 F 21 ls [] L else rnG call 201 F 5 ls [] L := rfl
set_option maxRecDepth 100000 in
theorem bc2_201_3 (call : QC FA) (x1 : Int32) (x2 : Int32) (L : QH FA) (F : Nat) : rnG call 201 (F + 1) 21 [some (vR 0), some (vI x1), some (vI x2)] [] L = rnG call 201 F 22 [some (vR 0), some (vI x1), some (vI x2)] [vI 1] L := rfl
set_option maxRecDepth 100000 in
theorem bc2_201_4 (call : QC FA) (ls : List (Option PV)) (L : QH FA) (F : Nat) : rnG call 201 (F + 1) 22 ls [vI 1] L = some (some (vI 1), L) := rfl
set_option maxRecDepth 100000 in
theorem bc2_201_5 (call : QC FA) (x1 : Int32) (x2 : Int32) (L : QH FA) (F : Nat) : rnG call 201 (F + 3) 5 [some (vR 0), some (vI x1), some (vI x2)] [] L = rnG call 201 F 8 [some (vR 0), some (vI x1), some (vI x2)] [vI x2, vI x1, vR 0] L := rfl
set_option maxRecDepth 100000 in
theorem bc2_201_6 (call : QC FA) (a0 : Int32) (a1 : Int32) (ls : List (Option PV)) (z : Nat → Int32) (f : Nat → FA) (F : Nat) : rnG call 201 (F + 1) 8 ls [vI a1, vI a0, vR 0] (LR z f) = cbd (call 45 [vR 0, vI a0, vI a1] (LR z f)) (fun r L' => rnG call 201 F 9 ls (r.toList ++ []) L') := pcY (ih := rnG call 201 F) (call := call) (a := 45) (b := 2) (v := 12) (t := 9) (x := 0) (ls := ls) (As := [vI a0, vI a1]) (st' := []) (L := LR z f) rfl rfl rfl
set_option maxRecDepth 100000 in
theorem bc2_201_7 (call : QC FA) (x : Int32) (ls : List (Option PV)) (L : QH FA) (F : Nat) : rnG call 201 (F + 1) 9 ls [vI x] L = bif pcmp 0 x 0 then rnG call 201 F 19 ls [] L else rnG call 201 F 10 ls [] L := rfl
set_option maxRecDepth 100000 in
theorem bc2_201_8 (call : QC FA) (x1 : Int32) (x2 : Int32) (L : QH FA) (F : Nat) : rnG call 201 (F + 1) 19 [some (vR 0), some (vI x1), some (vI x2)] [] L = rnG call 201 F 20 [some (vR 0), some (vI x1), some (vI (x2 + 1))] [] L := rfl
set_option maxRecDepth 100000 in
theorem bc2_201_9 (call : QC FA) (x1 : Int32) (x2 : Int32) (L : QH FA) (F : Nat) : rnG call 201 (F + 1) 20 [some (vR 0), some (vI x1), some (vI x2)] [] L = rnG call 201 F 2 [some (vR 0), some (vI x1), some (vI x2)] [] L := rfl
set_option maxRecDepth 100000 in
theorem bc2_201_10 (call : QC FA) (x1 : Int32) (x2 : Int32) (z : Nat → Int32) (f : Nat → FA) (F : Nat) : rnG call 201 (F + 3) 10 [some (vR 0), some (vI x1), some (vI x2)] [] (LR z f) = rnG call 201 F 13 [some (vR 0), some (vI x1), some (vI x2)] [vI x2, vR 37] (LR z f) := rfl
set_option maxRecDepth 100000 in
theorem bc2_201_11 (call : QC FA) (x : Int32) (ls : List (Option PV)) (z : Nat → Int32) (f : Nat → FA) (F : Nat) : rnG call 201 (F + 1) 13 ls [vI x, vR 37] (LR z f) = bif (Nat.beq 0 0 && pin x 8) then rnG call 201 F 14 ls [vI (f 37 (ix x))] (LR z f) else none := rfl
set_option maxRecDepth 100000 in
theorem bc2_201_12 (call : QC FA) (x1 : Int32) (x2 : Int32) (s0 : Int32) (L : QH FA) (F : Nat) : rnG call 201 (F + 2) 14 [some (vR 0), some (vI x1), some (vI x2)] [vI s0] L = rnG call 201 F 16 [some (vR 0), some (vI x1), some (vI x2)] [vI (s0 &&& x1)] L := rfl
set_option maxRecDepth 100000 in
theorem bc2_201_13 (call : QC FA) (x : Int32) (ls : List (Option PV)) (L : QH FA) (F : Nat) : rnG call 201 (F + 1) 16 ls [vI x] L = bif pcmp 0 x 0 then rnG call 201 F 19 ls [] L else rnG call 201 F 17 ls [] L := rfl
set_option maxRecDepth 100000 in
theorem bc2_201_14 (call : QC FA) (x1 : Int32) (x2 : Int32) (L : QH FA) (F : Nat) : rnG call 201 (F + 1) 17 [some (vR 0), some (vI x1), some (vI x2)] [] L = rnG call 201 F 18 [some (vR 0), some (vI x1), some (vI x2)] [vI 0] L := rfl
set_option maxRecDepth 100000 in
theorem bc2_201_15 (call : QC FA) (ls : List (Option PV)) (L : QH FA) (F : Nat) : rnG call 201 (F + 1) 18 ls [vI 0] L = some (some (vI 0), L) := rfl
theorem vcc2_201_2 (d : Nat) (x1 : Int32) (x2 : Int32) (z : Nat → Int32) (f : Nat → FA) (res : Option PV × QH FA) (H : ((8 ≤ I x2 → res = (some (vI 1), LR z f)) ∧ (I x2 < 8 → (∃ (r1 : Int32) (z1 : Nat → Int32) (f1 : Nat → FA), (mcall (d + 1)) 45 [vR 0, vI x1, vI x2] (LR z f) = some (some (vI r1), LR z1 f1) ∧ ((r1 = 0 → RC (mcall (d + 1)) (mP 201) 2 [some (vR 0), some (vI x1), some (vI (x2 + 1))] [] (LR z1 f1) res) ∧ (¬ r1 = 0 → (pin x2 8 = true ∧ (((f1 37 (ix x2)) &&& x1 = 0 → RC (mcall (d + 1)) (mP 201) 2 [some (vR 0), some (vI x1), some (vI (x2 + 1))] [] (LR z1 f1) res) ∧ (¬ (f1 37 (ix x2)) &&& x1 = 0 → res = (some (vI 0), LR z1 f1)))))))))) : RC (mcall (d + 1)) (mP 201) 2 [some (vR 0), some (vI x1), some (vI x2)] [] (LR z f) res := by
  refine rc_b (i' := 4) (ls' := [some (vR 0), some (vI x1), some (vI x2)]) (st' := [vI 8, vI x2]) (L' := LR z f) 2 (bc2_201_1 (mcall (d + 1)) x1 x2 _) ?_
  refine rc_if (it := 21) (ie := 5) (ls' := [some (vR 0), some (vI x1), some (vI x2)]) (st' := []) (bc2_201_2 (mcall (d + 1)) x2 8 _ _) (fun q1 => ?_) (fun q1 => ?_)
  · have H := H.1 (cI3t q1 rfl rfl)
    refine rc_b (i' := 22) (ls' := [some (vR 0), some (vI x1), some (vI x2)]) (st' := [vI 1]) (L' := LR z f) 1 (bc2_201_3 (mcall (d + 1)) x1 x2 _) ?_
    subst H
    exact rc_ret (bc2_201_4 (mcall (d + 1)) _ _)
  · have H := H.2 (cI3f q1 rfl rfl)
    refine rc_b (i' := 8) (ls' := [some (vR 0), some (vI x1), some (vI x2)]) (st' := [vI x2, vI x1, vR 0]) (L' := LR z f) 3 (bc2_201_5 (mcall (d + 1)) x1 x2 _) ?_
    obtain ⟨r1, z1, f1, hc, H⟩ := H
    refine rc_call (t := 9) (ls' := [some (vR 0), some (vI x1), some (vI x2)]) (st' := []) (bc2_201_6 (mcall (d + 1)) x1 x2 _ z f) hc ?_
    show RC (mcall (d + 1)) (mP 201) 9 [some (vR 0), some (vI x1), some (vI x2)] [vI r1] (LR z1 f1) res
    refine rc_if (it := 19) (ie := 10) (ls' := [some (vR 0), some (vI x1), some (vI x2)]) (st' := []) (bc2_201_7 (mcall (d + 1)) r1 _ _) (fun q2 => ?_) (fun q2 => ?_)
    · have H := H.1 (cI0t q2)
      refine rc_b (i' := 20) (ls' := [some (vR 0), some (vI x1), some (vI (x2 + 1))]) (st' := []) (L' := LR z1 f1) 1 (bc2_201_8 (mcall (d + 1)) x1 x2 _) ?_
      refine rc_b (i' := 2) (ls' := [some (vR 0), some (vI x1), some (vI (x2 + 1))]) (st' := []) (L' := LR z1 f1) 1 (bc2_201_9 (mcall (d + 1)) x1 (x2 + 1) _) ?_
      exact H
    · have H := H.2 (cI0f q2)
      refine rc_b (i' := 13) (ls' := [some (vR 0), some (vI x1), some (vI x2)]) (st' := [vI x2, vR 37]) (L' := LR z1 f1) 3 (bc2_201_10 (mcall (d + 1)) x1 x2 z1 f1) ?_
      obtain ⟨g1, H⟩ := H
      refine rc_g (i' := 14) (ls' := [some (vR 0), some (vI x1), some (vI x2)]) (st' := [vI (f1 37 (ix x2))]) (L' := LR z1 f1) (bc2_201_11 (mcall (d + 1)) x2 _ z1 f1) (pinG g1) ?_
      refine rc_b (i' := 16) (ls' := [some (vR 0), some (vI x1), some (vI x2)]) (st' := [vI ((f1 37 (ix x2)) &&& x1)]) (L' := LR z1 f1) 2 (bc2_201_12 (mcall (d + 1)) x1 x2 (f1 37 (ix x2)) _) ?_
      refine rc_if (it := 19) (ie := 17) (ls' := [some (vR 0), some (vI x1), some (vI x2)]) (st' := []) (bc2_201_13 (mcall (d + 1)) ((f1 37 (ix x2)) &&& x1) _ _) (fun q3 => ?_) (fun q3 => ?_)
      · have H := H.1 (cI0t q3)
        refine rc_b (i' := 20) (ls' := [some (vR 0), some (vI x1), some (vI (x2 + 1))]) (st' := []) (L' := LR z1 f1) 1 (bc2_201_8 (mcall (d + 1)) x1 x2 _) ?_
        refine rc_b (i' := 2) (ls' := [some (vR 0), some (vI x1), some (vI (x2 + 1))]) (st' := []) (L' := LR z1 f1) 1 (bc2_201_9 (mcall (d + 1)) x1 (x2 + 1) _) ?_
        exact H
      · have H := H.2 (cI0f q3)
        refine rc_b (i' := 18) (ls' := [some (vR 0), some (vI x1), some (vI x2)]) (st' := [vI 0]) (L' := LR z1 f1) 1 (bc2_201_14 (mcall (d + 1)) x1 x2 _) ?_
        subst H
        exact rc_ret (bc2_201_15 (mcall (d + 1)) _ _)
set_option maxRecDepth 100000 in
theorem b190_1 (call : QC FA) (x1 : Int32) (o2 : Option PV) (o3 : Option PV) (o4 : Option PV) (L : QH FA) (F : Nat) : rnG call 190 (F + 2) 0 [some (vR 0), some (vI x1), o2, o3, o4] [] L = rnG call 190 F 2 [some (vR 0), some (vI x1), o2, o3, o4] [vI 0, vR 0] L := rfl
set_option maxRecDepth 100000 in
theorem b190_2 (call : QC FA) (y : Int32) (ls : List (Option PV)) (z : Nat → Int32) (f : Nat → FA) (F : Nat) : rnG call 190 (F + 1) 2 ls [vI y, vR 0] (LR z f) = rnG call 190 F 3 ls [] (LR (uZ z 0 y) f) := rfl
set_option maxRecDepth 100000 in
theorem b190_3 (call : QC FA) (x1 : Int32) (o2 : Option PV) (o3 : Option PV) (o4 : Option PV) (L : QH FA) (F : Nat) : rnG call 190 (F + 4) 3 [some (vR 0), some (vI x1), o2, o3, o4] [] L = rnG call 190 F 7 [some (vR 0), some (vI x1), o2, o3, o4] [vI 2, vI 0, vI x1, vR 0] L := rfl
set_option maxRecDepth 100000 in
theorem b190_4 (call : QC FA) (a0 : Int32) (a1 : Int32) (a2 : Int32) (ls : List (Option PV)) (z : Nat → Int32) (f : Nat → FA) (F : Nat) : rnG call 190 (F + 1) 7 ls [vI a2, vI a1, vI a0, vR 0] (LR z f) = cbd (call 47 [vR 0, vI a0, vI a1, vI a2] (LR z f)) (fun r L' => rnG call 190 F 8 ls (r.toList ++ []) L') := pcY (ih := rnG call 190 F) (call := call) (a := 47) (b := 3) (v := 12) (t := 8) (x := 0) (ls := ls) (As := [vI a0, vI a1, vI a2]) (st' := []) (L := LR z f) rfl rfl rfl
set_option maxRecDepth 100000 in
theorem b190_5 (call : QC FA) (x : Int32) (ls : List (Option PV)) (L : QH FA) (F : Nat) : rnG call 190 (F + 1) 8 ls [vI x] L = bif pcmp 1 x 0 then rnG call 190 F 11 ls [] L else rnG call 190 F 9 ls [] L := rfl
set_option maxRecDepth 100000 in
theorem b190_6 (call : QC FA) (x1 : Int32) (o2 : Option PV) (o3 : Option PV) (o4 : Option PV) (L : QH FA) (F : Nat) : rnG call 190 (F + 6) 11 [some (vR 0), some (vI x1), o2, o3, o4] [] L = rnG call 190 F 17 [some (vR 0), some (vI x1), some (vI 0), some (vI 0), some (vI 0)] [] L := rfl
set_option maxRecDepth 100000 in
theorem b190_7 (call : QC FA) (x1 : Int32) (o2 : Option PV) (o3 : Option PV) (o4 : Option PV) (L : QH FA) (F : Nat) : rnG call 190 (F + 1) 9 [some (vR 0), some (vI x1), o2, o3, o4] [] L = rnG call 190 F 10 [some (vR 0), some (vI x1), o2, o3, o4] [vI ((-1))] L := rfl
set_option maxRecDepth 100000 in
theorem b190_8 (call : QC FA) (x : Int32) (ls : List (Option PV)) (L : QH FA) (F : Nat) : rnG call 190 (F + 1) 10 ls [vI x] L = some (some (vI x), L) := rfl
theorem vc190_0 (d : Nat) (x1 : Int32) (o2 : Option PV) (o3 : Option PV) (o4 : Option PV) (z : Nat → Int32) (f : Nat → FA) (res : Option PV × QH FA) (H : (((0 ≤ I x1 ∧ I x1 ≤ 2) → RC (mcall (d + 2)) (mP 190) 17 [some (vR 0), some (vI x1), some (vI 0), some (vI 0), some (vI 0)] [] (LR (uZ z 0 0) f) res) ∧ ((¬ (0 ≤ I x1 ∧ I x1 ≤ 2)) → res = (some (vI ((-1))), LR (uZ z 0 0) f)))) : RC (mcall (d + 2)) (mP 190) 0 [some (vR 0), some (vI x1), o2, o3, o4] [] (LR z f) res := by
  refine rc_b (i' := 2) (ls' := [some (vR 0), some (vI x1), o2, o3, o4]) (st' := [vI 0, vR 0]) (L' := LR z f) 2 (b190_1 (mcall (d + 2)) x1 o2 o3 o4 _) ?_
  refine rc_b (i' := 3) (ls' := [some (vR 0), some (vI x1), o2, o3, o4]) (st' := []) (L' := LR (uZ z 0 0) f) 1 (b190_2 (mcall (d + 2)) 0 _ z f) ?_
  refine rc_b (i' := 7) (ls' := [some (vR 0), some (vI x1), o2, o3, o4]) (st' := [vI 2, vI 0, vI x1, vR 0]) (L' := LR (uZ z 0 0) f) 4 (b190_3 (mcall (d + 2)) x1 o2 o3 o4 _) ?_
  refine rc_call (t := 8) (ls' := [some (vR 0), some (vI x1), o2, o3, o4]) (st' := []) (b190_4 (mcall (d + 2)) x1 0 2 _ (uZ z 0 0) f) (isIn_r _ x1 0 2 (uZ z 0 0) f) ?_
  show RC (mcall (d + 2)) (mP 190) 8 [some (vR 0), some (vI x1), o2, o3, o4] [vI (bI (0 ≤ I x1 ∧ I x1 ≤ 2))] (LR (uZ z 0 0) f) res
  refine rc_bn (it := 11) (ie := 9) (ls' := [some (vR 0), some (vI x1), o2, o3, o4]) (st' := []) (b190_5 (mcall (d + 2)) (bI (0 ≤ I x1 ∧ I x1 ≤ 2)) _ _) (fun q1 => ?_) (fun q1 => ?_)
  · have H := H.1 q1
    refine rc_b (i' := 17) (ls' := [some (vR 0), some (vI x1), some (vI 0), some (vI 0), some (vI 0)]) (st' := []) (L' := LR (uZ z 0 0) f) 6 (b190_6 (mcall (d + 2)) x1 o2 o3 o4 _) ?_
    exact H
  · have H := H.2 q1
    refine rc_b (i' := 10) (ls' := [some (vR 0), some (vI x1), o2, o3, o4]) (st' := [vI ((-1))]) (L' := LR (uZ z 0 0) f) 1 (b190_7 (mcall (d + 2)) x1 o2 o3 o4 _) ?_
    subst H
    exact rc_ret (b190_8 (mcall (d + 2)) _ _ _)
set_option maxRecDepth 100000 in
theorem bc17_190_1 (call : QC FA) (x1 : Int32) (x2 : Int32) (x3 : Int32) (x4 : Int32) (L : QH FA) (F : Nat) : rnG call 190 (F + 2) 17 [some (vR 0), some (vI x1), some (vI x2), some (vI x3), some (vI x4)] [] L = rnG call 190 F 19 [some (vR 0), some (vI x1), some (vI x2), some (vI x3), some (vI x4)] [vI 256, vI x4] L := rfl
set_option maxRecDepth 100000 in
theorem bc17_190_2 (call : QC FA) (x y : Int32) (ls : List (Option PV)) (L : QH FA) (F : Nat) : rnG call 190 (F + 1) 19 ls [vI y, vI x] L = bif pcmp 3 x y then rnG call 190 F 40 ls [] L else rnG call 190 F 20 ls [] L := rfl
set_option maxRecDepth 100000 in
theorem bc17_190_3 (call : QC FA) (x1 : Int32) (x2 : Int32) (x3 : Int32) (x4 : Int32) (L : QH FA) (F : Nat) : rnG call 190 (F + 2) 40 [some (vR 0), some (vI x1), some (vI x2), some (vI x3), some (vI x4)] [] L = rnG call 190 F 42 [some (vR 0), some (vI x1), some (vI x2), some (vI x3), some (vI x4)] [vI 2, vI x1] L := rfl
set_option maxRecDepth 100000 in
theorem bc17_190_4 (call : QC FA) (x y : Int32) (ls : List (Option PV)) (L : QH FA) (F : Nat) : rnG call 190 (F + 1) 42 ls [vI y, vI x] L = bif pcmp 1 x y then rnG call 190 F 45 ls [] L else rnG call 190 F 43 ls [] L := rfl
set_option maxRecDepth 100000 in
theorem bc17_190_5 (call : QC FA) (x1 : Int32) (x2 : Int32) (x3 : Int32) (x4 : Int32) (L : QH FA) (F : Nat) : rnG call 190 (F + 2) 45 [some (vR 0), some (vI x1), some (vI x2), some (vI x3), some (vI x4)] [] L = rnG call 190 F 47 [some (vR 0), some (vI x1), some (vI x2), some (vI x3), some (vI x4)] [vI 1, vI x1] L := rfl
set_option maxRecDepth 100000 in
theorem bc17_190_6 (call : QC FA) (x y : Int32) (ls : List (Option PV)) (L : QH FA) (F : Nat) : rnG call 190 (F + 1) 47 ls [vI y, vI x] L = bif pcmp 1 x y then rnG call 190 F 50 ls [] L else rnG call 190 F 48 ls [] L := rfl
set_option maxRecDepth 100000 in
theorem bc17_190_7 (call : QC FA) (x1 : Int32) (x2 : Int32) (x3 : Int32) (x4 : Int32) (L : QH FA) (F : Nat) : rnG call 190 (F + 2) 50 [some (vR 0), some (vI x1), some (vI x2), some (vI x3), some (vI x4)] [] L = rnG call 190 F 52 [some (vR 0), some (vI x1), some (vI x2), some (vI x3), some (vI x4)] [vI x2, vR 0] L := rfl
set_option maxRecDepth 100000 in
theorem bc17_190_8 (call : QC FA) (a0 : Int32) (ls : List (Option PV)) (z : Nat → Int32) (f : Nat → FA) (F : Nat) : rnG call 190 (F + 1) 52 ls [vI a0, vR 0] (LR z f) = cbd (call 245 [vR 0, vI a0] (LR z f)) (fun r L' => rnG call 190 F 53 ls (r.toList ++ []) L') := pcY (ih := rnG call 190 F) (call := call) (a := 245) (b := 1) (v := 12) (t := 53) (x := 0) (ls := ls) (As := [vI a0]) (st' := []) (L := LR z f) rfl rfl rfl
set_option maxRecDepth 100000 in
theorem bc17_190_9 (call : QC FA) (x : Int32) (ls : List (Option PV)) (L : QH FA) (F : Nat) : rnG call 190 (F + 1) 53 ls [vI x] L = some (some (vI x), L) := rfl
set_option maxRecDepth 100000 in
theorem bc17_190_10 (call : QC FA) (x1 : Int32) (x2 : Int32) (x3 : Int32) (x4 : Int32) (L : QH FA) (F : Nat) : rnG call 190 (F + 2) 48 [some (vR 0), some (vI x1), some (vI x2), some (vI x3), some (vI x4)] [] L = rnG call 190 F 53 [some (vR 0), some (vI x1), some (vI x2), some (vI x3), some (vI x4)] [vI x2] L := rfl
set_option maxRecDepth 100000 in
theorem bc17_190_11 (call : QC FA) (x1 : Int32) (x2 : Int32) (x3 : Int32) (x4 : Int32) (L : QH FA) (F : Nat) : rnG call 190 (F + 2) 43 [some (vR 0), some (vI x1), some (vI x2), some (vI x3), some (vI x4)] [] L = rnG call 190 F 53 [some (vR 0), some (vI x1), some (vI x2), some (vI x3), some (vI x4)] [vI x3] L := rfl
set_option maxRecDepth 100000 in
theorem bc17_190_12 (call : QC FA) (x1 : Int32) (x2 : Int32) (x3 : Int32) (x4 : Int32) (L : QH FA) (F : Nat) : rnG call 190 (F + 2) 20 [some (vR 0), some (vI x1), some (vI x2), some (vI x3), some (vI x4)] [] L = rnG call 190 F 22 [some (vR 0), some (vI x1), some (vI x2), some (vI x3), some (vI x4)] [vI x4, vR 0] L := rfl
set_option maxRecDepth 100000 in
theorem bc17_190_13 (call : QC FA) (a0 : Int32) (ls : List (Option PV)) (z : Nat → Int32) (f : Nat → FA) (F : Nat) : rnG call 190 (F + 1) 22 ls [vI a0, vR 0] (LR z f) = cbd (call 201 [vR 0, vI a0] (LR z f)) (fun r L' => rnG call 190 F 23 ls (r.toList ++ []) L') := pcY (ih := rnG call 190 F) (call := call) (a := 201) (b := 1) (v := 12) (t := 23) (x := 0) (ls := ls) (As := [vI a0]) (st' := []) (L := LR z f) rfl rfl rfl
set_option maxRecDepth 100000 in
theorem bc17_190_14 (call : QC FA) (x : Int32) (ls : List (Option PV)) (L : QH FA) (F : Nat) : rnG call 190 (F + 1) 23 ls [vI x] L = bif pcmp 1 x 0 then rnG call 190 F 25 ls [] L else rnG call 190 F 24 ls [] L := rfl
set_option maxRecDepth 100000 in
theorem bc17_190_15 (call : QC FA) (x1 : Int32) (x2 : Int32) (x3 : Int32) (x4 : Int32) (L : QH FA) (F : Nat) : rnG call 190 (F + 6) 25 [some (vR 0), some (vI x1), some (vI x2), some (vI x3), some (vI x4)] [] L = rnG call 190 F 31 [some (vR 0), some (vI x1), some (vI x2), some (vI (x3 + 1)), some (vI x4)] [vI x4, vR 0] L := rfl
set_option maxRecDepth 100000 in
theorem bc17_190_16 (call : QC FA) (a0 : Int32) (ls : List (Option PV)) (z : Nat → Int32) (f : Nat → FA) (F : Nat) : rnG call 190 (F + 1) 31 ls [vI a0, vR 0] (LR z f) = cbd (call 245 [vR 0, vI a0] (LR z f)) (fun r L' => rnG call 190 F 32 ls (r.toList ++ []) L') := pcY (ih := rnG call 190 F) (call := call) (a := 245) (b := 1) (v := 12) (t := 32) (x := 0) (ls := ls) (As := [vI a0]) (st' := []) (L := LR z f) rfl rfl rfl
set_option maxRecDepth 100000 in
theorem bc17_190_17 (call : QC FA) (x1 : Int32) (x2 : Int32) (x3 : Int32) (x4 : Int32) (s0 : Int32) (L : QH FA) (F : Nat) : rnG call 190 (F + 2) 32 [some (vR 0), some (vI x1), some (vI x2), some (vI x3), some (vI x4)] [vI s0] L = rnG call 190 F 34 [some (vR 0), some (vI x1), some (vI x2), some (vI x3), some (vI x4)] [vI x2, vR 0, vI s0] L := rfl
set_option maxRecDepth 100000 in
theorem bc17_190_18 (call : QC FA) (a0 : Int32) (s0 : Int32) (ls : List (Option PV)) (z : Nat → Int32) (f : Nat → FA) (F : Nat) : rnG call 190 (F + 1) 34 ls [vI a0, vR 0, vI s0] (LR z f) = cbd (call 245 [vR 0, vI a0] (LR z f)) (fun r L' => rnG call 190 F 35 ls (r.toList ++ [vI s0]) L') := pcY (ih := rnG call 190 F) (call := call) (a := 245) (b := 1) (v := 12) (t := 35) (x := 0) (ls := ls) (As := [vI a0]) (st' := [vI s0]) (L := LR z f) rfl rfl rfl
set_option maxRecDepth 100000 in
theorem bc17_190_19 (call : QC FA) (x y : Int32) (ls : List (Option PV)) (L : QH FA) (F : Nat) : rnG call 190 (F + 1) 35 ls [vI y, vI x] L = bif pcmp 5 x y then rnG call 190 F 38 ls [] L else rnG call 190 F 36 ls [] L := rfl
set_option maxRecDepth 100000 in
theorem bc17_190_20 (call : QC FA) (x1 : Int32) (x2 : Int32) (x3 : Int32) (x4 : Int32) (L : QH FA) (F : Nat) : rnG call 190 (F + 1) 38 [some (vR 0), some (vI x1), some (vI x2), some (vI x3), some (vI x4)] [] L = rnG call 190 F 39 [some (vR 0), some (vI x1), some (vI x2), some (vI x3), some (vI (x4 + 1))] [] L := rfl
set_option maxRecDepth 100000 in
theorem bc17_190_21 (call : QC FA) (x1 : Int32) (x2 : Int32) (x3 : Int32) (x4 : Int32) (L : QH FA) (F : Nat) : rnG call 190 (F + 1) 39 [some (vR 0), some (vI x1), some (vI x2), some (vI x3), some (vI x4)] [] L = rnG call 190 F 17 [some (vR 0), some (vI x1), some (vI x2), some (vI x3), some (vI x4)] [] L := rfl
set_option maxRecDepth 100000 in
theorem bc17_190_22 (call : QC FA) (x1 : Int32) (x2 : Int32) (x3 : Int32) (x4 : Int32) (L : QH FA) (F : Nat) : rnG call 190 (F + 2) 36 [some (vR 0), some (vI x1), some (vI x2), some (vI x3), some (vI x4)] [] L = rnG call 190 F 38 [some (vR 0), some (vI x1), some (vI x4), some (vI x3), some (vI x4)] [] L := rfl
set_option maxRecDepth 100000 in
theorem bc17_190_23 (call : QC FA) (x1 : Int32) (x2 : Int32) (x3 : Int32) (x4 : Int32) (L : QH FA) (F : Nat) : rnG call 190 (F + 1) 24 [some (vR 0), some (vI x1), some (vI x2), some (vI x3), some (vI x4)] [] L = rnG call 190 F 38 [some (vR 0), some (vI x1), some (vI x2), some (vI x3), some (vI x4)] [] L := rfl
theorem vcc17_190_17 (d : Nat) (x1 : Int32) (x2 : Int32) (x3 : Int32) (x4 : Int32) (z : Nat → Int32) (f : Nat → FA) (res : Option PV × QH FA) (H : ((256 ≤ I x4 → ((¬ x1 = 2 → ((¬ x1 = 1 → (∃ (r1 : Int32) (z1 : Nat → Int32) (f1 : Nat → FA), (mcall (d + 2)) 245 [vR 0, vI x2] (LR z f) = some (some (vI r1), LR z1 f1) ∧ res = (some (vI r1), LR z1 f1))) ∧ (x1 = 1 → res = (some (vI x2), LR z f)))) ∧ (x1 = 2 → res = (some (vI x3), LR z f)))) ∧ (I x4 < 256 → (∃ (r2 : Int32) (z2 : Nat → Int32) (f2 : Nat → FA), (mcall (d + 2)) 201 [vR 0, vI x4] (LR z f) = some (some (vI r2), LR z2 f2) ∧ ((¬ r2 = 0 → (∃ (r3 : Int32) (z3 : Nat → Int32) (f3 : Nat → FA), (mcall (d + 2)) 245 [vR 0, vI x4] (LR z2 f2) = some (some (vI r3), LR z3 f3) ∧ (∃ (r4 : Int32) (z4 : Nat → Int32) (f4 : Nat → FA), (mcall (d + 2)) 245 [vR 0, vI x2] (LR z3 f3) = some (some (vI r4), LR z4 f4) ∧ ((I r3 ≤ I r4 → RC (mcall (d + 2)) (mP 190) 17 [some (vR 0), some (vI x1), some (vI x2), some (vI (x3 + 1)), some (vI (x4 + 1))] [] (LR z4 f4) res) ∧ (I r4 < I r3 → RC (mcall (d + 2)) (mP 190) 17 [some (vR 0), some (vI x1), some (vI x4), some (vI (x3 + 1)), some (vI (x4 + 1))] [] (LR z4 f4) res))))) ∧ (r2 = 0 → RC (mcall (d + 2)) (mP 190) 17 [some (vR 0), some (vI x1), some (vI x2), some (vI x3), some (vI (x4 + 1))] [] (LR z2 f2) res)))))) : RC (mcall (d + 2)) (mP 190) 17 [some (vR 0), some (vI x1), some (vI x2), some (vI x3), some (vI x4)] [] (LR z f) res := by
  refine rc_b (i' := 19) (ls' := [some (vR 0), some (vI x1), some (vI x2), some (vI x3), some (vI x4)]) (st' := [vI 256, vI x4]) (L' := LR z f) 2 (bc17_190_1 (mcall (d + 2)) x1 x2 x3 x4 _) ?_
  refine rc_if (it := 40) (ie := 20) (ls' := [some (vR 0), some (vI x1), some (vI x2), some (vI x3), some (vI x4)]) (st' := []) (bc17_190_2 (mcall (d + 2)) x4 256 _ _) (fun q1 => ?_) (fun q1 => ?_)
  · have H := H.1 (cI3t q1 rfl rfl)
    refine rc_b (i' := 42) (ls' := [some (vR 0), some (vI x1), some (vI x2), some (vI x3), some (vI x4)]) (st' := [vI 2, vI x1]) (L' := LR z f) 2 (bc17_190_3 (mcall (d + 2)) x1 x2 x3 x4 _) ?_
    refine rc_if (it := 45) (ie := 43) (ls' := [some (vR 0), some (vI x1), some (vI x2), some (vI x3), some (vI x4)]) (st' := []) (bc17_190_4 (mcall (d + 2)) x1 2 _ _) (fun q2 => ?_) (fun q2 => ?_)
    · have H := H.1 (cI1t q2)
      refine rc_b (i' := 47) (ls' := [some (vR 0), some (vI x1), some (vI x2), some (vI x3), some (vI x4)]) (st' := [vI 1, vI x1]) (L' := LR z f) 2 (bc17_190_5 (mcall (d + 2)) x1 x2 x3 x4 _) ?_
      refine rc_if (it := 50) (ie := 48) (ls' := [some (vR 0), some (vI x1), some (vI x2), some (vI x3), some (vI x4)]) (st' := []) (bc17_190_6 (mcall (d + 2)) x1 1 _ _) (fun q3 => ?_) (fun q3 => ?_)
      · have H := H.1 (cI1t q3)
        refine rc_b (i' := 52) (ls' := [some (vR 0), some (vI x1), some (vI x2), some (vI x3), some (vI x4)]) (st' := [vI x2, vR 0]) (L' := LR z f) 2 (bc17_190_7 (mcall (d + 2)) x1 x2 x3 x4 _) ?_
        obtain ⟨r1, z1, f1, hc, H⟩ := H
        refine rc_call (t := 53) (ls' := [some (vR 0), some (vI x1), some (vI x2), some (vI x3), some (vI x4)]) (st' := []) (bc17_190_8 (mcall (d + 2)) x2 _ z f) hc ?_
        show RC (mcall (d + 2)) (mP 190) 53 [some (vR 0), some (vI x1), some (vI x2), some (vI x3), some (vI x4)] [vI r1] (LR z1 f1) res
        subst H
        exact rc_ret (bc17_190_9 (mcall (d + 2)) _ _ _)
      · have H := H.2 (cI1f q3)
        refine rc_b (i' := 53) (ls' := [some (vR 0), some (vI x1), some (vI x2), some (vI x3), some (vI x4)]) (st' := [vI x2]) (L' := LR z f) 2 (bc17_190_10 (mcall (d + 2)) x1 x2 x3 x4 _) ?_
        subst H
        exact rc_ret (bc17_190_9 (mcall (d + 2)) _ _ _)
    · have H := H.2 (cI1f q2)
      refine rc_b (i' := 53) (ls' := [some (vR 0), some (vI x1), some (vI x2), some (vI x3), some (vI x4)]) (st' := [vI x3]) (L' := LR z f) 2 (bc17_190_11 (mcall (d + 2)) x1 x2 x3 x4 _) ?_
      subst H
      exact rc_ret (bc17_190_9 (mcall (d + 2)) _ _ _)
  · have H := H.2 (cI3f q1 rfl rfl)
    refine rc_b (i' := 22) (ls' := [some (vR 0), some (vI x1), some (vI x2), some (vI x3), some (vI x4)]) (st' := [vI x4, vR 0]) (L' := LR z f) 2 (bc17_190_12 (mcall (d + 2)) x1 x2 x3 x4 _) ?_
    obtain ⟨r2, z2, f2, hc, H⟩ := H
    refine rc_call (t := 23) (ls' := [some (vR 0), some (vI x1), some (vI x2), some (vI x3), some (vI x4)]) (st' := []) (bc17_190_13 (mcall (d + 2)) x4 _ z f) hc ?_
    show RC (mcall (d + 2)) (mP 190) 23 [some (vR 0), some (vI x1), some (vI x2), some (vI x3), some (vI x4)] [vI r2] (LR z2 f2) res
    refine rc_if (it := 25) (ie := 24) (ls' := [some (vR 0), some (vI x1), some (vI x2), some (vI x3), some (vI x4)]) (st' := []) (bc17_190_14 (mcall (d + 2)) r2 _ _) (fun q4 => ?_) (fun q4 => ?_)
    · have H := H.1 (cI1t q4)
      refine rc_b (i' := 31) (ls' := [some (vR 0), some (vI x1), some (vI x2), some (vI (x3 + 1)), some (vI x4)]) (st' := [vI x4, vR 0]) (L' := LR z2 f2) 6 (bc17_190_15 (mcall (d + 2)) x1 x2 x3 x4 _) ?_
      obtain ⟨r3, z3, f3, hc, H⟩ := H
      refine rc_call (t := 32) (ls' := [some (vR 0), some (vI x1), some (vI x2), some (vI (x3 + 1)), some (vI x4)]) (st' := []) (bc17_190_16 (mcall (d + 2)) x4 _ z2 f2) hc ?_
      show RC (mcall (d + 2)) (mP 190) 32 [some (vR 0), some (vI x1), some (vI x2), some (vI (x3 + 1)), some (vI x4)] [vI r3] (LR z3 f3) res
      refine rc_b (i' := 34) (ls' := [some (vR 0), some (vI x1), some (vI x2), some (vI (x3 + 1)), some (vI x4)]) (st' := [vI x2, vR 0, vI r3]) (L' := LR z3 f3) 2 (bc17_190_17 (mcall (d + 2)) x1 x2 (x3 + 1) x4 r3 _) ?_
      obtain ⟨r4, z4, f4, hc, H⟩ := H
      refine rc_call (t := 35) (ls' := [some (vR 0), some (vI x1), some (vI x2), some (vI (x3 + 1)), some (vI x4)]) (st' := [vI r3]) (bc17_190_18 (mcall (d + 2)) x2 r3 _ z3 f3) hc ?_
      show RC (mcall (d + 2)) (mP 190) 35 [some (vR 0), some (vI x1), some (vI x2), some (vI (x3 + 1)), some (vI x4)] [vI r4, vI r3] (LR z4 f4) res
      refine rc_if (it := 38) (ie := 36) (ls' := [some (vR 0), some (vI x1), some (vI x2), some (vI (x3 + 1)), some (vI x4)]) (st' := []) (bc17_190_19 (mcall (d + 2)) r3 r4 _ _) (fun q5 => ?_) (fun q5 => ?_)
      · have H := H.1 (cI5t q5 rfl rfl)
        refine rc_b (i' := 39) (ls' := [some (vR 0), some (vI x1), some (vI x2), some (vI (x3 + 1)), some (vI (x4 + 1))]) (st' := []) (L' := LR z4 f4) 1 (bc17_190_20 (mcall (d + 2)) x1 x2 (x3 + 1) x4 _) ?_
        refine rc_b (i' := 17) (ls' := [some (vR 0), some (vI x1), some (vI x2), some (vI (x3 + 1)), some (vI (x4 + 1))]) (st' := []) (L' := LR z4 f4) 1 (bc17_190_21 (mcall (d + 2)) x1 x2 (x3 + 1) (x4 + 1) _) ?_
        exact H
      · have H := H.2 (cI5f q5 rfl rfl)
        refine rc_b (i' := 38) (ls' := [some (vR 0), some (vI x1), some (vI x4), some (vI (x3 + 1)), some (vI x4)]) (st' := []) (L' := LR z4 f4) 2 (bc17_190_22 (mcall (d + 2)) x1 x2 (x3 + 1) x4 _) ?_
        refine rc_b (i' := 39) (ls' := [some (vR 0), some (vI x1), some (vI x4), some (vI (x3 + 1)), some (vI (x4 + 1))]) (st' := []) (L' := LR z4 f4) 1 (bc17_190_20 (mcall (d + 2)) x1 x4 (x3 + 1) x4 _) ?_
        refine rc_b (i' := 17) (ls' := [some (vR 0), some (vI x1), some (vI x4), some (vI (x3 + 1)), some (vI (x4 + 1))]) (st' := []) (L' := LR z4 f4) 1 (bc17_190_21 (mcall (d + 2)) x1 x4 (x3 + 1) (x4 + 1) _) ?_
        exact H
    · have H := H.2 (cI1f q4)
      refine rc_b (i' := 38) (ls' := [some (vR 0), some (vI x1), some (vI x2), some (vI x3), some (vI x4)]) (st' := []) (L' := LR z2 f2) 1 (bc17_190_23 (mcall (d + 2)) x1 x2 x3 x4 _) ?_
      refine rc_b (i' := 39) (ls' := [some (vR 0), some (vI x1), some (vI x2), some (vI x3), some (vI (x4 + 1))]) (st' := []) (L' := LR z2 f2) 1 (bc17_190_20 (mcall (d + 2)) x1 x2 x3 x4 _) ?_
      refine rc_b (i' := 17) (ls' := [some (vR 0), some (vI x1), some (vI x2), some (vI x3), some (vI (x4 + 1))]) (st' := []) (L' := LR z2 f2) 1 (bc17_190_21 (mcall (d + 2)) x1 x2 x3 (x4 + 1) _) ?_
      exact H
/-- the sets that are kept go together with s -/
def GM (M : FA) (s : Nat) : Prop := ∀ k, k < 8 → bt s k = true → (M k &&& nI s) = 0
theorem one_c : ∀ s, s < 256 → ∀ b, b < 8 → (if bt s b = true then ¬ ((1 : Int32) <<< (nI b &&& 31)) &&& nI s = 0 else ((1 : Int32) <<< (nI b &&& 31)) &&& nI s = 0) := by decide +kernel
theorem or_and0 {x y s : Int32} : (x ||| y) &&& s = 0 ↔ (x &&& s = 0 ∧ y &&& s = 0) := by
  rw [← Int32.toBitVec_inj, ← Int32.toBitVec_inj, ← Int32.toBitVec_inj]
  show (x.toBitVec ||| y.toBitVec) &&& s.toBitVec = 0#32 ↔ (x.toBitVec &&& s.toBitVec = 0#32 ∧ y.toBitVec &&& s.toBitVec = 0#32)
  rw [BitVec.and_or_distrib_right, BitVec.or_eq_zero_iff]
theorem GM_b1u {M : FA} {s a b : Nat} (hs : s < 256) (ha : a < 8) (hb : b < 8) : GM (b1u M a b) s ↔ (GM M s ∧ (bt s a = true → bt s b = false)) := by
  have h1 := one_c s hs b hb
  constructor
  · intro h
    refine ⟨fun k hk hbt => ?_, fun hA => ?_⟩
    · have h2 := h k hk hbt
      unfold b1u at h2
      by_cases q : k = a
      · subst q
        rw [pk_us, or_and0] at h2
        exact h2.1
      · rw [pk_un q] at h2
        exact h2
    · have h2 := h a ha hA
      unfold b1u at h2
      rw [pk_us, or_and0] at h2
      cases c : bt s b with
      | false => rfl
      | true =>
        rw [c, if_pos rfl] at h1
        exact absurd h2.2 h1
  · rintro ⟨h, hA⟩ k hk hbt
    unfold b1u
    by_cases q : k = a
    · subst q
      rw [pk_us, or_and0]
      rw [hA hbt, if_neg (by decide)] at h1
      exact ⟨h k hk hbt, h1⟩
    · rw [pk_un q]
      exact h k hk hbt
theorem GM_bnf {a b : Nat → Nat} {s : Nat} (hs : s < 256) : ∀ n, (∀ j, j < n → a j < 8 ∧ b j < 8) → (GM (bnf a b n) s ↔ goB a b s n = true) := by
  intro n
  induction n with
  | zero => intro _; exact ⟨fun _ => rfl, fun _ k _ _ => Int32.zero_and⟩
  | succ n ih =>
    intro h
    obtain ⟨a8, b8⟩ := h n (by omega)
    show GM (b1u (b1u (bnf a b n) (a n) (b n)) (b n) (a n)) s ↔ (goB a b s n && !(bt s (a n) && bt s (b n))) = true
    rw [GM_b1u hs b8 a8, GM_b1u hs a8 b8, ih (fun j hj => h j (by omega)), Bool.and_eq_true]
    constructor
    · rintro ⟨⟨h1, h2⟩, h3⟩
      refine ⟨h1, ?_⟩
      cases c : bt s (a n) with
      | false => rfl
      | true =>
        rw [h2 c]
        rfl
    · rintro ⟨h1, h2⟩
      refine ⟨⟨h1, fun c => ?_⟩, fun c => ?_⟩
      · rw [c] at h2
        cases e : bt s (b n) with
        | false => rfl
        | true =>
          rw [e] at h2
          exact absurd h2 (by decide)
      · rw [c] at h2
        cases e : bt s (a n) with
        | false => rfl
        | true =>
          rw [e] at h2
          exact absurd h2 (by decide)
theorem m_go (d : Nat) {z : Nat → Int32} {f : Nat → FA} {s : Nat} {q : Bool} (hs : s < 256) (hq : GM (f 37) s ↔ q = true) : mcall (d + 2) 201 [vR 0, vI (nI s)] (LR z f) = some (some (vI (if q = true then 1 else 0)), LR z f) := by
  have lp : ∀ t i, i + t = 8 → (∀ k, k < i → bt s k = true → (f 37 k &&& nI s) = 0) → RC (mcall (d + 1)) (mP 201) 2 [some (vR 0), some (vI (nI s)), some (vI (nI i))] [] (LR z f) (some (vI (if q = true then 1 else 0)), LR z f) := by
    intro t
    induction t with
    | zero =>
      intro i hi h
      obtain rfl : i = 8 := by omega
      exact vcc2_201_2 d _ _ _ _ _ ⟨fun _ => by rw [if_pos (hq.mp h)], fun q => by rw [I_nI (n := 8) (by omega)] at q; omega⟩
    | succ t ih =>
      intro i hi h
      have pi : pin (nI i) 8 = true := pin_nI (by omega) (by omega)
      have xi : ix (nI i) = i := ix_nI (by omega)
      have hh := has_r d s i hs (by omega) z f
      refine vcc2_201_2 d _ _ _ _ _ ⟨fun q => by rw [I_nI (n := i) (by omega)] at q; omega, fun _ => ⟨_, _, _, hh, fun c => ?_, fun c => ⟨pi, fun c2 => ?_, fun c2 => ?_⟩⟩⟩
      · have hb : ¬ bt s i = true := fun e => by
          rw [if_pos e] at c
          exact absurd c (by decide)
        have h1 := ih (i + 1) (by omega) (fun k hk hbt => by
          by_cases e : k = i
          · subst e
            exact absurd hbt hb
          · exact h k (by omega) hbt)
        rw [← nI_add i 1] at h1
        exact h1
      · rw [xi] at c2
        have h1 := ih (i + 1) (by omega) (fun k hk hbt => by
          by_cases e : k = i
          · subst e
            exact c2
          · exact h k (by omega) hbt)
        rw [← nI_add i 1] at h1
        exact h1
      · rw [xi] at c2
        have hb : bt s i = true := by
          by_cases e : bt s i = true
          · exact e
          · rw [if_neg e] at c
            exact absurd rfl c
        rw [if_neg (fun e => c2 (hq.mpr e i (by omega) hb))]
  exact mcall_i (mq201 (cu := [])).2.2 rfl (vc201_0 d (nI s) none z f _ (lp 8 0 rfl (fun k hk => absurd hk (Nat.not_lt_zero k))))
theorem m_bills (d : Nat) (x : Int32) {z : Nat → Int32} {f : Nat → FA} {p : Nat → Bool} (hp : ∀ s, s < 256 → (GM (f 37) s ↔ p s = true)) : mcall (d + 3) 190 [vR 0, vI x] (LR z f) = some (some (vI (blA p x)), LR (uZ z 0 0) f) := by
  have go : ∀ res, _ → mcall (d + 3) 190 [vR 0, vI x] (LR z f) = some res := fun res H => mcall_i (mq190 (cu := [])).2.2 rfl (vc190_0 d x none none none z f res H)
  have lp : ∀ t m, m + t = 256 → RC (mcall (d + 2)) (mP 190) 17 [some (vR 0), some (vI x), some (vI (nI (bwP p m).1)), some (vI (nI (bwP p m).2)), some (vI (nI m))] [] (LR (uZ z 0 0) f) (some (vI (if x = 0 ∨ (¬ x = 1 ∧ ¬ x = 2) then nI (pcN (bwP p 256).1) else if x = 1 then nI (bwP p 256).1 else nI (bwP p 256).2)), LR (uZ z 0 0) f) := by
    intro t
    induction t with
    | zero =>
      intro m hm
      obtain rfl : m = 256 := by omega
      have b1 := bwP_lt p 256 (by omega)
      refine vcc17_190_17 d _ _ _ _ _ _ _ ⟨fun _ => ⟨fun q2 => ⟨fun q1 => ⟨_, _, _, ones_r (d + 1) _ b1 _ _, ?_⟩, fun q1 => ?_⟩, fun q2 => ?_⟩, fun q => by rw [I_nI (n := 256) (by omega)] at q; omega⟩
      · rw [if_pos (Or.inr ⟨q1, q2⟩)]
      · rw [if_neg (fun q => by
          rcases q with q | q
          · rw [q1] at q
            exact absurd q (by decide)
          · exact q.1 q1), if_pos q1]
      · rw [if_neg (fun q => by
          rcases q with q | q
          · rw [q2] at q
            exact absurd q (by decide)
          · exact q.2 q2), if_neg (fun q => by
          rw [q2] at q
          exact absurd q (by decide))]
    | succ t ih =>
      intro m hm
      have h2 := ih (m + 1) (by omega)
      have b1 := (bwP_le p m).1
      have pb := pcN_le (bwP p m).1
      have pm := pcN_le m
      rw [← nI_add m 1] at h2
      have hg := m_go d (z := uZ z 0 0) (f := f) (s := m) (q := p m) (by omega) (hp m (by omega))
      refine vcc17_190_17 d _ _ _ _ _ _ _ ⟨fun q => by rw [I_nI (n := m) (by omega)] at q; omega, fun _ => ⟨_, _, _, hg, fun q => ⟨_, _, _, ones_r (d + 1) m (by omega) _ _, _, _, _, ones_r (d + 1) (bwP p m).1 (by omega) _ _, fun q2 => ?_, fun q2 => ?_⟩, fun q => ?_⟩⟩
      · have hc : p m = true := by
          by_cases c : p m = true
          · exact c
          · rw [if_neg c] at q
            exact absurd rfl q
        rw [I_nI (n := pcN m) (by omega), I_nI (n := pcN (bwP p m).1) (by omega)] at q2
        rw [show bwP p (m + 1) = ((bwP p m).1, (bwP p m).2 + 1) from (if_pos hc).trans (by rw [if_neg (by omega)]), ← nI_add (bwP p m).2 1] at h2
        exact h2
      · have hc : p m = true := by
          by_cases c : p m = true
          · exact c
          · rw [if_neg c] at q
            exact absurd rfl q
        rw [I_nI (n := pcN m) (by omega), I_nI (n := pcN (bwP p m).1) (by omega)] at q2
        rw [show bwP p (m + 1) = (m, (bwP p m).2 + 1) from (if_pos hc).trans (by rw [if_pos (by omega)]), ← nI_add (bwP p m).2 1] at h2
        exact h2
      · have hc : ¬ p m = true := fun c => by
          rw [if_pos c] at q
          exact absurd q (by decide)
        rw [show bwP p (m + 1) = bwP p m from if_neg hc] at h2
        exact h2
  unfold blA
  by_cases hx : 0 ≤ I x ∧ I x ≤ 2
  · refine go _ ⟨fun _ => ?_, fun q => absurd hx q⟩
    have h1 := lp 256 0 rfl
    rw [if_pos hx]
    by_cases c0 : x = 0
    · rw [if_pos (Or.inl c0)] at h1
      rw [if_pos c0]
      exact h1
    · by_cases c1 : x = 1
      · rw [if_neg (fun q => by
          rcases q with q | q
          · exact c0 q
          · exact q.1 c1)] at h1
        rw [if_neg c0]
        exact h1
      · have c2 : x = 2 := by
          have e : ∀ v : Nat, v < 2 → ¬ x = nI v → ¬ I x = v := fun v hv h q => h (Int32.toInt_inj.mp (by
            show I x = I (nI v)
            rw [q, I_nI (n := v) (by omega)]))
          have := e 0 (by omega) c0
          have := e 1 (by omega) c1
          exact Int32.toInt_inj.mp (show I x = I (nI 2) by rw [I_nI (n := 2) (by omega)]; omega)
        rw [if_neg (fun q => by
          rcases q with q | q
          · exact c0 q
          · exact q.2 c2)] at h1
        rw [if_neg c0]
        exact h1
  · refine go _ ⟨fun q => absurd q hx, fun _ => ?_⟩
    rw [if_neg hx]
theorem tq_bills (l : Launch) (G : PG) {nc nm : Nat} {h : PH} (hI : LIY TP nc nm h) (x1 : Int32) : PRY TP l G nc nm h 151 4 190 3 [vI x1] := by
  obtain ⟨lam, b, u, z, f, zm, fm, hB, hR, hM, hT, hX⟩ := TP_link hI
  obtain ⟨m, hm, e1, e2, a, b2, e3, e4⟩ : CLs bnf (z 17) (f 18) (zm 63) (fm 37) := hT 7 (by decide)
  have hc := c_bills (u := u) 0 x1 (a := a) (b := b2) e1 hm e3
  have r := m_bills 0 x1 (z := zm) (f := fm) (p := fun s => goB a b2 s m) (fun s hs => by
    have h1 := GM_bnf (a := a) (b := b2) hs m (fun j hj => ⟨(e3 j hj).1, (e3 j hj).2.1⟩)
    refine Iff.trans ⟨fun h k hk hb => ?_, fun h k hk hb => ?_⟩ h1
    · rw [← e4 k hk]
      exact h k hk hb
    · rw [e4 k hk]
      exact h k hk hb)
  exact tp_pair l G hB hR hM hX (kc_q194_ok l G lam hB.2.1) (kr_q57_ok l G _ (lamM_r nm) _ (EXK_of (lamM_r nm))) (As := [x1]) hc r (TA_0 hT) (by decide +kernel) (by decide +kernel) ⟨by rw [show nc = lam 0 from (hB.2.2.1 0 (by decide)).symm]; rfl, ⟨_, rfl, inb_top _⟩, trivial⟩ ⟨rfl, ⟨_, rfl, inb_top _⟩, trivial⟩ rfl
