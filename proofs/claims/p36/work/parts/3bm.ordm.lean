/-! order of the reference, and the pair -/
set_option maxRecDepth 100000 in
theorem b44_1 (call : QC FA) (o1 : Option PV) (o2 : Option PV) (o3 : Option PV) (L : QH FA) (F : Nat) : rnG call 44 (F + 2) 0 [some (vR 0), o1, o2, o3] [] L = rnG call 44 F 2 [some (vR 0), o1, o2, o3] [vI 0, vR 0] L := rfl
set_option maxRecDepth 100000 in
theorem b44_2 (call : QC FA) (y : Int32) (ls : List (Option PV)) (z : Nat → Int32) (f : Nat → FA) (F : Nat) : rnG call 44 (F + 1) 2 ls [vI y, vR 0] (LR z f) = rnG call 44 F 3 ls [] (LR (uZ z 0 y) f) := rfl
set_option maxRecDepth 100000 in
theorem b44_3 (call : QC FA) (o1 : Option PV) (o2 : Option PV) (o3 : Option PV) (L : QH FA) (F : Nat) : rnG call 44 (F + 2) 3 [some (vR 0), o1, o2, o3] [] L = rnG call 44 F 5 [some (vR 0), some (vI 0), o2, o3] [] L := rfl
theorem vc44_0 (d : Nat) (o1 : Option PV) (o2 : Option PV) (o3 : Option PV) (z : Nat → Int32) (f : Nat → FA) (res : Option PV × QH FA) (H : RC (mcall (d + 1)) (mP 44) 5 [some (vR 0), some (vI 0), o2, o3] [] (LR (uZ z 0 0) f) res) : RC (mcall (d + 1)) (mP 44) 0 [some (vR 0), o1, o2, o3] [] (LR z f) res := by
  refine rc_b (i' := 2) (ls' := [some (vR 0), o1, o2, o3]) (st' := [vI 0, vR 0]) (L' := LR z f) 2 (b44_1 (mcall (d + 1)) o1 o2 o3 _) ?_
  refine rc_b (i' := 3) (ls' := [some (vR 0), o1, o2, o3]) (st' := []) (L' := LR (uZ z 0 0) f) 1 (b44_2 (mcall (d + 1)) 0 _ z f) ?_
  refine rc_b (i' := 5) (ls' := [some (vR 0), some (vI 0), o2, o3]) (st' := []) (L' := LR (uZ z 0 0) f) 2 (b44_3 (mcall (d + 1)) o1 o2 o3 _) ?_
  exact H
set_option maxRecDepth 100000 in
theorem bc5_44_1 (call : QC FA) (x1 : Int32) (o2 : Option PV) (o3 : Option PV) (L : QH FA) (F : Nat) : rnG call 44 (F + 2) 5 [some (vR 0), some (vI x1), o2, o3] [] L = rnG call 44 F 7 [some (vR 0), some (vI x1), o2, o3] [vI 256, vI x1] L := rfl
set_option maxRecDepth 100000 in
theorem bc5_44_2 (call : QC FA) (x y : Int32) (ls : List (Option PV)) (L : QH FA) (F : Nat) : rnG call 44 (F + 1) 7 ls [vI y, vI x] L = bif pcmp 3 x y then rnG call 44 F 63 ls [] L else rnG call 44 F 8 ls [] L := rfl
set_option maxRecDepth 100000 in
theorem bc5_44_3 (call : QC FA) (x1 : Int32) (o2 : Option PV) (o3 : Option PV) (z : Nat → Int32) (f : Nat → FA) (F : Nat) : rnG call 44 (F + 3) 63 [some (vR 0), some (vI x1), o2, o3] [] (LR z f) = rnG call 44 F 66 [some (vR 0), some (vI x1), o2, o3] [vI 255, vR 39] (LR z f) := rfl
set_option maxRecDepth 100000 in
theorem bc5_44_4 (call : QC FA) (x : Int32) (ls : List (Option PV)) (z : Nat → Int32) (f : Nat → FA) (F : Nat) : rnG call 44 (F + 1) 66 ls [vI x, vR 39] (LR z f) = bif (Nat.beq 0 0 && pin x 256) then rnG call 44 F 67 ls [vI (f 39 (ix x))] (LR z f) else none := rfl
set_option maxRecDepth 100000 in
theorem bc5_44_5 (call : QC FA) (x : Int32) (ls : List (Option PV)) (L : QH FA) (F : Nat) : rnG call 44 (F + 1) 67 ls [vI x] L = some (some (vI x), L) := rfl
set_option maxRecDepth 100000 in
theorem bc5_44_6 (call : QC FA) (x1 : Int32) (o2 : Option PV) (o3 : Option PV) (L : QH FA) (F : Nat) : rnG call 44 (F + 1) 8 [some (vR 0), some (vI x1), o2, o3] [] L = rnG call 44 F 9 [some (vR 0), some (vI x1), o2, o3] [vI x1] L := rfl
set_option maxRecDepth 100000 in
theorem bc5_44_7 (call : QC FA) (x : Int32) (ls : List (Option PV)) (L : QH FA) (F : Nat) : rnG call 44 (F + 1) 9 ls [vI x] L = bif pcmp 1 x 0 then rnG call 44 F 12 ls [] L else rnG call 44 F 10 ls [] L := rfl
set_option maxRecDepth 100000 in
theorem bc5_44_8 (call : QC FA) (x1 : Int32) (o2 : Option PV) (o3 : Option PV) (L : QH FA) (F : Nat) : rnG call 44 (F + 4) 12 [some (vR 0), some (vI x1), o2, o3] [] L = rnG call 44 F 16 [some (vR 0), some (vI x1), some (vI 0), some (vI 0)] [] L := rfl
set_option maxRecDepth 100000 in
theorem bc5_44_9 (call : QC FA) (x1 : Int32) (o2 : Option PV) (o3 : Option PV) (L : QH FA) (F : Nat) : rnG call 44 (F + 5) 10 [some (vR 0), some (vI x1), o2, o3] [] L = rnG call 44 F 16 [some (vR 0), some (vI x1), some (vI 1), some (vI 0)] [] L := rfl
theorem vcc5_44_5 (d : Nat) (x1 : Int32) (o2 : Option PV) (o3 : Option PV) (z : Nat → Int32) (f : Nat → FA) (res : Option PV × QH FA) (H : ((256 ≤ I x1 → (pin 255 256 = true ∧ res = (some (vI (f 39 (ix 255))), LR z f))) ∧ (I x1 < 256 → ((¬ x1 = 0 → RC (mcall (d + 1)) (mP 44) 16 [some (vR 0), some (vI x1), some (vI 0), some (vI 0)] [] (LR z f) res) ∧ (x1 = 0 → RC (mcall (d + 1)) (mP 44) 16 [some (vR 0), some (vI x1), some (vI 1), some (vI 0)] [] (LR z f) res))))) : RC (mcall (d + 1)) (mP 44) 5 [some (vR 0), some (vI x1), o2, o3] [] (LR z f) res := by
  refine rc_b (i' := 7) (ls' := [some (vR 0), some (vI x1), o2, o3]) (st' := [vI 256, vI x1]) (L' := LR z f) 2 (bc5_44_1 (mcall (d + 1)) x1 o2 o3 _) ?_
  refine rc_if (it := 63) (ie := 8) (ls' := [some (vR 0), some (vI x1), o2, o3]) (st' := []) (bc5_44_2 (mcall (d + 1)) x1 256 _ _) (fun q1 => ?_) (fun q1 => ?_)
  · have H := H.1 (cI3t q1 rfl rfl)
    refine rc_b (i' := 66) (ls' := [some (vR 0), some (vI x1), o2, o3]) (st' := [vI 255, vR 39]) (L' := LR z f) 3 (bc5_44_3 (mcall (d + 1)) x1 o2 o3 z f) ?_
    obtain ⟨g1, H⟩ := H
    refine rc_g (i' := 67) (ls' := [some (vR 0), some (vI x1), o2, o3]) (st' := [vI (f 39 (ix 255))]) (L' := LR z f) (bc5_44_4 (mcall (d + 1)) 255 _ z f) (pinG g1) ?_
    subst H
    exact rc_ret (bc5_44_5 (mcall (d + 1)) _ _ _)
  · have H := H.2 (cI3f q1 rfl rfl)
    refine rc_b (i' := 9) (ls' := [some (vR 0), some (vI x1), o2, o3]) (st' := [vI x1]) (L' := LR z f) 1 (bc5_44_6 (mcall (d + 1)) x1 o2 o3 _) ?_
    refine rc_if (it := 12) (ie := 10) (ls' := [some (vR 0), some (vI x1), o2, o3]) (st' := []) (bc5_44_7 (mcall (d + 1)) x1 _ _) (fun q2 => ?_) (fun q2 => ?_)
    · have H := H.1 (cI1t q2)
      refine rc_b (i' := 16) (ls' := [some (vR 0), some (vI x1), some (vI 0), some (vI 0)]) (st' := []) (L' := LR z f) 4 (bc5_44_8 (mcall (d + 1)) x1 o2 o3 _) ?_
      exact H
    · have H := H.2 (cI1f q2)
      refine rc_b (i' := 16) (ls' := [some (vR 0), some (vI x1), some (vI 1), some (vI 0)]) (st' := []) (L' := LR z f) 5 (bc5_44_9 (mcall (d + 1)) x1 o2 o3 _) ?_
      exact H
set_option maxRecDepth 100000 in
theorem bc16_44_1 (call : QC FA) (x1 : Int32) (x2 : Int32) (x3 : Int32) (L : QH FA) (F : Nat) : rnG call 44 (F + 2) 16 [some (vR 0), some (vI x1), some (vI x2), some (vI x3)] [] L = rnG call 44 F 18 [some (vR 0), some (vI x1), some (vI x2), some (vI x3)] [vI 8, vI x3] L := rfl
set_option maxRecDepth 100000 in
theorem bc16_44_2 (call : QC FA) (x y : Int32) (ls : List (Option PV)) (L : QH FA) (F : Nat) : rnG call 44 (F + 1) 18 ls [vI y, vI x] L = bif pcmp 3 x y then rnG call 44 F 56 ls [] L else rnG call 44 F 19 ls [] L := rfl
set_option maxRecDepth 100000 in
theorem bc16_44_3 (call : QC FA) (x1 : Int32) (x2 : Int32) (x3 : Int32) (z : Nat → Int32) (f : Nat → FA) (F : Nat) : rnG call 44 (F + 4) 56 [some (vR 0), some (vI x1), some (vI x2), some (vI x3)] [] (LR z f) = rnG call 44 F 60 [some (vR 0), some (vI x1), some (vI x2), some (vI x3)] [vI x2, vI x1, vR 39] (LR z f) := rfl
set_option maxRecDepth 100000 in
theorem bc16_44_4 (call : QC FA) (x y : Int32) (ls : List (Option PV)) (z : Nat → Int32) (f : Nat → FA) (F : Nat) : rnG call 44 (F + 1) 60 ls [vI y, vI x, vR 39] (LR z f) = bif (Nat.beq 0 0 && pin x 256) then rnG call 44 F 61 ls [] (LR z (uA f 39 (upd (f 39) (ix x) y))) else none := rfl
set_option maxRecDepth 100000 in
theorem bc16_44_5 (call : QC FA) (x1 : Int32) (x2 : Int32) (x3 : Int32) (L : QH FA) (F : Nat) : rnG call 44 (F + 1) 61 [some (vR 0), some (vI x1), some (vI x2), some (vI x3)] [] L = rnG call 44 F 62 [some (vR 0), some (vI (x1 + 1)), some (vI x2), some (vI x3)] [] L := rfl
set_option maxRecDepth 100000 in
theorem bc16_44_6 (call : QC FA) (x1 : Int32) (x2 : Int32) (x3 : Int32) (L : QH FA) (F : Nat) : rnG call 44 (F + 1) 62 [some (vR 0), some (vI x1), some (vI x2), some (vI x3)] [] L = rnG call 44 F 5 [some (vR 0), some (vI x1), some (vI x2), some (vI x3)] [] L := rfl
set_option maxRecDepth 100000 in
theorem bc16_44_7 (call : QC FA) (x1 : Int32) (x2 : Int32) (x3 : Int32) (L : QH FA) (F : Nat) : rnG call 44 (F + 3) 19 [some (vR 0), some (vI x1), some (vI x2), some (vI x3)] [] L = rnG call 44 F 22 [some (vR 0), some (vI x1), some (vI x2), some (vI x3)] [vI x3, vI x1, vR 0] L := rfl
set_option maxRecDepth 100000 in
theorem bc16_44_8 (call : QC FA) (a0 : Int32) (a1 : Int32) (ls : List (Option PV)) (z : Nat → Int32) (f : Nat → FA) (F : Nat) : rnG call 44 (F + 1) 22 ls [vI a1, vI a0, vR 0] (LR z f) = cbd (call 45 [vR 0, vI a0, vI a1] (LR z f)) (fun r L' => rnG call 44 F 23 ls (r.toList ++ []) L') := pcY (ih := rnG call 44 F) (call := call) (a := 45) (b := 2) (v := 12) (t := 23) (x := 0) (ls := ls) (As := [vI a0, vI a1]) (st' := []) (L := LR z f) rfl rfl rfl
set_option maxRecDepth 100000 in
theorem bc16_44_9 (call : QC FA) (x : Int32) (ls : List (Option PV)) (L : QH FA) (F : Nat) : rnG call 44 (F + 1) 23 ls [vI x] L = bif pcmp 0 x 0 then rnG call 44 F 54 ls [] L else rnG call 44 F 24 ls [] L := rfl
set_option maxRecDepth 100000 in
theorem bc16_44_10 (call : QC FA) (x1 : Int32) (x2 : Int32) (x3 : Int32) (L : QH FA) (F : Nat) : rnG call 44 (F + 1) 54 [some (vR 0), some (vI x1), some (vI x2), some (vI x3)] [] L = rnG call 44 F 55 [some (vR 0), some (vI x1), some (vI x2), some (vI (x3 + 1))] [] L := rfl
set_option maxRecDepth 100000 in
theorem bc16_44_11 (call : QC FA) (x1 : Int32) (x2 : Int32) (x3 : Int32) (L : QH FA) (F : Nat) : rnG call 44 (F + 1) 55 [some (vR 0), some (vI x1), some (vI x2), some (vI x3)] [] L = rnG call 44 F 16 [some (vR 0), some (vI x1), some (vI x2), some (vI x3)] [] L := rfl
set_option maxRecDepth 100000 in
theorem bc16_44_12 (call : QC FA) (x1 : Int32) (x2 : Int32) (x3 : Int32) (z : Nat → Int32) (f : Nat → FA) (F : Nat) : rnG call 44 (F + 3) 24 [some (vR 0), some (vI x1), some (vI x2), some (vI x3)] [] (LR z f) = rnG call 44 F 27 [some (vR 0), some (vI x1), some (vI x2), some (vI x3)] [vI x3, vR 38] (LR z f) := rfl
set_option maxRecDepth 100000 in
theorem bc16_44_13 (call : QC FA) (x : Int32) (ls : List (Option PV)) (z : Nat → Int32) (f : Nat → FA) (F : Nat) : rnG call 44 (F + 1) 27 ls [vI x, vR 38] (LR z f) = bif (Nat.beq 0 0 && pin x 8) then rnG call 44 F 28 ls [vI (f 38 (ix x))] (LR z f) else none := rfl
set_option maxRecDepth 100000 in
theorem bc16_44_14 (call : QC FA) (x1 : Int32) (x2 : Int32) (x3 : Int32) (s0 : Int32) (L : QH FA) (F : Nat) : rnG call 44 (F + 4) 28 [some (vR 0), some (vI x1), some (vI x2), some (vI x3)] [vI s0] L = rnG call 44 F 32 [some (vR 0), some (vI x1), some (vI x2), some (vI x3)] [vI (s0 &&& (x1 ^^^ ((-1))))] L := rfl
set_option maxRecDepth 100000 in
theorem bc16_44_15 (call : QC FA) (x : Int32) (ls : List (Option PV)) (L : QH FA) (F : Nat) : rnG call 44 (F + 1) 32 ls [vI x] L = bif pcmp 1 x 0 then rnG call 44 F 54 ls [] L else rnG call 44 F 33 ls [] L := rfl
set_option maxRecDepth 100000 in
theorem bc16_44_16 (call : QC FA) (x1 : Int32) (x2 : Int32) (x3 : Int32) (z : Nat → Int32) (f : Nat → FA) (F : Nat) : rnG call 44 (F + 4) 33 [some (vR 0), some (vI x1), some (vI x2), some (vI x3)] [] (LR z f) = rnG call 44 F 37 [some (vR 0), some (vI x1), some (vI x2), some (vI x3)] [vI x3, vR 38, vR 0] (LR z f) := rfl
set_option maxRecDepth 100000 in
theorem bc16_44_17 (call : QC FA) (x : Int32) (ls : List (Option PV)) (z : Nat → Int32) (f : Nat → FA) (F : Nat) : rnG call 44 (F + 1) 37 ls [vI x, vR 38, vR 0] (LR z f) = bif (Nat.beq 0 0 && pin x 8) then rnG call 44 F 38 ls [vI (f 38 (ix x)), vR 0] (LR z f) else none := rfl
set_option maxRecDepth 100000 in
theorem bc16_44_18 (call : QC FA) (x1 : Int32) (x2 : Int32) (x3 : Int32) (s0 : Int32) (L : QH FA) (F : Nat) : rnG call 44 (F + 1) 38 [some (vR 0), some (vI x1), some (vI x2), some (vI x3)] [vI s0, vR 0] L = rnG call 44 F 39 [some (vR 0), some (vI x1), some (vI x2), some (vI x3)] [vI x3, vI s0, vR 0] L := rfl
set_option maxRecDepth 100000 in
theorem bc16_44_19 (call : QC FA) (a0 : Int32) (a1 : Int32) (ls : List (Option PV)) (z : Nat → Int32) (f : Nat → FA) (F : Nat) : rnG call 44 (F + 1) 39 ls [vI a1, vI a0, vR 0] (LR z f) = cbd (call 45 [vR 0, vI a0, vI a1] (LR z f)) (fun r L' => rnG call 44 F 40 ls (r.toList ++ []) L') := pcY (ih := rnG call 44 F) (call := call) (a := 45) (b := 2) (v := 12) (t := 40) (x := 0) (ls := ls) (As := [vI a0, vI a1]) (st' := []) (L := LR z f) rfl rfl rfl
set_option maxRecDepth 100000 in
theorem bc16_44_20 (call : QC FA) (x : Int32) (ls : List (Option PV)) (L : QH FA) (F : Nat) : rnG call 44 (F + 1) 40 ls [vI x] L = bif pcmp 1 x 0 then rnG call 44 F 54 ls [] L else rnG call 44 F 41 ls [] L := rfl
set_option maxRecDepth 100000 in
theorem bc16_44_21 (call : QC FA) (x1 : Int32) (x2 : Int32) (x3 : Int32) (z : Nat → Int32) (f : Nat → FA) (F : Nat) : rnG call 44 (F + 10) 41 [some (vR 0), some (vI x1), some (vI x2), some (vI x3)] [] (LR z f) = rnG call 44 F 51 [some (vR 0), some (vI x1), some (vI x2), some (vI x3)] [vI (x1 &&& ((1 <<< (x3 &&& 31)) ^^^ ((-1)))), vR 39, vI x2] (LR z f) := rfl
set_option maxRecDepth 100000 in
theorem bc16_44_22 (call : QC FA) (x : Int32) (s0 : Int32) (ls : List (Option PV)) (z : Nat → Int32) (f : Nat → FA) (F : Nat) : rnG call 44 (F + 1) 51 ls [vI x, vR 39, vI s0] (LR z f) = bif (Nat.beq 0 0 && pin x 256) then rnG call 44 F 52 ls [vI (f 39 (ix x)), vI s0] (LR z f) else none := rfl
set_option maxRecDepth 100000 in
theorem bc16_44_23 (call : QC FA) (x1 : Int32) (x2 : Int32) (x3 : Int32) (s0 : Int32) (s1 : Int32) (L : QH FA) (F : Nat) : rnG call 44 (F + 2) 52 [some (vR 0), some (vI x1), some (vI x2), some (vI x3)] [vI s0, vI s1] L = rnG call 44 F 54 [some (vR 0), some (vI x1), some (vI (s1 + s0)), some (vI x3)] [] L := rfl
theorem vcc16_44_16 (d : Nat) (x1 : Int32) (x2 : Int32) (x3 : Int32) (z : Nat → Int32) (f : Nat → FA) (res : Option PV × QH FA) (H : ((8 ≤ I x3 → (pin x1 256 = true ∧ RC (mcall (d + 1)) (mP 44) 5 [some (vR 0), some (vI (x1 + 1)), some (vI x2), some (vI x3)] [] (LR z (uA f 39 (upd (f 39) (ix x1) x2))) res)) ∧ (I x3 < 8 → (∃ (r1 : Int32) (z1 : Nat → Int32) (f1 : Nat → FA), (mcall (d + 1)) 45 [vR 0, vI x1, vI x3] (LR z f) = some (some (vI r1), LR z1 f1) ∧ ((r1 = 0 → RC (mcall (d + 1)) (mP 44) 16 [some (vR 0), some (vI x1), some (vI x2), some (vI (x3 + 1))] [] (LR z1 f1) res) ∧ (¬ r1 = 0 → (pin x3 8 = true ∧ ((¬ (f1 38 (ix x3)) &&& (x1 ^^^ ((-1))) = 0 → RC (mcall (d + 1)) (mP 44) 16 [some (vR 0), some (vI x1), some (vI x2), some (vI (x3 + 1))] [] (LR z1 f1) res) ∧ ((f1 38 (ix x3)) &&& (x1 ^^^ ((-1))) = 0 → (pin x3 8 = true ∧ (∃ (r2 : Int32) (z2 : Nat → Int32) (f2 : Nat → FA), (mcall (d + 1)) 45 [vR 0, vI (f1 38 (ix x3)), vI x3] (LR z1 f1) = some (some (vI r2), LR z2 f2) ∧ ((¬ r2 = 0 → RC (mcall (d + 1)) (mP 44) 16 [some (vR 0), some (vI x1), some (vI x2), some (vI (x3 + 1))] [] (LR z2 f2) res) ∧ (r2 = 0 → (pin (x1 &&& ((1 <<< (x3 &&& 31)) ^^^ ((-1)))) 256 = true ∧ RC (mcall (d + 1)) (mP 44) 16 [some (vR 0), some (vI x1), some (vI (x2 + (f2 39 (ix (x1 &&& ((1 <<< (x3 &&& 31)) ^^^ ((-1)))))))), some (vI (x3 + 1))] [] (LR z2 f2) res)))))))))))))) : RC (mcall (d + 1)) (mP 44) 16 [some (vR 0), some (vI x1), some (vI x2), some (vI x3)] [] (LR z f) res := by
  refine rc_b (i' := 18) (ls' := [some (vR 0), some (vI x1), some (vI x2), some (vI x3)]) (st' := [vI 8, vI x3]) (L' := LR z f) 2 (bc16_44_1 (mcall (d + 1)) x1 x2 x3 _) ?_
  refine rc_if (it := 56) (ie := 19) (ls' := [some (vR 0), some (vI x1), some (vI x2), some (vI x3)]) (st' := []) (bc16_44_2 (mcall (d + 1)) x3 8 _ _) (fun q1 => ?_) (fun q1 => ?_)
  · have H := H.1 (cI3t q1 rfl rfl)
    refine rc_b (i' := 60) (ls' := [some (vR 0), some (vI x1), some (vI x2), some (vI x3)]) (st' := [vI x2, vI x1, vR 39]) (L' := LR z f) 4 (bc16_44_3 (mcall (d + 1)) x1 x2 x3 z f) ?_
    obtain ⟨g1, H⟩ := H
    refine rc_g (i' := 61) (ls' := [some (vR 0), some (vI x1), some (vI x2), some (vI x3)]) (st' := []) (L' := LR z (uA f 39 (upd (f 39) (ix x1) x2))) (bc16_44_4 (mcall (d + 1)) x1 x2 _ z f) (pinG g1) ?_
    refine rc_b (i' := 62) (ls' := [some (vR 0), some (vI (x1 + 1)), some (vI x2), some (vI x3)]) (st' := []) (L' := LR z (uA f 39 (upd (f 39) (ix x1) x2))) 1 (bc16_44_5 (mcall (d + 1)) x1 x2 x3 _) ?_
    refine rc_b (i' := 5) (ls' := [some (vR 0), some (vI (x1 + 1)), some (vI x2), some (vI x3)]) (st' := []) (L' := LR z (uA f 39 (upd (f 39) (ix x1) x2))) 1 (bc16_44_6 (mcall (d + 1)) (x1 + 1) x2 x3 _) ?_
    exact H
  · have H := H.2 (cI3f q1 rfl rfl)
    refine rc_b (i' := 22) (ls' := [some (vR 0), some (vI x1), some (vI x2), some (vI x3)]) (st' := [vI x3, vI x1, vR 0]) (L' := LR z f) 3 (bc16_44_7 (mcall (d + 1)) x1 x2 x3 _) ?_
    obtain ⟨r1, z1, f1, hc, H⟩ := H
    refine rc_call (t := 23) (ls' := [some (vR 0), some (vI x1), some (vI x2), some (vI x3)]) (st' := []) (bc16_44_8 (mcall (d + 1)) x1 x3 _ z f) hc ?_
    show RC (mcall (d + 1)) (mP 44) 23 [some (vR 0), some (vI x1), some (vI x2), some (vI x3)] [vI r1] (LR z1 f1) res
    refine rc_if (it := 54) (ie := 24) (ls' := [some (vR 0), some (vI x1), some (vI x2), some (vI x3)]) (st' := []) (bc16_44_9 (mcall (d + 1)) r1 _ _) (fun q2 => ?_) (fun q2 => ?_)
    · have H := H.1 (cI0t q2)
      refine rc_b (i' := 55) (ls' := [some (vR 0), some (vI x1), some (vI x2), some (vI (x3 + 1))]) (st' := []) (L' := LR z1 f1) 1 (bc16_44_10 (mcall (d + 1)) x1 x2 x3 _) ?_
      refine rc_b (i' := 16) (ls' := [some (vR 0), some (vI x1), some (vI x2), some (vI (x3 + 1))]) (st' := []) (L' := LR z1 f1) 1 (bc16_44_11 (mcall (d + 1)) x1 x2 (x3 + 1) _) ?_
      exact H
    · have H := H.2 (cI0f q2)
      refine rc_b (i' := 27) (ls' := [some (vR 0), some (vI x1), some (vI x2), some (vI x3)]) (st' := [vI x3, vR 38]) (L' := LR z1 f1) 3 (bc16_44_12 (mcall (d + 1)) x1 x2 x3 z1 f1) ?_
      obtain ⟨g1, H⟩ := H
      refine rc_g (i' := 28) (ls' := [some (vR 0), some (vI x1), some (vI x2), some (vI x3)]) (st' := [vI (f1 38 (ix x3))]) (L' := LR z1 f1) (bc16_44_13 (mcall (d + 1)) x3 _ z1 f1) (pinG g1) ?_
      refine rc_b (i' := 32) (ls' := [some (vR 0), some (vI x1), some (vI x2), some (vI x3)]) (st' := [vI ((f1 38 (ix x3)) &&& (x1 ^^^ ((-1))))]) (L' := LR z1 f1) 4 (bc16_44_14 (mcall (d + 1)) x1 x2 x3 (f1 38 (ix x3)) _) ?_
      refine rc_if (it := 54) (ie := 33) (ls' := [some (vR 0), some (vI x1), some (vI x2), some (vI x3)]) (st' := []) (bc16_44_15 (mcall (d + 1)) ((f1 38 (ix x3)) &&& (x1 ^^^ ((-1)))) _ _) (fun q3 => ?_) (fun q3 => ?_)
      · have H := H.1 (cI1t q3)
        refine rc_b (i' := 55) (ls' := [some (vR 0), some (vI x1), some (vI x2), some (vI (x3 + 1))]) (st' := []) (L' := LR z1 f1) 1 (bc16_44_10 (mcall (d + 1)) x1 x2 x3 _) ?_
        refine rc_b (i' := 16) (ls' := [some (vR 0), some (vI x1), some (vI x2), some (vI (x3 + 1))]) (st' := []) (L' := LR z1 f1) 1 (bc16_44_11 (mcall (d + 1)) x1 x2 (x3 + 1) _) ?_
        exact H
      · have H := H.2 (cI1f q3)
        refine rc_b (i' := 37) (ls' := [some (vR 0), some (vI x1), some (vI x2), some (vI x3)]) (st' := [vI x3, vR 38, vR 0]) (L' := LR z1 f1) 4 (bc16_44_16 (mcall (d + 1)) x1 x2 x3 z1 f1) ?_
        obtain ⟨g1, H⟩ := H
        refine rc_g (i' := 38) (ls' := [some (vR 0), some (vI x1), some (vI x2), some (vI x3)]) (st' := [vI (f1 38 (ix x3)), vR 0]) (L' := LR z1 f1) (bc16_44_17 (mcall (d + 1)) x3 _ z1 f1) (pinG g1) ?_
        refine rc_b (i' := 39) (ls' := [some (vR 0), some (vI x1), some (vI x2), some (vI x3)]) (st' := [vI x3, vI (f1 38 (ix x3)), vR 0]) (L' := LR z1 f1) 1 (bc16_44_18 (mcall (d + 1)) x1 x2 x3 (f1 38 (ix x3)) _) ?_
        obtain ⟨r2, z2, f2, hc, H⟩ := H
        refine rc_call (t := 40) (ls' := [some (vR 0), some (vI x1), some (vI x2), some (vI x3)]) (st' := []) (bc16_44_19 (mcall (d + 1)) (f1 38 (ix x3)) x3 _ z1 f1) hc ?_
        show RC (mcall (d + 1)) (mP 44) 40 [some (vR 0), some (vI x1), some (vI x2), some (vI x3)] [vI r2] (LR z2 f2) res
        refine rc_if (it := 54) (ie := 41) (ls' := [some (vR 0), some (vI x1), some (vI x2), some (vI x3)]) (st' := []) (bc16_44_20 (mcall (d + 1)) r2 _ _) (fun q4 => ?_) (fun q4 => ?_)
        · have H := H.1 (cI1t q4)
          refine rc_b (i' := 55) (ls' := [some (vR 0), some (vI x1), some (vI x2), some (vI (x3 + 1))]) (st' := []) (L' := LR z2 f2) 1 (bc16_44_10 (mcall (d + 1)) x1 x2 x3 _) ?_
          refine rc_b (i' := 16) (ls' := [some (vR 0), some (vI x1), some (vI x2), some (vI (x3 + 1))]) (st' := []) (L' := LR z2 f2) 1 (bc16_44_11 (mcall (d + 1)) x1 x2 (x3 + 1) _) ?_
          exact H
        · have H := H.2 (cI1f q4)
          refine rc_b (i' := 51) (ls' := [some (vR 0), some (vI x1), some (vI x2), some (vI x3)]) (st' := [vI (x1 &&& ((1 <<< (x3 &&& 31)) ^^^ ((-1)))), vR 39, vI x2]) (L' := LR z2 f2) 10 (bc16_44_21 (mcall (d + 1)) x1 x2 x3 z2 f2) ?_
          obtain ⟨g1, H⟩ := H
          refine rc_g (i' := 52) (ls' := [some (vR 0), some (vI x1), some (vI x2), some (vI x3)]) (st' := [vI (f2 39 (ix (x1 &&& ((1 <<< (x3 &&& 31)) ^^^ ((-1)))))), vI x2]) (L' := LR z2 f2) (bc16_44_22 (mcall (d + 1)) (x1 &&& ((1 <<< (x3 &&& 31)) ^^^ ((-1)))) x2 _ z2 f2) (pinG g1) ?_
          refine rc_b (i' := 54) (ls' := [some (vR 0), some (vI x1), some (vI (x2 + (f2 39 (ix (x1 &&& ((1 <<< (x3 &&& 31)) ^^^ ((-1)))))))), some (vI x3)]) (st' := []) (L' := LR z2 f2) 2 (bc16_44_23 (mcall (d + 1)) x1 x2 x3 (f2 39 (ix (x1 &&& ((1 <<< (x3 &&& 31)) ^^^ ((-1)))))) x2 _) ?_
          refine rc_b (i' := 55) (ls' := [some (vR 0), some (vI x1), some (vI (x2 + (f2 39 (ix (x1 &&& ((1 <<< (x3 &&& 31)) ^^^ ((-1)))))))), some (vI (x3 + 1))]) (st' := []) (L' := LR z2 f2) 1 (bc16_44_10 (mcall (d + 1)) x1 (x2 + (f2 39 (ix (x1 &&& ((1 <<< (x3 &&& 31)) ^^^ ((-1))))))) x3 _) ?_
          refine rc_b (i' := 16) (ls' := [some (vR 0), some (vI x1), some (vI (x2 + (f2 39 (ix (x1 &&& ((1 <<< (x3 &&& 31)) ^^^ ((-1)))))))), some (vI (x3 + 1))]) (st' := []) (L' := LR z2 f2) 1 (bc16_44_11 (mcall (d + 1)) x1 (x2 + (f2 39 (ix (x1 &&& ((1 <<< (x3 &&& 31)) ^^^ ((-1))))))) (x3 + 1) _) ?_
          exact H
theorem mo16 (d : Nat) {z : Nat → Int32} {f : Nat → FA} {s : Nat} (hB : BOr (f 38)) (hs : s < 256) : ∀ t i, i + t = 8 → ∀ res, RC (mcall (d + 1)) (mP 44) 5 [some (vR 0), some (vI (nI (s + 1))), some (vI (base0 s + osg (fun k => bt s k && okOr (f 38) (rb s k) k) (fun k => f 39 (rb s k)) 8)), some (vI (nI 8))] [] (LR z (uA f 39 (upd (f 39) s (base0 s + osg (fun k => bt s k && okOr (f 38) (rb s k) k) (fun k => f 39 (rb s k)) 8)))) res → RC (mcall (d + 1)) (mP 44) 16 [some (vR 0), some (vI (nI s)), some (vI (base0 s + osg (fun k => bt s k && okOr (f 38) (rb s k) k) (fun k => f 39 (rb s k)) i)), some (vI (nI i))] [] (LR z f) res := by
  have ps : pin (nI s) 256 = true := pin_nI (by omega) (by omega)
  have xs : ix (nI s) = s := ix_nI (by omega)
  intro t
  induction t with
  | zero =>
    intro i hi res h
    obtain rfl : i = 8 := by omega
    refine vcc16_44_16 d _ _ _ _ _ _ ⟨fun _ => ⟨ps, ?_⟩, fun q => by rw [I_nI (n := 8) (by omega)] at q; omega⟩
    rw [xs, show nI s + 1 = nI (s + 1) from nI_add s 1]
    exact h
  | succ t ih =>
    intro i hi res h
    have i8 : i < 8 := by omega
    have h1 := ih (i + 1) (by omega) res h
    have pi : pin (nI i) 8 = true := pin_nI (by omega) (by omega)
    have xi : ix (nI i) = i := ix_nI (by omega)
    have e1 : nI i + 1 = nI (i + 1) := nI_add i 1
    obtain ⟨v, v1, v2, v3⟩ := hB i i8
    have hh := has_r d s i hs i8 z f
    have hv := has_r d v i v1 i8 z f
    rw [v2, if_neg (by decide)] at hv
    have hor := ok_rb hB hs i8
    have no : (bt s i && okOr (f 38) (rb s i) i) = false → RC (mcall (d + 1)) (mP 44) 16 [some (vR 0), some (vI (nI s)), some (vI (base0 s + osg (fun k => bt s k && okOr (f 38) (rb s k) k) (fun k => f 39 (rb s k)) i)), some (vI (nI i + 1))] [] (LR z f) res := fun c => by
      have e : osg (fun k => bt s k && okOr (f 38) (rb s k) k) (fun k => f 39 (rb s k)) (i + 1) = osg (fun k => bt s k && okOr (f 38) (rb s k) k) (fun k => f 39 (rb s k)) i := by
        show osg _ _ i + (if (bt s i && okOr (f 38) (rb s i) i) = true then f 39 (rb s i) else 0) = _
        rw [c, if_neg (by decide), Int32.add_zero]
      rw [e] at h1
      rw [e1]
      exact h1
    refine vcc16_44_16 d _ _ _ _ _ _ ⟨fun q => by rw [I_nI (n := i) (by omega)] at q; omega, fun _ => ⟨_, _, _, hh, fun q => ?_, fun q => ⟨pi, fun q2 => ?_, fun q2 => ⟨pi, _, _, _, (by rw [xi, v3]; exact hv), fun q3 => absurd rfl q3, fun _ => ?_⟩⟩⟩⟩
    · refine no ?_
      cases c : bt s i with
      | false => rfl
      | true =>
        rw [c, if_pos rfl] at q
        exact absurd q (by decide)
    · rw [xi] at q2
      refine no ?_
      rw [hor, show okOr (f 38) s i = false from decide_eq_false q2, Bool.and_false]
    · rw [xi] at q2
      have hb : bt s i = true := by
        cases c : bt s i with
        | true => rfl
        | false =>
          rw [c, if_neg (by decide)] at q
          exact absurd rfl q
      have ho : okOr (f 38) (rb s i) i = true := by rw [hor]; exact decide_eq_true q2
      have rl := (rb_lt s hs i i8 hb).1
      have e : osg (fun k => bt s k && okOr (f 38) (rb s k) k) (fun k => f 39 (rb s k)) (i + 1) = osg (fun k => bt s k && okOr (f 38) (rb s k) k) (fun k => f 39 (rb s k)) i + f 39 (rb s i) := by
        show osg _ _ i + (if (bt s i && okOr (f 38) (rb s i) i) = true then f 39 (rb s i) else 0) = _
        rw [hb, ho, Bool.true_and, if_pos rfl]
      rw [e, ← Int32.add_assoc] at h1
      rw [rb_code s hs i i8, ix_nI (j := rb s i) (by omega), e1]
      exact ⟨pin_nI (by omega) (by omega), h1⟩
theorem HW_s {B W : FA} {s : Nat} (hs : s < 256) (h : HW B W s) : HW B (upd W s (base0 s + osg (fun k => bt s k && okOr B (rb s k) k) (fun k => W (rb s k)) 8)) (s + 1) := by
  have le : ∀ T, T < 256 → ∀ k, k < 8 → (bt T k && okOr B (rb T k) k) = true → rb T k < T := fun T hT k hk c => by
    rw [Bool.and_eq_true] at c
    exact (rb_lt T hT k hk c.1).1
  intro T hT
  by_cases q : T = s
  · subst q
    rw [pk_us]
    rw [osg_cong (p := fun k => bt T k && okOr B (rb T k) k) (v := fun k => W (rb T k)) (q := fun k => bt T k && okOr B (rb T k) k) (w := fun k => upd W T (base0 T + osg (fun k => bt T k && okOr B (rb T k) k) (fun k => W (rb T k)) 8) (rb T k)) 8 (fun _ _ => rfl) (fun k hk c => pk_un (by have := le T hs k hk c; omega))]
  · rw [pk_un q, h T (by omega)]
    rw [osg_cong (p := fun k => bt T k && okOr B (rb T k) k) (v := fun k => W (rb T k)) (q := fun k => bt T k && okOr B (rb T k) k) (w := fun k => upd W s (base0 s + osg (fun k => bt s k && okOr B (rb s k) k) (fun k => W (rb s k)) 8) (rb T k)) 8 (fun _ _ => rfl) (fun k hk c => pk_un (by have := le T (by omega) k hk c; omega))]
theorem mo5 (d : Nat) {z : Nat → Int32} {f : Nat → FA} (hB : BOr (f 38)) : ∀ t s, s + t = 256 → ∀ g, HW (f 38) g s → ∀ o2 o3, ∃ g', HW (f 38) g' 256 ∧ RC (mcall (d + 1)) (mP 44) 5 [some (vR 0), some (vI (nI s)), o2, o3] [] (LR z (uA f 39 g)) (some (vI (g' 255)), LR z (uA f 39 g')) := by
  intro t
  induction t with
  | zero =>
    intro s hs g hg o2 o3
    obtain rfl : s = 256 := by omega
    refine ⟨g, hg, vcc5_44_5 d _ _ _ _ _ _ ⟨fun _ => ⟨by decide, ?_⟩, fun q => by rw [I_nI (n := 256) (by omega)] at q; omega⟩⟩
    rw [uA_self, show ix 255 = 255 from by decide]
  | succ t ih =>
    intro s hs g hg o2 o3
    obtain ⟨g', k1, k2⟩ := ih (s + 1) (by omega) _ (HW_s (by omega) hg) (some (vI (base0 s + osg (fun k => bt s k && okOr (f 38) (rb s k) k) (fun k => g (rb s k)) 8))) (some (vI (nI 8)))
    have hm := mo16 d (z := z) (f := uA f 39 g) (s := s) (by rw [uA_ne (show (38 : Nat) ≠ 39 by decide)]; exact hB) (by omega) 8 0 rfl (some (vI (g' 255)), LR z (uA f 39 g'))
    rw [uA_uA, uA_self, uA_ne (show (38 : Nat) ≠ 39 by decide)] at hm
    have h2 := hm k2
    refine ⟨g', k1, vcc5_44_5 d _ _ _ _ _ _ ⟨fun q => by rw [I_nI (n := s) (by omega)] at q; omega, fun _ => ⟨fun q => ?_, fun q => ?_⟩⟩⟩
    · have h0 : ¬ s = 0 := fun c => q (by rw [c]; rfl)
      rw [show base0 s + osg (fun k => bt s k && okOr (f 38) (rb s k) k) (fun k => g (rb s k)) 0 = 0 from by
        unfold base0
        rw [if_neg h0]
        rfl] at h2
      exact h2
    · have h0 : s = 0 := nI_inj (by omega) (by omega) (show nI s = nI 0 from q)
      rw [show base0 s + osg (fun k => bt s k && okOr (f 38) (rb s k) k) (fun k => g (rb s k)) 0 = 1 from by
        unfold base0
        rw [if_pos h0]
        rfl] at h2
      exact h2
theorem m_order (d : Nat) {z : Nat → Int32} {f : Nat → FA} (hB : BOr (f 38)) : ∃ (f1 : Nat → FA) (W : Nat → Int32), (∀ k, k ≠ 39 → f1 k = f k) ∧ HW (f 38) W 256 ∧ mcall (d + 2) 44 [vR 0] (LR z f) = some (some (vI (W 255)), LR (uZ z 0 0) f1) := by
  obtain ⟨g', k1, k2⟩ := mo5 d (z := uZ z 0 0) (f := f) hB 256 0 rfl (f 39) (fun s hs => absurd hs (Nat.not_lt_zero s)) none none
  rw [uA_id rfl] at k2
  exact ⟨uA f 39 g', g', fun k hk => uA_ne hk, k1, mcall_i (mq44 (cu := [])).2.2 rfl (vc44_0 d none none none z f _ k2)⟩
theorem HW_cong {B B' : FA} {W : Nat → Int32} (hB : ∀ k, k < 8 → B' k = B k) (h : HW B' W 256) : HW B W 256 := by
  intro s hs
  rw [h s hs, osg_cong (p := fun k => bt s k && okOr B (rb s k) k) (v := fun k => W (rb s k)) 8 (fun k hk => ?_) (fun _ _ _ => rfl)]
  show (bt s k && okOr B' (rb s k) k) = (bt s k && okOr B (rb s k) k)
  unfold okOr
  rw [hB k hk]
theorem TA_f {zc : Nat → Int32} {fc : Nat → FA} {zm : Nat → Int32} {fm fm1 : Nat → FA} (h : TA zc fc zm fm) (hf : ∀ k N, (k, N) ∈ MKt → fm1 k = fm k) : TA zc fc zm fm1 := h.cong (fun _ _ => rfl) (fun _ _ _ _ _ _ _ => rfl) (fun _ _ => rfl) (fun k N hk _ _ => by rw [hf k N hk])
theorem tq_order (l : Launch) (G : PG) {nc nm : Nat} {h : PH} (hI : LIY TP nc nm h) : PRY TP l G nc nm h 0 3 44 2 [] := by
  obtain ⟨lam, b, u, z, f, zm, fm, hB, hR, hM, hT, hX⟩ := TP_link hI
  obtain ⟨m, hm, e1, e2, a, b2, e3, e4⟩ : CLs bef (z 19) (f 20) (zm 65) (fm 38) := hT 8 (by decide)
  have hB0 := bef_BOr (a := a) (b := b2) m (fun j hj => ⟨(e3 j hj).1, (e3 j hj).2.1, (e3 j hj).2.2.1⟩)
  have hB1 : BOr (fm 38) := fun k hk => by
    rw [e4 k hk]
    exact hB0 k hk
  obtain ⟨g1, W, hg1, hW, r⟩ := m_order 0 (z := zm) (f := fm) hB1
  obtain ⟨f1, hf1, hc⟩ := c_order (u := u) 0 (a := a) (b := b2) (W := W) e1 hm e3 (HW_cong e4 hW)
  have ht : TA (fun i => z (3 + 2 * i)) (fun i => f1 (4 + 2 * i)) (uZ zm 0 0) g1 := by
    have h1 := TA_f (TA_0 hT) (fm1 := g1) (fun k N hk => hg1 k (by
      have : ∀ e, e ∈ MKt → e.1 ≠ 39 := by decide
      exact this _ hk))
    intro i hi
    show TQ i (z (3 + 2 * i)) (f1 (4 + 2 * i)) (uZ zm 0 0) g1
    rw [hf1 (4 + 2 * i) (by omega) (by omega)]
    exact h1 i hi
  exact tp_pair l G hB hR hM hX (kc_q196_ok l G lam hB.2.1) (kr_q59_ok l G _ (lamM_r nm) _ (EXK_of (lamM_r nm))) (As := []) hc r ht (by decide +kernel) (by decide +kernel) ⟨by rw [show nc = lam 0 from (hB.2.2.1 0 (by decide)).symm]; rfl, trivial⟩ ⟨rfl, trivial⟩ rfl
