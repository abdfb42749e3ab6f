/-! what comes to what, on both sides -/
set_option maxRecDepth 100000 in
theorem b214_1 (call : QC FA) (o1 : Option PV) (o2 : Option PV) (L : QH FA) (F : Nat) : rnG call 214 (F + 2) 0 [some (vR 0), o1, o2] [] L = rnG call 214 F 2 [some (vR 0), some (vI 0), o2] [] L := rfl
theorem vc214_0 (d : Nat) (o1 : Option PV) (o2 : Option PV) (z : Nat → Int32) (f : Nat → FA) (res : Option PV × QH FA) (H : RC (mcall (d + 6)) (mP 214) 2 [some (vR 0), some (vI 0), o2] [] (LR z f) res) : RC (mcall (d + 6)) (mP 214) 0 [some (vR 0), o1, o2] [] (LR z f) res := by
  refine rc_b (i' := 2) (ls' := [some (vR 0), some (vI 0), o2]) (st' := []) (L' := LR z f) 2 (b214_1 (mcall (d + 6)) o1 o2 _) ?_
  exact H
set_option maxRecDepth 100000 in
theorem bc2_214_1 (call : QC FA) (x1 : Int32) (o2 : Option PV) (z : Nat → Int32) (f : Nat → FA) (F : Nat) : rnG call 214 (F + 5) 2 [some (vR 0), some (vI x1), o2] [] (LR z f) = rnG call 214 F 7 [some (vR 0), some (vI x1), o2] [vI (5 * (z 36)), vI x1] (LR z f) := rfl
set_option maxRecDepth 100000 in
theorem bc2_214_2 (call : QC FA) (x y : Int32) (ls : List (Option PV)) (L : QH FA) (F : Nat) : rnG call 214 (F + 1) 7 ls [vI y, vI x] L = bif pcmp 3 x y then rnG call 214 F 36 ls [] L else rnG call 214 F 8 ls [] L := rfl
set_option maxRecDepth 100000 in
theorem bc2_214_3 (call : QC FA) (x1 : Int32) (o2 : Option PV) (L : QH FA) (F : Nat) : rnG call 214 (F + 4) 36 [some (vR 0), some (vI x1), o2] [] L = rnG call 214 F 40 [some (vR 0), some (vI 0), some (vI 0)] [] L := rfl
set_option maxRecDepth 100000 in
theorem bc2_214_4 (call : QC FA) (x1 : Int32) (o2 : Option PV) (z : Nat → Int32) (f : Nat → FA) (F : Nat) : rnG call 214 (F + 3) 8 [some (vR 0), some (vI x1), o2] [] (LR z f) = rnG call 214 F 11 [some (vR 0), some (vI x1), o2] [vI x1, vR 19] (LR z f) := rfl
set_option maxRecDepth 100000 in
theorem bc2_214_5 (call : QC FA) (x : Int32) (ls : List (Option PV)) (z : Nat → Int32) (f : Nat → FA) (F : Nat) : rnG call 214 (F + 1) 11 ls [vI x, vR 19] (LR z f) = bif (Nat.beq 0 0 && pin x 160) then rnG call 214 F 12 ls [vI (f 19 (ix x))] (LR z f) else none := rfl
set_option maxRecDepth 100000 in
theorem bc2_214_6 (call : QC FA) (x1 : Int32) (o2 : Option PV) (s0 : Int32) (z : Nat → Int32) (f : Nat → FA) (F : Nat) : rnG call 214 (F + 3) 12 [some (vR 0), some (vI x1), o2] [vI s0] (LR z f) = rnG call 214 F 15 [some (vR 0), some (vI x1), o2] [vI 0, vR 1, vI s0] (LR z f) := rfl
set_option maxRecDepth 100000 in
theorem bc2_214_7 (call : QC FA) (x : Int32) (s0 : Int32) (ls : List (Option PV)) (z : Nat → Int32) (f : Nat → FA) (F : Nat) : rnG call 214 (F + 1) 15 ls [vI x, vR 1, vI s0] (LR z f) = bif (Nat.beq 0 0 && pin x 499) then rnG call 214 F 16 ls [vI (f 1 (ix x)), vI s0] (LR z f) else none := rfl
set_option maxRecDepth 100000 in
theorem bc2_214_8 (call : QC FA) (x y : Int32) (ls : List (Option PV)) (L : QH FA) (F : Nat) : rnG call 214 (F + 1) 16 ls [vI y, vI x] L = bif pcmp 1 x y then rnG call 214 F 31 ls [] L else rnG call 214 F 17 ls [] L := rfl
set_option maxRecDepth 100000 in
theorem bc2_214_9 (call : QC FA) (x1 : Int32) (o2 : Option PV) (L : QH FA) (F : Nat) : rnG call 214 (F + 5) 31 [some (vR 0), some (vI x1), o2] [] L = rnG call 214 F 2 [some (vR 0), some (vI (x1 + 5)), o2] [] L := rfl
set_option maxRecDepth 100000 in
theorem bc2_214_10 (call : QC FA) (x1 : Int32) (o2 : Option PV) (z : Nat → Int32) (f : Nat → FA) (F : Nat) : rnG call 214 (F + 5) 17 [some (vR 0), some (vI x1), o2] [] (LR z f) = rnG call 214 F 22 [some (vR 0), some (vI x1), o2] [vI (x1 + 1), vR 19] (LR z f) := rfl
set_option maxRecDepth 100000 in
theorem bc2_214_11 (call : QC FA) (x : Int32) (ls : List (Option PV)) (z : Nat → Int32) (f : Nat → FA) (F : Nat) : rnG call 214 (F + 1) 22 ls [vI x, vR 19] (LR z f) = bif (Nat.beq 0 0 && pin x 160) then rnG call 214 F 23 ls [vI (f 19 (ix x))] (LR z f) else none := rfl
set_option maxRecDepth 100000 in
theorem bc2_214_12 (call : QC FA) (x1 : Int32) (o2 : Option PV) (s0 : Int32) (z : Nat → Int32) (f : Nat → FA) (F : Nat) : rnG call 214 (F + 3) 23 [some (vR 0), some (vI x1), o2] [vI s0] (LR z f) = rnG call 214 F 26 [some (vR 0), some (vI x1), o2] [vI 1, vR 1, vI s0] (LR z f) := rfl
set_option maxRecDepth 100000 in
theorem bc2_214_13 (call : QC FA) (x : Int32) (s0 : Int32) (ls : List (Option PV)) (z : Nat → Int32) (f : Nat → FA) (F : Nat) : rnG call 214 (F + 1) 26 ls [vI x, vR 1, vI s0] (LR z f) = bif (Nat.beq 0 0 && pin x 499) then rnG call 214 F 27 ls [vI (f 1 (ix x)), vI s0] (LR z f) else none := rfl
set_option maxRecDepth 100000 in
theorem bc2_214_14 (call : QC FA) (x y : Int32) (ls : List (Option PV)) (L : QH FA) (F : Nat) : rnG call 214 (F + 1) 27 ls [vI y, vI x] L = bif pcmp 1 x y then rnG call 214 F 31 ls [] L else rnG call 214 F 28 ls [] L := rfl
set_option maxRecDepth 100000 in
theorem bc2_214_15 (call : QC FA) (x1 : Int32) (o2 : Option PV) (L : QH FA) (F : Nat) : rnG call 214 (F + 2) 28 [some (vR 0), some (vI x1), o2] [] L = rnG call 214 F 30 [some (vR 0), some (vI x1), o2] [vI x1, vR 0] L := rfl
set_option maxRecDepth 100000 in
theorem bc2_214_16 (call : QC FA) (a0 : Int32) (ls : List (Option PV)) (z : Nat → Int32) (f : Nat → FA) (F : Nat) : rnG call 214 (F + 1) 30 ls [vI a0, vR 0] (LR z f) = cbd (call 202 [vR 0, vI a0] (LR z f)) (fun r L' => rnG call 214 F 31 ls (r.toList ++ []) L') := pcY (ih := rnG call 214 F) (call := call) (a := 202) (b := 1) (v := 12) (t := 31) (x := 0) (ls := ls) (As := [vI a0]) (st' := []) (L := LR z f) rfl rfl rfl
theorem vcc2_214_2 (d : Nat) (x1 : Int32) (o2 : Option PV) (z : Nat → Int32) (f : Nat → FA) (res : Option PV × QH FA) (H : ((I (5 * (z 36)) ≤ I x1 → RC (mcall (d + 6)) (mP 214) 40 [some (vR 0), some (vI 0), some (vI 0)] [] (LR z f) res) ∧ (I x1 < I (5 * (z 36)) → (pin x1 160 = true ∧ (pin 0 499 = true ∧ ((¬ f 19 (ix x1) = f 1 (ix 0) → RC (mcall (d + 6)) (mP 214) 2 [some (vR 0), some (vI (x1 + 5)), o2] [] (LR z f) res) ∧ (f 19 (ix x1) = f 1 (ix 0) → (pin (x1 + 1) 160 = true ∧ (pin 1 499 = true ∧ ((¬ f 19 (ix (x1 + 1)) = f 1 (ix 1) → RC (mcall (d + 6)) (mP 214) 2 [some (vR 0), some (vI (x1 + 5)), o2] [] (LR z f) res) ∧ (f 19 (ix (x1 + 1)) = f 1 (ix 1) → (∃ (z1 : Nat → Int32) (f1 : Nat → FA), (mcall (d + 6)) 202 [vR 0, vI x1] (LR z f) = some (none, LR z1 f1) ∧ RC (mcall (d + 6)) (mP 214) 2 [some (vR 0), some (vI (x1 + 5)), o2] [] (LR z1 f1) res)))))))))))) : RC (mcall (d + 6)) (mP 214) 2 [some (vR 0), some (vI x1), o2] [] (LR z f) res := by
  refine rc_b (i' := 7) (ls' := [some (vR 0), some (vI x1), o2]) (st' := [vI (5 * (z 36)), vI x1]) (L' := LR z f) 5 (bc2_214_1 (mcall (d + 6)) x1 o2 z f) ?_
  refine rc_if (it := 36) (ie := 8) (ls' := [some (vR 0), some (vI x1), o2]) (st' := []) (bc2_214_2 (mcall (d + 6)) x1 (5 * (z 36)) _ _) (fun q1 => ?_) (fun q1 => ?_)
  · have H := H.1 (cI3t q1 rfl rfl)
    refine rc_b (i' := 40) (ls' := [some (vR 0), some (vI 0), some (vI 0)]) (st' := []) (L' := LR z f) 4 (bc2_214_3 (mcall (d + 6)) x1 o2 _) ?_
    exact H
  · have H := H.2 (cI3f q1 rfl rfl)
    refine rc_b (i' := 11) (ls' := [some (vR 0), some (vI x1), o2]) (st' := [vI x1, vR 19]) (L' := LR z f) 3 (bc2_214_4 (mcall (d + 6)) x1 o2 z f) ?_
    obtain ⟨g1, H⟩ := H
    refine rc_g (i' := 12) (ls' := [some (vR 0), some (vI x1), o2]) (st' := [vI (f 19 (ix x1))]) (L' := LR z f) (bc2_214_5 (mcall (d + 6)) x1 _ z f) (pinG g1) ?_
    refine rc_b (i' := 15) (ls' := [some (vR 0), some (vI x1), o2]) (st' := [vI 0, vR 1, vI (f 19 (ix x1))]) (L' := LR z f) 3 (bc2_214_6 (mcall (d + 6)) x1 o2 (f 19 (ix x1)) z f) ?_
    obtain ⟨g1, H⟩ := H
    refine rc_g (i' := 16) (ls' := [some (vR 0), some (vI x1), o2]) (st' := [vI (f 1 (ix 0)), vI (f 19 (ix x1))]) (L' := LR z f) (bc2_214_7 (mcall (d + 6)) 0 (f 19 (ix x1)) _ z f) (pinG g1) ?_
    refine rc_if (it := 31) (ie := 17) (ls' := [some (vR 0), some (vI x1), o2]) (st' := []) (bc2_214_8 (mcall (d + 6)) (f 19 (ix x1)) (f 1 (ix 0)) _ _) (fun q2 => ?_) (fun q2 => ?_)
    · have H := H.1 (cI1t q2)
      refine rc_b (i' := 2) (ls' := [some (vR 0), some (vI (x1 + 5)), o2]) (st' := []) (L' := LR z f) 5 (bc2_214_9 (mcall (d + 6)) x1 o2 _) ?_
      exact H
    · have H := H.2 (cI1f q2)
      refine rc_b (i' := 22) (ls' := [some (vR 0), some (vI x1), o2]) (st' := [vI (x1 + 1), vR 19]) (L' := LR z f) 5 (bc2_214_10 (mcall (d + 6)) x1 o2 z f) ?_
      obtain ⟨g1, H⟩ := H
      refine rc_g (i' := 23) (ls' := [some (vR 0), some (vI x1), o2]) (st' := [vI (f 19 (ix (x1 + 1)))]) (L' := LR z f) (bc2_214_11 (mcall (d + 6)) (x1 + 1) _ z f) (pinG g1) ?_
      refine rc_b (i' := 26) (ls' := [some (vR 0), some (vI x1), o2]) (st' := [vI 1, vR 1, vI (f 19 (ix (x1 + 1)))]) (L' := LR z f) 3 (bc2_214_12 (mcall (d + 6)) x1 o2 (f 19 (ix (x1 + 1))) z f) ?_
      obtain ⟨g1, H⟩ := H
      refine rc_g (i' := 27) (ls' := [some (vR 0), some (vI x1), o2]) (st' := [vI (f 1 (ix 1)), vI (f 19 (ix (x1 + 1)))]) (L' := LR z f) (bc2_214_13 (mcall (d + 6)) 1 (f 19 (ix (x1 + 1))) _ z f) (pinG g1) ?_
      refine rc_if (it := 31) (ie := 28) (ls' := [some (vR 0), some (vI x1), o2]) (st' := []) (bc2_214_14 (mcall (d + 6)) (f 19 (ix (x1 + 1))) (f 1 (ix 1)) _ _) (fun q3 => ?_) (fun q3 => ?_)
      · have H := H.1 (cI1t q3)
        refine rc_b (i' := 2) (ls' := [some (vR 0), some (vI (x1 + 5)), o2]) (st' := []) (L' := LR z f) 5 (bc2_214_9 (mcall (d + 6)) x1 o2 _) ?_
        exact H
      · have H := H.2 (cI1f q3)
        refine rc_b (i' := 30) (ls' := [some (vR 0), some (vI x1), o2]) (st' := [vI x1, vR 0]) (L' := LR z f) 2 (bc2_214_15 (mcall (d + 6)) x1 o2 _) ?_
        obtain ⟨z1, f1, hc, H⟩ := H
        refine rc_call (t := 31) (ls' := [some (vR 0), some (vI x1), o2]) (st' := []) (bc2_214_16 (mcall (d + 6)) x1 _ z f) hc ?_
        show RC (mcall (d + 6)) (mP 214) 31 [some (vR 0), some (vI x1), o2] [] (LR z1 f1) res
        refine rc_b (i' := 2) (ls' := [some (vR 0), some (vI (x1 + 5)), o2]) (st' := []) (L' := LR z1 f1) 5 (bc2_214_9 (mcall (d + 6)) x1 o2 _) ?_
        exact H
set_option maxRecDepth 100000 in
theorem bc40_214_1 (call : QC FA) (x1 : Int32) (x2 : Int32) (z : Nat → Int32) (f : Nat → FA) (F : Nat) : rnG call 214 (F + 5) 40 [some (vR 0), some (vI x1), some (vI x2)] [] (LR z f) = rnG call 214 F 45 [some (vR 0), some (vI x1), some (vI x2)] [vI (3 * (z 34)), vI x2] (LR z f) := rfl
set_option maxRecDepth 100000 in
theorem bc40_214_2 (call : QC FA) (x y : Int32) (ls : List (Option PV)) (L : QH FA) (F : Nat) : rnG call 214 (F + 1) 45 ls [vI y, vI x] L = bif pcmp 3 x y then rnG call 214 F 96 ls [] L else rnG call 214 F 46 ls [] L := rfl
set_option maxRecDepth 100000 in
theorem bc40_214_3 (call : QC FA) (x1 : Int32) (x2 : Int32) (L : QH FA) (F : Nat) : rnG call 214 (F + 2) 96 [some (vR 0), some (vI x1), some (vI x2)] [] L = rnG call 214 F 98 [some (vR 0), some (vI x1), some (vI 0)] [] L := rfl
set_option maxRecDepth 100000 in
theorem bc40_214_4 (call : QC FA) (x1 : Int32) (x2 : Int32) (z : Nat → Int32) (f : Nat → FA) (F : Nat) : rnG call 214 (F + 5) 46 [some (vR 0), some (vI x1), some (vI x2)] [] (LR z f) = rnG call 214 F 51 [some (vR 0), some (vI x1), some (vI x2)] [vI (x2 + 1), vR 18] (LR z f) := rfl
set_option maxRecDepth 100000 in
theorem bc40_214_5 (call : QC FA) (x : Int32) (ls : List (Option PV)) (z : Nat → Int32) (f : Nat → FA) (F : Nat) : rnG call 214 (F + 1) 51 ls [vI x, vR 18] (LR z f) = bif (Nat.beq 0 0 && pin x 96) then rnG call 214 F 52 ls [vI (f 18 (ix x))] (LR z f) else none := rfl
set_option maxRecDepth 100000 in
theorem bc40_214_6 (call : QC FA) (x1 : Int32) (x2 : Int32) (s0 : Int32) (z : Nat → Int32) (f : Nat → FA) (F : Nat) : rnG call 214 (F + 3) 52 [some (vR 0), some (vI x1), some (vI x2)] [vI s0] (LR z f) = rnG call 214 F 55 [some (vR 0), some (vI x1), some (vI x2)] [vI 1, vR 1, vI s0] (LR z f) := rfl
set_option maxRecDepth 100000 in
theorem bc40_214_7 (call : QC FA) (x : Int32) (s0 : Int32) (ls : List (Option PV)) (z : Nat → Int32) (f : Nat → FA) (F : Nat) : rnG call 214 (F + 1) 55 ls [vI x, vR 1, vI s0] (LR z f) = bif (Nat.beq 0 0 && pin x 499) then rnG call 214 F 56 ls [vI (f 1 (ix x)), vI s0] (LR z f) else none := rfl
set_option maxRecDepth 100000 in
theorem bc40_214_8 (call : QC FA) (x y : Int32) (ls : List (Option PV)) (L : QH FA) (F : Nat) : rnG call 214 (F + 1) 56 ls [vI y, vI x] L = bif pcmp 1 x y then rnG call 214 F 91 ls [] L else rnG call 214 F 57 ls [] L := rfl
set_option maxRecDepth 100000 in
theorem bc40_214_9 (call : QC FA) (x1 : Int32) (x2 : Int32) (L : QH FA) (F : Nat) : rnG call 214 (F + 5) 91 [some (vR 0), some (vI x1), some (vI x2)] [] L = rnG call 214 F 40 [some (vR 0), some (vI x1), some (vI (x2 + 3))] [] L := rfl
set_option maxRecDepth 100000 in
theorem bc40_214_10 (call : QC FA) (x1 : Int32) (x2 : Int32) (z : Nat → Int32) (f : Nat → FA) (F : Nat) : rnG call 214 (F + 4) 57 [some (vR 0), some (vI x1), some (vI x2)] [] (LR z f) = rnG call 214 F 61 [some (vR 0), some (vI x1), some (vI x2)] [vI x2, vR 18, vR 0] (LR z f) := rfl
set_option maxRecDepth 100000 in
theorem bc40_214_11 (call : QC FA) (x : Int32) (ls : List (Option PV)) (z : Nat → Int32) (f : Nat → FA) (F : Nat) : rnG call 214 (F + 1) 61 ls [vI x, vR 18, vR 0] (LR z f) = bif (Nat.beq 0 0 && pin x 96) then rnG call 214 F 62 ls [vI (f 18 (ix x)), vR 0] (LR z f) else none := rfl
set_option maxRecDepth 100000 in
theorem bc40_214_12 (call : QC FA) (a0 : Int32) (ls : List (Option PV)) (z : Nat → Int32) (f : Nat → FA) (F : Nat) : rnG call 214 (F + 1) 62 ls [vI a0, vR 0] (LR z f) = cbd (call 193 [vR 0, vI a0] (LR z f)) (fun r L' => rnG call 214 F 63 ls (r.toList ++ []) L') := pcY (ih := rnG call 214 F) (call := call) (a := 193) (b := 1) (v := 12) (t := 63) (x := 0) (ls := ls) (As := [vI a0]) (st' := []) (L := LR z f) rfl rfl rfl
set_option maxRecDepth 100000 in
theorem bc40_214_13 (call : QC FA) (x : Int32) (ls : List (Option PV)) (L : QH FA) (F : Nat) : rnG call 214 (F + 1) 63 ls [vI x] L = bif pcmp 0 x 0 then rnG call 214 F 91 ls [] L else rnG call 214 F 64 ls [] L := rfl
set_option maxRecDepth 100000 in
theorem bc40_214_14 (call : QC FA) (x1 : Int32) (x2 : Int32) (z : Nat → Int32) (f : Nat → FA) (F : Nat) : rnG call 214 (F + 5) 64 [some (vR 0), some (vI x1), some (vI x2)] [] (LR z f) = rnG call 214 F 69 [some (vR 0), some (vI x1), some (vI x2)] [vI x2, vR 18, vR 0, vR 0] (LR z f) := rfl
set_option maxRecDepth 100000 in
theorem bc40_214_15 (call : QC FA) (x : Int32) (ls : List (Option PV)) (z : Nat → Int32) (f : Nat → FA) (F : Nat) : rnG call 214 (F + 1) 69 ls [vI x, vR 18, vR 0, vR 0] (LR z f) = bif (Nat.beq 0 0 && pin x 96) then rnG call 214 F 70 ls [vI (f 18 (ix x)), vR 0, vR 0] (LR z f) else none := rfl
set_option maxRecDepth 100000 in
theorem bc40_214_16 (call : QC FA) (a0 : Int32) (ls : List (Option PV)) (z : Nat → Int32) (f : Nat → FA) (F : Nat) : rnG call 214 (F + 1) 70 ls [vI a0, vR 0, vR 0] (LR z f) = cbd (call 198 [vR 0, vI a0] (LR z f)) (fun r L' => rnG call 214 F 71 ls (r.toList ++ [vR 0]) L') := pcY (ih := rnG call 214 F) (call := call) (a := 198) (b := 1) (v := 12) (t := 71) (x := 0) (ls := ls) (As := [vI a0]) (st' := [vR 0]) (L := LR z f) rfl rfl rfl
set_option maxRecDepth 100000 in
theorem bc40_214_17 (call : QC FA) (a0 : Int32) (ls : List (Option PV)) (z : Nat → Int32) (f : Nat → FA) (F : Nat) : rnG call 214 (F + 1) 71 ls [vI a0, vR 0] (LR z f) = cbd (call 216 [vR 0, vI a0] (LR z f)) (fun r L' => rnG call 214 F 72 ls (r.toList ++ []) L') := pcY (ih := rnG call 214 F) (call := call) (a := 216) (b := 1) (v := 12) (t := 72) (x := 0) (ls := ls) (As := [vI a0]) (st' := []) (L := LR z f) rfl rfl rfl
set_option maxRecDepth 100000 in
theorem bc40_214_18 (call : QC FA) (x : Int32) (ls : List (Option PV)) (L : QH FA) (F : Nat) : rnG call 214 (F + 1) 72 ls [vI x] L = bif pcmp 1 x 0 then rnG call 214 F 74 ls [] L else rnG call 214 F 73 ls [] L := rfl
set_option maxRecDepth 100000 in
theorem bc40_214_19 (call : QC FA) (x1 : Int32) (x2 : Int32) (z : Nat → Int32) (f : Nat → FA) (F : Nat) : rnG call 214 (F + 4) 74 [some (vR 0), some (vI x1), some (vI x2)] [] (LR z f) = rnG call 214 F 78 [some (vR 0), some (vI x1), some (vI x2)] [vI x2, vR 18, vR 0] (LR z f) := rfl
set_option maxRecDepth 100000 in
theorem bc40_214_20 (call : QC FA) (x : Int32) (ls : List (Option PV)) (z : Nat → Int32) (f : Nat → FA) (F : Nat) : rnG call 214 (F + 1) 78 ls [vI x, vR 18, vR 0] (LR z f) = bif (Nat.beq 0 0 && pin x 96) then rnG call 214 F 79 ls [vI (f 18 (ix x)), vR 0] (LR z f) else none := rfl
set_option maxRecDepth 100000 in
theorem bc40_214_21 (call : QC FA) (x1 : Int32) (x2 : Int32) (s0 : Int32) (z : Nat → Int32) (f : Nat → FA) (F : Nat) : rnG call 214 (F + 5) 79 [some (vR 0), some (vI x1), some (vI x2)] [vI s0, vR 0] (LR z f) = rnG call 214 F 84 [some (vR 0), some (vI x1), some (vI x2)] [vI (x2 + 2), vR 18, vI s0, vR 0] (LR z f) := rfl
set_option maxRecDepth 100000 in
theorem bc40_214_22 (call : QC FA) (x : Int32) (s0 : Int32) (ls : List (Option PV)) (z : Nat → Int32) (f : Nat → FA) (F : Nat) : rnG call 214 (F + 1) 84 ls [vI x, vR 18, vI s0, vR 0] (LR z f) = bif (Nat.beq 0 0 && pin x 96) then rnG call 214 F 85 ls [vI (f 18 (ix x)), vI s0, vR 0] (LR z f) else none := rfl
set_option maxRecDepth 100000 in
theorem bc40_214_23 (call : QC FA) (a0 : Int32) (a1 : Int32) (ls : List (Option PV)) (z : Nat → Int32) (f : Nat → FA) (F : Nat) : rnG call 214 (F + 1) 85 ls [vI a1, vI a0, vR 0] (LR z f) = cbd (call 249 [vR 0, vI a0, vI a1] (LR z f)) (fun r L' => rnG call 214 F 86 ls (r.toList ++ []) L') := pcY (ih := rnG call 214 F) (call := call) (a := 249) (b := 2) (v := 12) (t := 86) (x := 0) (ls := ls) (As := [vI a0, vI a1]) (st' := []) (L := LR z f) rfl rfl rfl
set_option maxRecDepth 100000 in
theorem bc40_214_24 (call : QC FA) (x1 : Int32) (x2 : Int32) (s0 : Int32) (L : QH FA) (F : Nat) : rnG call 214 (F + 10) 86 [some (vR 0), some (vI x1), some (vI x2)] [vI s0] L = rnG call 214 F 40 [some (vR 0), some (vI (x1 + 1)), some (vI (x2 + 3))] [] L := rfl
set_option maxRecDepth 100000 in
theorem bc40_214_25 (call : QC FA) (x1 : Int32) (x2 : Int32) (L : QH FA) (F : Nat) : rnG call 214 (F + 6) 73 [some (vR 0), some (vI x1), some (vI x2)] [] L = rnG call 214 F 40 [some (vR 0), some (vI x1), some (vI (x2 + 3))] [] L := rfl
theorem vcc40_214_40 (d : Nat) (x1 : Int32) (x2 : Int32) (z : Nat → Int32) (f : Nat → FA) (res : Option PV × QH FA) (H : ((I (3 * (z 34)) ≤ I x2 → RC (mcall (d + 6)) (mP 214) 98 [some (vR 0), some (vI x1), some (vI 0)] [] (LR z f) res) ∧ (I x2 < I (3 * (z 34)) → (pin (x2 + 1) 96 = true ∧ (pin 1 499 = true ∧ ((¬ f 18 (ix (x2 + 1)) = f 1 (ix 1) → RC (mcall (d + 6)) (mP 214) 40 [some (vR 0), some (vI x1), some (vI (x2 + 3))] [] (LR z f) res) ∧ (f 18 (ix (x2 + 1)) = f 1 (ix 1) → (pin x2 96 = true ∧ (∃ (r1 : Int32) (z1 : Nat → Int32) (f1 : Nat → FA), (mcall (d + 6)) 193 [vR 0, vI (f 18 (ix x2))] (LR z f) = some (some (vI r1), LR z1 f1) ∧ ((r1 = 0 → RC (mcall (d + 6)) (mP 214) 40 [some (vR 0), some (vI x1), some (vI (x2 + 3))] [] (LR z1 f1) res) ∧ (¬ r1 = 0 → (pin x2 96 = true ∧ (∃ (r2 : Int32) (z2 : Nat → Int32) (f2 : Nat → FA), (mcall (d + 6)) 198 [vR 0, vI (f1 18 (ix x2))] (LR z1 f1) = some (some (vI r2), LR z2 f2) ∧ (∃ (r3 : Int32) (z3 : Nat → Int32) (f3 : Nat → FA), (mcall (d + 6)) 216 [vR 0, vI r2] (LR z2 f2) = some (some (vI r3), LR z3 f3) ∧ ((¬ r3 = 0 → (pin x2 96 = true ∧ (pin (x2 + 2) 96 = true ∧ (∃ (r4 : Int32) (z4 : Nat → Int32) (f4 : Nat → FA), (mcall (d + 6)) 249 [vR 0, vI (f3 18 (ix x2)), vI (f3 18 (ix (x2 + 2)))] (LR z3 f3) = some (some (vI r4), LR z4 f4) ∧ RC (mcall (d + 6)) (mP 214) 40 [some (vR 0), some (vI (x1 + 1)), some (vI (x2 + 3))] [] (LR z4 f4) res)))) ∧ (r3 = 0 → RC (mcall (d + 6)) (mP 214) 40 [some (vR 0), some (vI x1), some (vI (x2 + 3))] [] (LR z3 f3) res)))))))))))))))) : RC (mcall (d + 6)) (mP 214) 40 [some (vR 0), some (vI x1), some (vI x2)] [] (LR z f) res := by
  refine rc_b (i' := 45) (ls' := [some (vR 0), some (vI x1), some (vI x2)]) (st' := [vI (3 * (z 34)), vI x2]) (L' := LR z f) 5 (bc40_214_1 (mcall (d + 6)) x1 x2 z f) ?_
  refine rc_if (it := 96) (ie := 46) (ls' := [some (vR 0), some (vI x1), some (vI x2)]) (st' := []) (bc40_214_2 (mcall (d + 6)) x2 (3 * (z 34)) _ _) (fun q1 => ?_) (fun q1 => ?_)
  · have H := H.1 (cI3t q1 rfl rfl)
    refine rc_b (i' := 98) (ls' := [some (vR 0), some (vI x1), some (vI 0)]) (st' := []) (L' := LR z f) 2 (bc40_214_3 (mcall (d + 6)) x1 x2 _) ?_
    exact H
  · have H := H.2 (cI3f q1 rfl rfl)
    refine rc_b (i' := 51) (ls' := [some (vR 0), some (vI x1), some (vI x2)]) (st' := [vI (x2 + 1), vR 18]) (L' := LR z f) 5 (bc40_214_4 (mcall (d + 6)) x1 x2 z f) ?_
    obtain ⟨g1, H⟩ := H
    refine rc_g (i' := 52) (ls' := [some (vR 0), some (vI x1), some (vI x2)]) (st' := [vI (f 18 (ix (x2 + 1)))]) (L' := LR z f) (bc40_214_5 (mcall (d + 6)) (x2 + 1) _ z f) (pinG g1) ?_
    refine rc_b (i' := 55) (ls' := [some (vR 0), some (vI x1), some (vI x2)]) (st' := [vI 1, vR 1, vI (f 18 (ix (x2 + 1)))]) (L' := LR z f) 3 (bc40_214_6 (mcall (d + 6)) x1 x2 (f 18 (ix (x2 + 1))) z f) ?_
    obtain ⟨g1, H⟩ := H
    refine rc_g (i' := 56) (ls' := [some (vR 0), some (vI x1), some (vI x2)]) (st' := [vI (f 1 (ix 1)), vI (f 18 (ix (x2 + 1)))]) (L' := LR z f) (bc40_214_7 (mcall (d + 6)) 1 (f 18 (ix (x2 + 1))) _ z f) (pinG g1) ?_
    refine rc_if (it := 91) (ie := 57) (ls' := [some (vR 0), some (vI x1), some (vI x2)]) (st' := []) (bc40_214_8 (mcall (d + 6)) (f 18 (ix (x2 + 1))) (f 1 (ix 1)) _ _) (fun q2 => ?_) (fun q2 => ?_)
    · have H := H.1 (cI1t q2)
      refine rc_b (i' := 40) (ls' := [some (vR 0), some (vI x1), some (vI (x2 + 3))]) (st' := []) (L' := LR z f) 5 (bc40_214_9 (mcall (d + 6)) x1 x2 _) ?_
      exact H
    · have H := H.2 (cI1f q2)
      refine rc_b (i' := 61) (ls' := [some (vR 0), some (vI x1), some (vI x2)]) (st' := [vI x2, vR 18, vR 0]) (L' := LR z f) 4 (bc40_214_10 (mcall (d + 6)) x1 x2 z f) ?_
      obtain ⟨g1, H⟩ := H
      refine rc_g (i' := 62) (ls' := [some (vR 0), some (vI x1), some (vI x2)]) (st' := [vI (f 18 (ix x2)), vR 0]) (L' := LR z f) (bc40_214_11 (mcall (d + 6)) x2 _ z f) (pinG g1) ?_
      obtain ⟨r1, z1, f1, hc, H⟩ := H
      refine rc_call (t := 63) (ls' := [some (vR 0), some (vI x1), some (vI x2)]) (st' := []) (bc40_214_12 (mcall (d + 6)) (f 18 (ix x2)) _ z f) hc ?_
      show RC (mcall (d + 6)) (mP 214) 63 [some (vR 0), some (vI x1), some (vI x2)] [vI r1] (LR z1 f1) res
      refine rc_if (it := 91) (ie := 64) (ls' := [some (vR 0), some (vI x1), some (vI x2)]) (st' := []) (bc40_214_13 (mcall (d + 6)) r1 _ _) (fun q3 => ?_) (fun q3 => ?_)
      · have H := H.1 (cI0t q3)
        refine rc_b (i' := 40) (ls' := [some (vR 0), some (vI x1), some (vI (x2 + 3))]) (st' := []) (L' := LR z1 f1) 5 (bc40_214_9 (mcall (d + 6)) x1 x2 _) ?_
        exact H
      · have H := H.2 (cI0f q3)
        refine rc_b (i' := 69) (ls' := [some (vR 0), some (vI x1), some (vI x2)]) (st' := [vI x2, vR 18, vR 0, vR 0]) (L' := LR z1 f1) 5 (bc40_214_14 (mcall (d + 6)) x1 x2 z1 f1) ?_
        obtain ⟨g1, H⟩ := H
        refine rc_g (i' := 70) (ls' := [some (vR 0), some (vI x1), some (vI x2)]) (st' := [vI (f1 18 (ix x2)), vR 0, vR 0]) (L' := LR z1 f1) (bc40_214_15 (mcall (d + 6)) x2 _ z1 f1) (pinG g1) ?_
        obtain ⟨r2, z2, f2, hc, H⟩ := H
        refine rc_call (t := 71) (ls' := [some (vR 0), some (vI x1), some (vI x2)]) (st' := [vR 0]) (bc40_214_16 (mcall (d + 6)) (f1 18 (ix x2)) _ z1 f1) hc ?_
        show RC (mcall (d + 6)) (mP 214) 71 [some (vR 0), some (vI x1), some (vI x2)] [vI r2, vR 0] (LR z2 f2) res
        obtain ⟨r3, z3, f3, hc, H⟩ := H
        refine rc_call (t := 72) (ls' := [some (vR 0), some (vI x1), some (vI x2)]) (st' := []) (bc40_214_17 (mcall (d + 6)) r2 _ z2 f2) hc ?_
        show RC (mcall (d + 6)) (mP 214) 72 [some (vR 0), some (vI x1), some (vI x2)] [vI r3] (LR z3 f3) res
        refine rc_if (it := 74) (ie := 73) (ls' := [some (vR 0), some (vI x1), some (vI x2)]) (st' := []) (bc40_214_18 (mcall (d + 6)) r3 _ _) (fun q4 => ?_) (fun q4 => ?_)
        · have H := H.1 (cI1t q4)
          refine rc_b (i' := 78) (ls' := [some (vR 0), some (vI x1), some (vI x2)]) (st' := [vI x2, vR 18, vR 0]) (L' := LR z3 f3) 4 (bc40_214_19 (mcall (d + 6)) x1 x2 z3 f3) ?_
          obtain ⟨g1, H⟩ := H
          refine rc_g (i' := 79) (ls' := [some (vR 0), some (vI x1), some (vI x2)]) (st' := [vI (f3 18 (ix x2)), vR 0]) (L' := LR z3 f3) (bc40_214_20 (mcall (d + 6)) x2 _ z3 f3) (pinG g1) ?_
          refine rc_b (i' := 84) (ls' := [some (vR 0), some (vI x1), some (vI x2)]) (st' := [vI (x2 + 2), vR 18, vI (f3 18 (ix x2)), vR 0]) (L' := LR z3 f3) 5 (bc40_214_21 (mcall (d + 6)) x1 x2 (f3 18 (ix x2)) z3 f3) ?_
          obtain ⟨g1, H⟩ := H
          refine rc_g (i' := 85) (ls' := [some (vR 0), some (vI x1), some (vI x2)]) (st' := [vI (f3 18 (ix (x2 + 2))), vI (f3 18 (ix x2)), vR 0]) (L' := LR z3 f3) (bc40_214_22 (mcall (d + 6)) (x2 + 2) (f3 18 (ix x2)) _ z3 f3) (pinG g1) ?_
          obtain ⟨r4, z4, f4, hc, H⟩ := H
          refine rc_call (t := 86) (ls' := [some (vR 0), some (vI x1), some (vI x2)]) (st' := []) (bc40_214_23 (mcall (d + 6)) (f3 18 (ix x2)) (f3 18 (ix (x2 + 2))) _ z3 f3) hc ?_
          show RC (mcall (d + 6)) (mP 214) 86 [some (vR 0), some (vI x1), some (vI x2)] [vI r4] (LR z4 f4) res
          refine rc_b (i' := 40) (ls' := [some (vR 0), some (vI (x1 + 1)), some (vI (x2 + 3))]) (st' := []) (L' := LR z4 f4) 10 (bc40_214_24 (mcall (d + 6)) x1 x2 r4 _) ?_
          exact H
        · have H := H.2 (cI1f q4)
          refine rc_b (i' := 40) (ls' := [some (vR 0), some (vI x1), some (vI (x2 + 3))]) (st' := []) (L' := LR z3 f3) 6 (bc40_214_25 (mcall (d + 6)) x1 x2 _) ?_
          exact H
set_option maxRecDepth 100000 in
theorem bc98_214_1 (call : QC FA) (x1 : Int32) (x2 : Int32) (L : QH FA) (F : Nat) : rnG call 214 (F + 2) 98 [some (vR 0), some (vI x1), some (vI x2)] [] L = rnG call 214 F 100 [some (vR 0), some (vI x1), some (vI x2)] [vI 144, vI x2] L := rfl
set_option maxRecDepth 100000 in
theorem bc98_214_2 (call : QC FA) (x y : Int32) (ls : List (Option PV)) (L : QH FA) (F : Nat) : rnG call 214 (F + 1) 100 ls [vI y, vI x] L = bif pcmp 3 x y then rnG call 214 F 110 ls [] L else rnG call 214 F 101 ls [] L := rfl
set_option maxRecDepth 100000 in
theorem bc98_214_3 (call : QC FA) (x1 : Int32) (x2 : Int32) (z : Nat → Int32) (f : Nat → FA) (F : Nat) : rnG call 214 (F + 3) 110 [some (vR 0), some (vI x1), some (vI x2)] [] (LR z f) = rnG call 214 F 113 [some (vR 0), some (vI x1), some (vI x2)] [vI 1, vR 1] (LR z f) := rfl
set_option maxRecDepth 100000 in
theorem bc98_214_4 (call : QC FA) (x : Int32) (ls : List (Option PV)) (z : Nat → Int32) (f : Nat → FA) (F : Nat) : rnG call 214 (F + 1) 113 ls [vI x, vR 1] (LR z f) = bif (Nat.beq 0 0 && pin x 499) then rnG call 214 F 114 ls [vI (f 1 (ix x))] (LR z f) else none := rfl
set_option maxRecDepth 100000 in
theorem bc98_214_5 (call : QC FA) (x1 : Int32) (x2 : Int32) (s0 : Int32) (L : QH FA) (F : Nat) : rnG call 214 (F + 1) 114 [some (vR 0), some (vI x1), some (vI x2)] [vI s0] L = rnG call 214 F 115 [some (vR 0), some (vI x1), some (vI x2)] [vI 11, vI s0] L := rfl
set_option maxRecDepth 100000 in
theorem bc98_214_6 (call : QC FA) (x y : Int32) (ls : List (Option PV)) (L : QH FA) (F : Nat) : rnG call 214 (F + 1) 115 ls [vI y, vI x] L = bif pcmp 1 x y then rnG call 214 F 119 ls [] L else rnG call 214 F 116 ls [] L := rfl
set_option maxRecDepth 100000 in
theorem bc98_214_7 (call : QC FA) (x1 : Int32) (x2 : Int32) (z : Nat → Int32) (f : Nat → FA) (F : Nat) : rnG call 214 (F + 6) 119 [some (vR 0), some (vI x1), some (vI x2)] [] (LR z f) = rnG call 214 F 125 [some (vR 0), some (vI x1), some (vI x2)] [vI 1, vR 1, vI 1, vR 1] (LR z f) := rfl
set_option maxRecDepth 100000 in
theorem bc98_214_8 (call : QC FA) (x : Int32) (s0 : Int32) (ls : List (Option PV)) (z : Nat → Int32) (f : Nat → FA) (F : Nat) : rnG call 214 (F + 1) 125 ls [vI x, vR 1, vI s0, vR 1] (LR z f) = bif (Nat.beq 0 0 && pin x 499) then rnG call 214 F 126 ls [vI (f 1 (ix x)), vI s0, vR 1] (LR z f) else none := rfl
set_option maxRecDepth 100000 in
theorem bc98_214_9 (call : QC FA) (x1 : Int32) (x2 : Int32) (s0 : Int32) (s1 : Int32) (L : QH FA) (F : Nat) : rnG call 214 (F + 2) 126 [some (vR 0), some (vI x1), some (vI x2)] [vI s0, vI s1, vR 1] L = rnG call 214 F 128 [some (vR 0), some (vI x1), some (vI x2)] [vI (s0 + 1), vI s1, vR 1] L := rfl
set_option maxRecDepth 100000 in
theorem bc98_214_10 (call : QC FA) (x y : Int32) (ls : List (Option PV)) (z : Nat → Int32) (f : Nat → FA) (F : Nat) : rnG call 214 (F + 1) 128 ls [vI y, vI x, vR 1] (LR z f) = bif (Nat.beq 0 0 && pin x 499) then rnG call 214 F 129 ls [] (LR z (uA f 1 (upd (f 1) (ix x) y))) else none := rfl
set_option maxRecDepth 100000 in
theorem bc98_214_11 (call : QC FA) (x1 : Int32) (x2 : Int32) (L : QH FA) (F : Nat) : rnG call 214 (F + 1) 129 [some (vR 0), some (vI x1), some (vI x2)] [] L = rnG call 214 F 130 [some (vR 0), some (vI x1), some (vI x2)] [vI x1] L := rfl
set_option maxRecDepth 100000 in
theorem bc98_214_12 (call : QC FA) (x : Int32) (ls : List (Option PV)) (L : QH FA) (F : Nat) : rnG call 214 (F + 1) 130 ls [vI x] L = some (some (vI x), L) := rfl
set_option maxRecDepth 100000 in
theorem bc98_214_13 (call : QC FA) (x1 : Int32) (x2 : Int32) (L : QH FA) (F : Nat) : rnG call 214 (F + 1) 116 [some (vR 0), some (vI x1), some (vI x2)] [] L = rnG call 214 F 117 [some (vR 0), some (vI x1), some (vI x2)] [vR 0] L := rfl
set_option maxRecDepth 100000 in
theorem bc98_214_14 (call : QC FA) (ls : List (Option PV)) (z : Nat → Int32) (f : Nat → FA) (F : Nat) : rnG call 214 (F + 1) 117 ls [vR 0] (LR z f) = cbd (call 209 [vR 0] (LR z f)) (fun r L' => rnG call 214 F 118 ls (r.toList ++ []) L') := pcY (ih := rnG call 214 F) (call := call) (a := 209) (b := 0) (v := 12) (t := 118) (x := 0) (ls := ls) (As := []) (st' := []) (L := LR z f) rfl rfl rfl
set_option maxRecDepth 100000 in
theorem bc98_214_15 (call : QC FA) (x1 : Int32) (x2 : Int32) (L : QH FA) (F : Nat) : rnG call 214 (F + 2) 118 [some (vR 0), some (vI x1), some (vI x2)] [] L = rnG call 214 F 130 [some (vR 0), some (vI x1), some (vI x2)] [vI x1] L := rfl
set_option maxRecDepth 100000 in
theorem bc98_214_16 (call : QC FA) (x1 : Int32) (x2 : Int32) (L : QH FA) (F : Nat) : rnG call 214 (F + 2) 101 [some (vR 0), some (vI x1), some (vI x2)] [] L = rnG call 214 F 103 [some (vR 0), some (vI x1), some (vI x2)] [vI x2, vR 0] L := rfl
set_option maxRecDepth 100000 in
theorem bc98_214_17 (call : QC FA) (a0 : Int32) (ls : List (Option PV)) (z : Nat → Int32) (f : Nat → FA) (F : Nat) : rnG call 214 (F + 1) 103 ls [vI a0, vR 0] (LR z f) = cbd (call 49 [vR 0, vI a0] (LR z f)) (fun r L' => rnG call 214 F 104 ls (r.toList ++ []) L') := pcY (ih := rnG call 214 F) (call := call) (a := 49) (b := 1) (v := 12) (t := 104) (x := 0) (ls := ls) (As := [vI a0]) (st' := []) (L := LR z f) rfl rfl rfl
set_option maxRecDepth 100000 in
theorem bc98_214_18 (call : QC FA) (x : Int32) (ls : List (Option PV)) (L : QH FA) (F : Nat) : rnG call 214 (F + 1) 104 ls [vI x] L = bif pcmp 0 x 0 then rnG call 214 F 108 ls [] L else rnG call 214 F 105 ls [] L := rfl
set_option maxRecDepth 100000 in
theorem bc98_214_19 (call : QC FA) (x1 : Int32) (x2 : Int32) (L : QH FA) (F : Nat) : rnG call 214 (F + 1) 108 [some (vR 0), some (vI x1), some (vI x2)] [] L = rnG call 214 F 109 [some (vR 0), some (vI x1), some (vI (x2 + 1))] [] L := rfl
set_option maxRecDepth 100000 in
theorem bc98_214_20 (call : QC FA) (x1 : Int32) (x2 : Int32) (L : QH FA) (F : Nat) : rnG call 214 (F + 1) 109 [some (vR 0), some (vI x1), some (vI x2)] [] L = rnG call 214 F 98 [some (vR 0), some (vI x1), some (vI x2)] [] L := rfl
set_option maxRecDepth 100000 in
theorem bc98_214_21 (call : QC FA) (x1 : Int32) (x2 : Int32) (L : QH FA) (F : Nat) : rnG call 214 (F + 2) 105 [some (vR 0), some (vI x1), some (vI x2)] [] L = rnG call 214 F 107 [some (vR 0), some (vI x1), some (vI x2)] [vI x2, vR 0] L := rfl
set_option maxRecDepth 100000 in
theorem bc98_214_22 (call : QC FA) (a0 : Int32) (ls : List (Option PV)) (z : Nat → Int32) (f : Nat → FA) (F : Nat) : rnG call 214 (F + 1) 107 ls [vI a0, vR 0] (LR z f) = cbd (call 241 [vR 0, vI a0] (LR z f)) (fun r L' => rnG call 214 F 108 ls (r.toList ++ []) L') := pcY (ih := rnG call 214 F) (call := call) (a := 241) (b := 1) (v := 12) (t := 108) (x := 0) (ls := ls) (As := [vI a0]) (st' := []) (L := LR z f) rfl rfl rfl
theorem vcc98_214_98 (d : Nat) (x1 : Int32) (x2 : Int32) (z : Nat → Int32) (f : Nat → FA) (res : Option PV × QH FA) (H : ((144 ≤ I x2 → (pin 1 499 = true ∧ ((¬ f 1 (ix 1) = 11 → (pin 1 499 = true ∧ (pin 1 499 = true ∧ res = (some (vI x1), LR z (uA f 1 (upd (f 1) (ix 1) ((f 1 (ix 1)) + 1))))))) ∧ (f 1 (ix 1) = 11 → (∃ (z1 : Nat → Int32) (f1 : Nat → FA), (mcall (d + 6)) 209 [vR 0] (LR z f) = some (none, LR z1 f1) ∧ res = (some (vI x1), LR z1 f1)))))) ∧ (I x2 < 144 → (∃ (r2 : Int32) (z2 : Nat → Int32) (f2 : Nat → FA), (mcall (d + 6)) 49 [vR 0, vI x2] (LR z f) = some (some (vI r2), LR z2 f2) ∧ ((r2 = 0 → RC (mcall (d + 6)) (mP 214) 98 [some (vR 0), some (vI x1), some (vI (x2 + 1))] [] (LR z2 f2) res) ∧ (¬ r2 = 0 → (∃ (z3 : Nat → Int32) (f3 : Nat → FA), (mcall (d + 6)) 241 [vR 0, vI x2] (LR z2 f2) = some (none, LR z3 f3) ∧ RC (mcall (d + 6)) (mP 214) 98 [some (vR 0), some (vI x1), some (vI (x2 + 1))] [] (LR z3 f3) res))))))) : RC (mcall (d + 6)) (mP 214) 98 [some (vR 0), some (vI x1), some (vI x2)] [] (LR z f) res := by
  refine rc_b (i' := 100) (ls' := [some (vR 0), some (vI x1), some (vI x2)]) (st' := [vI 144, vI x2]) (L' := LR z f) 2 (bc98_214_1 (mcall (d + 6)) x1 x2 _) ?_
  refine rc_if (it := 110) (ie := 101) (ls' := [some (vR 0), some (vI x1), some (vI x2)]) (st' := []) (bc98_214_2 (mcall (d + 6)) x2 144 _ _) (fun q1 => ?_) (fun q1 => ?_)
  · have H := H.1 (cI3t q1 rfl rfl)
    refine rc_b (i' := 113) (ls' := [some (vR 0), some (vI x1), some (vI x2)]) (st' := [vI 1, vR 1]) (L' := LR z f) 3 (bc98_214_3 (mcall (d + 6)) x1 x2 z f) ?_
    obtain ⟨g1, H⟩ := H
    refine rc_g (i' := 114) (ls' := [some (vR 0), some (vI x1), some (vI x2)]) (st' := [vI (f 1 (ix 1))]) (L' := LR z f) (bc98_214_4 (mcall (d + 6)) 1 _ z f) (pinG g1) ?_
    refine rc_b (i' := 115) (ls' := [some (vR 0), some (vI x1), some (vI x2)]) (st' := [vI 11, vI (f 1 (ix 1))]) (L' := LR z f) 1 (bc98_214_5 (mcall (d + 6)) x1 x2 (f 1 (ix 1)) _) ?_
    refine rc_if (it := 119) (ie := 116) (ls' := [some (vR 0), some (vI x1), some (vI x2)]) (st' := []) (bc98_214_6 (mcall (d + 6)) (f 1 (ix 1)) 11 _ _) (fun q2 => ?_) (fun q2 => ?_)
    · have H := H.1 (cI1t q2)
      refine rc_b (i' := 125) (ls' := [some (vR 0), some (vI x1), some (vI x2)]) (st' := [vI 1, vR 1, vI 1, vR 1]) (L' := LR z f) 6 (bc98_214_7 (mcall (d + 6)) x1 x2 z f) ?_
      obtain ⟨g1, H⟩ := H
      refine rc_g (i' := 126) (ls' := [some (vR 0), some (vI x1), some (vI x2)]) (st' := [vI (f 1 (ix 1)), vI 1, vR 1]) (L' := LR z f) (bc98_214_8 (mcall (d + 6)) 1 1 _ z f) (pinG g1) ?_
      refine rc_b (i' := 128) (ls' := [some (vR 0), some (vI x1), some (vI x2)]) (st' := [vI ((f 1 (ix 1)) + 1), vI 1, vR 1]) (L' := LR z f) 2 (bc98_214_9 (mcall (d + 6)) x1 x2 (f 1 (ix 1)) 1 _) ?_
      obtain ⟨g1, H⟩ := H
      refine rc_g (i' := 129) (ls' := [some (vR 0), some (vI x1), some (vI x2)]) (st' := []) (L' := LR z (uA f 1 (upd (f 1) (ix 1) ((f 1 (ix 1)) + 1)))) (bc98_214_10 (mcall (d + 6)) 1 ((f 1 (ix 1)) + 1) _ z f) (pinG g1) ?_
      refine rc_b (i' := 130) (ls' := [some (vR 0), some (vI x1), some (vI x2)]) (st' := [vI x1]) (L' := LR z (uA f 1 (upd (f 1) (ix 1) ((f 1 (ix 1)) + 1)))) 1 (bc98_214_11 (mcall (d + 6)) x1 x2 _) ?_
      subst H
      exact rc_ret (bc98_214_12 (mcall (d + 6)) _ _ _)
    · have H := H.2 (cI1f q2)
      refine rc_b (i' := 117) (ls' := [some (vR 0), some (vI x1), some (vI x2)]) (st' := [vR 0]) (L' := LR z f) 1 (bc98_214_13 (mcall (d + 6)) x1 x2 _) ?_
      obtain ⟨z1, f1, hc, H⟩ := H
      refine rc_call (t := 118) (ls' := [some (vR 0), some (vI x1), some (vI x2)]) (st' := []) (bc98_214_14 (mcall (d + 6)) _ z f) hc ?_
      show RC (mcall (d + 6)) (mP 214) 118 [some (vR 0), some (vI x1), some (vI x2)] [] (LR z1 f1) res
      refine rc_b (i' := 130) (ls' := [some (vR 0), some (vI x1), some (vI x2)]) (st' := [vI x1]) (L' := LR z1 f1) 2 (bc98_214_15 (mcall (d + 6)) x1 x2 _) ?_
      subst H
      exact rc_ret (bc98_214_12 (mcall (d + 6)) _ _ _)
  · have H := H.2 (cI3f q1 rfl rfl)
    refine rc_b (i' := 103) (ls' := [some (vR 0), some (vI x1), some (vI x2)]) (st' := [vI x2, vR 0]) (L' := LR z f) 2 (bc98_214_16 (mcall (d + 6)) x1 x2 _) ?_
    obtain ⟨r2, z2, f2, hc, H⟩ := H
    refine rc_call (t := 104) (ls' := [some (vR 0), some (vI x1), some (vI x2)]) (st' := []) (bc98_214_17 (mcall (d + 6)) x2 _ z f) hc ?_
    show RC (mcall (d + 6)) (mP 214) 104 [some (vR 0), some (vI x1), some (vI x2)] [vI r2] (LR z2 f2) res
    refine rc_if (it := 108) (ie := 105) (ls' := [some (vR 0), some (vI x1), some (vI x2)]) (st' := []) (bc98_214_18 (mcall (d + 6)) r2 _ _) (fun q3 => ?_) (fun q3 => ?_)
    · have H := H.1 (cI0t q3)
      refine rc_b (i' := 109) (ls' := [some (vR 0), some (vI x1), some (vI (x2 + 1))]) (st' := []) (L' := LR z2 f2) 1 (bc98_214_19 (mcall (d + 6)) x1 x2 _) ?_
      refine rc_b (i' := 98) (ls' := [some (vR 0), some (vI x1), some (vI (x2 + 1))]) (st' := []) (L' := LR z2 f2) 1 (bc98_214_20 (mcall (d + 6)) x1 (x2 + 1) _) ?_
      exact H
    · have H := H.2 (cI0f q3)
      refine rc_b (i' := 107) (ls' := [some (vR 0), some (vI x1), some (vI x2)]) (st' := [vI x2, vR 0]) (L' := LR z2 f2) 2 (bc98_214_21 (mcall (d + 6)) x1 x2 _) ?_
      obtain ⟨z3, f3, hc, H⟩ := H
      refine rc_call (t := 108) (ls' := [some (vR 0), some (vI x1), some (vI x2)]) (st' := []) (bc98_214_22 (mcall (d + 6)) x2 _ z2 f2) hc ?_
      show RC (mcall (d + 6)) (mP 214) 108 [some (vR 0), some (vI x1), some (vI x2)] [] (LR z3 f3) res
      refine rc_b (i' := 109) (ls' := [some (vR 0), some (vI x1), some (vI (x2 + 1))]) (st' := []) (L' := LR z3 f3) 1 (bc98_214_19 (mcall (d + 6)) x1 x2 _) ?_
      refine rc_b (i' := 98) (ls' := [some (vR 0), some (vI x1), some (vI (x2 + 1))]) (st' := []) (L' := LR z3 f3) 1 (bc98_214_20 (mcall (d + 6)) x1 (x2 + 1) _) ?_
      exact H
theorem hld_b (x : Int32) {y : Int32} (hy : 0 < I y) : 0 ≤ I (hld x y) ∧ I (hld x y) ≤ I y := by
  unfold hld
  by_cases c : I x < 0
  · rw [if_pos c]
    exact ⟨by decide, show (0 : Int) ≤ I y by omega⟩
  · rw [if_neg c]
    by_cases c2 : I y < I x
    · rw [if_pos c2]
      omega
    · rw [if_neg c2]
      omega
theorem mk_thin : ∀ v, v < 20 → ∀ e, e < 10 → 1 < e → (nI (16 * v + e) - mkW (nI (16 * v + e)) = nI (16 * v + (e - 1)) ∧ -nI (16 * v + e) - mkW (-nI (16 * v + e)) = -nI (16 * v + (e - 1))) := by decide +kernel
theorem MR.thin {nv : Nat} {m wu wy dp : Int32} (hn : nv ≤ 20) (h : MR nv m wu wy dp) (hm : ¬ m = 0) (hd : 1 < I dp) : MR nv (m - mkW m) wu wy (dp - 1) := by
  rcases h with ⟨q, -⟩ | ⟨v, e, hv, h1, h2, rfl, rfl, h3⟩
  · exact absurd q hm
  · rw [I_nI (by omega)] at hd
    obtain ⟨k1, k2⟩ := mk_thin v (by omega) e (by omega) (by omega)
    refine Or.inr ⟨v, e - 1, hv, by omega, by omega, rfl, nI_sub (b := 1) h1, ?_⟩
    rcases h3 with ⟨rfl, rfl⟩ | ⟨rfl, rfl⟩
    · exact Or.inl ⟨rfl, k1⟩
    · exact Or.inr ⟨rfl, k2⟩
