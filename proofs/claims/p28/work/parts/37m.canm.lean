/-! candles of the reference, and the pair -/
set_option maxRecDepth 100000 in
theorem b196_1 (call : QC FA) (x1 : Int32) (x2 : Int32) (o3 : Option PV) (o4 : Option PV) (o5 : Option PV) (L : QH FA) (F : Nat) : rnG call 196 (F + 2) 0 [some (vR 0), some (vI x1), some (vI x2), o3, o4, o5] [] L = rnG call 196 F 2 [some (vR 0), some (vI x1), some (vI x2), o3, o4, o5] [vI 0, vR 0] L := rfl
set_option maxRecDepth 100000 in
theorem b196_2 (call : QC FA) (y : Int32) (ls : List (Option PV)) (z : Nat → Int32) (f : Nat → FA) (F : Nat) : rnG call 196 (F + 1) 2 ls [vI y, vR 0] (LR z f) = rnG call 196 F 3 ls [] (LR (uZ z 0 y) f) := rfl
set_option maxRecDepth 100000 in
theorem b196_3 (call : QC FA) (x1 : Int32) (x2 : Int32) (o3 : Option PV) (o4 : Option PV) (o5 : Option PV) (L : QH FA) (F : Nat) : rnG call 196 (F + 4) 3 [some (vR 0), some (vI x1), some (vI x2), o3, o4, o5] [] L = rnG call 196 F 7 [some (vR 0), some (vI x1), some (vI x2), o3, o4, o5] [vI 400, vI 0, vI x1, vR 0] L := rfl
set_option maxRecDepth 100000 in
theorem b196_4 (call : QC FA) (a0 : Int32) (a1 : Int32) (a2 : Int32) (ls : List (Option PV)) (z : Nat → Int32) (f : Nat → FA) (F : Nat) : rnG call 196 (F + 1) 7 ls [vI a2, vI a1, vI a0, vR 0] (LR z f) = cbd (call 47 [vR 0, vI a0, vI a1, vI a2] (LR z f)) (fun r L' => rnG call 196 F 8 ls (r.toList ++ []) L') := pcY (ih := rnG call 196 F) (call := call) (a := 47) (b := 3) (v := 12) (t := 8) (x := 0) (ls := ls) (As := [vI a0, vI a1, vI a2]) (st' := []) (L := LR z f) rfl rfl rfl
set_option maxRecDepth 100000 in
theorem b196_5 (call : QC FA) (x : Int32) (ls : List (Option PV)) (L : QH FA) (F : Nat) : rnG call 196 (F + 1) 8 ls [vI x] L = bif pcmp 0 x 0 then rnG call 196 F 15 ls [] L else rnG call 196 F 9 ls [] L := rfl
set_option maxRecDepth 100000 in
theorem b196_6 (call : QC FA) (x1 : Int32) (x2 : Int32) (o3 : Option PV) (o4 : Option PV) (o5 : Option PV) (L : QH FA) (F : Nat) : rnG call 196 (F + 1) 15 [some (vR 0), some (vI x1), some (vI x2), o3, o4, o5] [] L = rnG call 196 F 16 [some (vR 0), some (vI x1), some (vI x2), o3, o4, o5] [vI ((-1))] L := rfl
set_option maxRecDepth 100000 in
theorem b196_7 (call : QC FA) (x : Int32) (ls : List (Option PV)) (L : QH FA) (F : Nat) : rnG call 196 (F + 1) 16 ls [vI x] L = some (some (vI x), L) := rfl
set_option maxRecDepth 100000 in
theorem b196_8 (call : QC FA) (x1 : Int32) (x2 : Int32) (o3 : Option PV) (o4 : Option PV) (o5 : Option PV) (L : QH FA) (F : Nat) : rnG call 196 (F + 4) 9 [some (vR 0), some (vI x1), some (vI x2), o3, o4, o5] [] L = rnG call 196 F 13 [some (vR 0), some (vI x1), some (vI x2), o3, o4, o5] [vI 1, vI 0, vI x2, vR 0] L := rfl
set_option maxRecDepth 100000 in
theorem b196_9 (call : QC FA) (a0 : Int32) (a1 : Int32) (a2 : Int32) (ls : List (Option PV)) (z : Nat → Int32) (f : Nat → FA) (F : Nat) : rnG call 196 (F + 1) 13 ls [vI a2, vI a1, vI a0, vR 0] (LR z f) = cbd (call 47 [vR 0, vI a0, vI a1, vI a2] (LR z f)) (fun r L' => rnG call 196 F 14 ls (r.toList ++ []) L') := pcY (ih := rnG call 196 F) (call := call) (a := 47) (b := 3) (v := 12) (t := 14) (x := 0) (ls := ls) (As := [vI a0, vI a1, vI a2]) (st' := []) (L := LR z f) rfl rfl rfl
set_option maxRecDepth 100000 in
theorem b196_10 (call : QC FA) (x : Int32) (ls : List (Option PV)) (L : QH FA) (F : Nat) : rnG call 196 (F + 1) 14 ls [vI x] L = bif pcmp 1 x 0 then rnG call 196 F 17 ls [] L else rnG call 196 F 15 ls [] L := rfl
set_option maxRecDepth 100000 in
theorem b196_11 (call : QC FA) (x1 : Int32) (x2 : Int32) (o3 : Option PV) (o4 : Option PV) (o5 : Option PV) (L : QH FA) (F : Nat) : rnG call 196 (F + 2) 17 [some (vR 0), some (vI x1), some (vI x2), o3, o4, o5] [] L = rnG call 196 F 19 [some (vR 0), some (vI x1), some (vI x2), some (vI 0), o4, o5] [] L := rfl
theorem vc196_0 (d : Nat) (x1 : Int32) (x2 : Int32) (o3 : Option PV) (o4 : Option PV) (o5 : Option PV) (z : Nat → Int32) (f : Nat → FA) (res : Option PV × QH FA) (H : (((0 ≤ I x1 ∧ I x1 ≤ 400) → (((0 ≤ I x2 ∧ I x2 ≤ 1) → RC (mcall (d + 1)) (mP 196) 19 [some (vR 0), some (vI x1), some (vI x2), some (vI 0), o4, o5] [] (LR (uZ z 0 0) f) res) ∧ ((¬ (0 ≤ I x2 ∧ I x2 ≤ 1)) → res = (some (vI ((-1))), LR (uZ z 0 0) f)))) ∧ ((¬ (0 ≤ I x1 ∧ I x1 ≤ 400)) → res = (some (vI ((-1))), LR (uZ z 0 0) f)))) : RC (mcall (d + 1)) (mP 196) 0 [some (vR 0), some (vI x1), some (vI x2), o3, o4, o5] [] (LR z f) res := by
  refine rc_b (i' := 2) (ls' := [some (vR 0), some (vI x1), some (vI x2), o3, o4, o5]) (st' := [vI 0, vR 0]) (L' := LR z f) 2 (b196_1 (mcall (d + 1)) x1 x2 o3 o4 o5 _) ?_
  refine rc_b (i' := 3) (ls' := [some (vR 0), some (vI x1), some (vI x2), o3, o4, o5]) (st' := []) (L' := LR (uZ z 0 0) f) 1 (b196_2 (mcall (d + 1)) 0 _ z f) ?_
  refine rc_b (i' := 7) (ls' := [some (vR 0), some (vI x1), some (vI x2), o3, o4, o5]) (st' := [vI 400, vI 0, vI x1, vR 0]) (L' := LR (uZ z 0 0) f) 4 (b196_3 (mcall (d + 1)) x1 x2 o3 o4 o5 _) ?_
  refine rc_call (t := 8) (ls' := [some (vR 0), some (vI x1), some (vI x2), o3, o4, o5]) (st' := []) (b196_4 (mcall (d + 1)) x1 0 400 _ (uZ z 0 0) f) (isIn_r _ x1 0 400 (uZ z 0 0) f) ?_
  show RC (mcall (d + 1)) (mP 196) 8 [some (vR 0), some (vI x1), some (vI x2), o3, o4, o5] [vI (bI (0 ≤ I x1 ∧ I x1 ≤ 400))] (LR (uZ z 0 0) f) res
  refine rc_bz (it := 15) (ie := 9) (ls' := [some (vR 0), some (vI x1), some (vI x2), o3, o4, o5]) (st' := []) (b196_5 (mcall (d + 1)) (bI (0 ≤ I x1 ∧ I x1 ≤ 400)) _ _) (fun q1 => ?_) (fun q1 => ?_)
  · have H := H.2 q1
    refine rc_b (i' := 16) (ls' := [some (vR 0), some (vI x1), some (vI x2), o3, o4, o5]) (st' := [vI ((-1))]) (L' := LR (uZ z 0 0) f) 1 (b196_6 (mcall (d + 1)) x1 x2 o3 o4 o5 _) ?_
    subst H
    exact rc_ret (b196_7 (mcall (d + 1)) _ _ _)
  · have H := H.1 q1
    refine rc_b (i' := 13) (ls' := [some (vR 0), some (vI x1), some (vI x2), o3, o4, o5]) (st' := [vI 1, vI 0, vI x2, vR 0]) (L' := LR (uZ z 0 0) f) 4 (b196_8 (mcall (d + 1)) x1 x2 o3 o4 o5 _) ?_
    refine rc_call (t := 14) (ls' := [some (vR 0), some (vI x1), some (vI x2), o3, o4, o5]) (st' := []) (b196_9 (mcall (d + 1)) x2 0 1 _ (uZ z 0 0) f) (isIn_r _ x2 0 1 (uZ z 0 0) f) ?_
    show RC (mcall (d + 1)) (mP 196) 14 [some (vR 0), some (vI x1), some (vI x2), o3, o4, o5] [vI (bI (0 ≤ I x2 ∧ I x2 ≤ 1))] (LR (uZ z 0 0) f) res
    refine rc_bn (it := 17) (ie := 15) (ls' := [some (vR 0), some (vI x1), some (vI x2), o3, o4, o5]) (st' := []) (b196_10 (mcall (d + 1)) (bI (0 ≤ I x2 ∧ I x2 ≤ 1)) _ _) (fun q2 => ?_) (fun q2 => ?_)
    · have H := H.1 q2
      refine rc_b (i' := 19) (ls' := [some (vR 0), some (vI x1), some (vI x2), some (vI 0), o4, o5]) (st' := []) (L' := LR (uZ z 0 0) f) 2 (b196_11 (mcall (d + 1)) x1 x2 o3 o4 o5 _) ?_
      exact H
    · have H := H.2 q2
      refine rc_b (i' := 16) (ls' := [some (vR 0), some (vI x1), some (vI x2), o3, o4, o5]) (st' := [vI ((-1))]) (L' := LR (uZ z 0 0) f) 1 (b196_6 (mcall (d + 1)) x1 x2 o3 o4 o5 _) ?_
      subst H
      exact rc_ret (b196_7 (mcall (d + 1)) _ _ _)
set_option maxRecDepth 100000 in
theorem bc19_196_1 (call : QC FA) (x1 : Int32) (x2 : Int32) (x3 : Int32) (o4 : Option PV) (o5 : Option PV) (L : QH FA) (F : Nat) : rnG call 196 (F + 2) 19 [some (vR 0), some (vI x1), some (vI x2), some (vI x3), o4, o5] [] L = rnG call 196 F 21 [some (vR 0), some (vI x1), some (vI x2), some (vI x3), o4, o5] [vI 400, vI x3] L := rfl
set_option maxRecDepth 100000 in
theorem bc19_196_2 (call : QC FA) (x y : Int32) (ls : List (Option PV)) (L : QH FA) (F : Nat) : rnG call 196 (F + 1) 21 ls [vI y, vI x] L = bif pcmp 4 x y then rnG call 196 F 33 ls [] L else rnG call 196 F 22 ls [] L := rfl
set_option maxRecDepth 100000 in
theorem bc19_196_3 (call : QC FA) (x1 : Int32) (x2 : Int32) (x3 : Int32) (o4 : Option PV) (o5 : Option PV) (L : QH FA) (F : Nat) : rnG call 196 (F + 2) 33 [some (vR 0), some (vI x1), some (vI x2), some (vI x3), o4, o5] [] L = rnG call 196 F 35 [some (vR 0), some (vI x1), some (vI x2), some (vI 0), o4, o5] [] L := rfl
set_option maxRecDepth 100000 in
theorem bc19_196_4 (call : QC FA) (x1 : Int32) (x2 : Int32) (x3 : Int32) (o4 : Option PV) (o5 : Option PV) (z : Nat → Int32) (f : Nat → FA) (F : Nat) : rnG call 196 (F + 4) 22 [some (vR 0), some (vI x1), some (vI x2), some (vI x3), o4, o5] [] (LR z f) = rnG call 196 F 26 [some (vR 0), some (vI x1), some (vI x2), some (vI x3), o4, o5] [vI x3, vI x3, vR 32] (LR z f) := rfl
set_option maxRecDepth 100000 in
theorem bc19_196_5 (call : QC FA) (x : Int32) (s0 : Int32) (ls : List (Option PV)) (L : QH FA) (F : Nat) : rnG call 196 (F + 1) 26 ls [vI x, vI s0, vR 32] L = bif pcmp 1 x 0 then rnG call 196 F 29 ls [vI s0, vR 32] L else rnG call 196 F 27 ls [vI s0, vR 32] L := rfl
set_option maxRecDepth 100000 in
theorem bc19_196_6 (call : QC FA) (x1 : Int32) (x2 : Int32) (x3 : Int32) (o4 : Option PV) (o5 : Option PV) (s0 : Int32) (L : QH FA) (F : Nat) : rnG call 196 (F + 1) 29 [some (vR 0), some (vI x1), some (vI x2), some (vI x3), o4, o5] [vI s0, vR 32] L = rnG call 196 F 30 [some (vR 0), some (vI x1), some (vI x2), some (vI x3), o4, o5] [vI 0, vI s0, vR 32] L := rfl
set_option maxRecDepth 100000 in
theorem bc19_196_7 (call : QC FA) (x y : Int32) (ls : List (Option PV)) (z : Nat → Int32) (f : Nat → FA) (F : Nat) : rnG call 196 (F + 1) 30 ls [vI y, vI x, vR 32] (LR z f) = bif (Nat.beq 0 0 && pin x 401) then rnG call 196 F 31 ls [] (LR z (uA f 32 (upd (f 32) (ix x) y))) else none := rfl
set_option maxRecDepth 100000 in
theorem bc19_196_8 (call : QC FA) (x1 : Int32) (x2 : Int32) (x3 : Int32) (o4 : Option PV) (o5 : Option PV) (L : QH FA) (F : Nat) : rnG call 196 (F + 1) 31 [some (vR 0), some (vI x1), some (vI x2), some (vI x3), o4, o5] [] L = rnG call 196 F 32 [some (vR 0), some (vI x1), some (vI x2), some (vI (x3 + 1)), o4, o5] [] L := rfl
set_option maxRecDepth 100000 in
theorem bc19_196_9 (call : QC FA) (x1 : Int32) (x2 : Int32) (x3 : Int32) (o4 : Option PV) (o5 : Option PV) (L : QH FA) (F : Nat) : rnG call 196 (F + 1) 32 [some (vR 0), some (vI x1), some (vI x2), some (vI x3), o4, o5] [] L = rnG call 196 F 19 [some (vR 0), some (vI x1), some (vI x2), some (vI x3), o4, o5] [] L := rfl
set_option maxRecDepth 100000 in
theorem bc19_196_10 (call : QC FA) (x1 : Int32) (x2 : Int32) (x3 : Int32) (o4 : Option PV) (o5 : Option PV) (s0 : Int32) (L : QH FA) (F : Nat) : rnG call 196 (F + 2) 27 [some (vR 0), some (vI x1), some (vI x2), some (vI x3), o4, o5] [vI s0, vR 32] L = rnG call 196 F 30 [some (vR 0), some (vI x1), some (vI x2), some (vI x3), o4, o5] [vI 1, vI s0, vR 32] L := rfl
theorem vcc19_196_19 (d : Nat) (x1 : Int32) (x2 : Int32) (x3 : Int32) (o4 : Option PV) (o5 : Option PV) (z : Nat → Int32) (f : Nat → FA) (res : Option PV × QH FA) (H : ((400 < I x3 → RC (mcall (d + 1)) (mP 196) 35 [some (vR 0), some (vI x1), some (vI x2), some (vI 0), o4, o5] [] (LR z f) res) ∧ (I x3 ≤ 400 → ((¬ x3 = 0 → (pin x3 401 = true ∧ RC (mcall (d + 1)) (mP 196) 19 [some (vR 0), some (vI x1), some (vI x2), some (vI (x3 + 1)), o4, o5] [] (LR z (uA f 32 (upd (f 32) (ix x3) 0))) res)) ∧ (x3 = 0 → (pin x3 401 = true ∧ RC (mcall (d + 1)) (mP 196) 19 [some (vR 0), some (vI x1), some (vI x2), some (vI (x3 + 1)), o4, o5] [] (LR z (uA f 32 (upd (f 32) (ix x3) 1))) res)))))) : RC (mcall (d + 1)) (mP 196) 19 [some (vR 0), some (vI x1), some (vI x2), some (vI x3), o4, o5] [] (LR z f) res := by
  refine rc_b (i' := 21) (ls' := [some (vR 0), some (vI x1), some (vI x2), some (vI x3), o4, o5]) (st' := [vI 400, vI x3]) (L' := LR z f) 2 (bc19_196_1 (mcall (d + 1)) x1 x2 x3 o4 o5 _) ?_
  refine rc_if (it := 33) (ie := 22) (ls' := [some (vR 0), some (vI x1), some (vI x2), some (vI x3), o4, o5]) (st' := []) (bc19_196_2 (mcall (d + 1)) x3 400 _ _) (fun q1 => ?_) (fun q1 => ?_)
  · have H := H.1 (cI4t q1 rfl rfl)
    refine rc_b (i' := 35) (ls' := [some (vR 0), some (vI x1), some (vI x2), some (vI 0), o4, o5]) (st' := []) (L' := LR z f) 2 (bc19_196_3 (mcall (d + 1)) x1 x2 x3 o4 o5 _) ?_
    exact H
  · have H := H.2 (cI4f q1 rfl rfl)
    refine rc_b (i' := 26) (ls' := [some (vR 0), some (vI x1), some (vI x2), some (vI x3), o4, o5]) (st' := [vI x3, vI x3, vR 32]) (L' := LR z f) 4 (bc19_196_4 (mcall (d + 1)) x1 x2 x3 o4 o5 z f) ?_
    refine rc_if (it := 29) (ie := 27) (ls' := [some (vR 0), some (vI x1), some (vI x2), some (vI x3), o4, o5]) (st' := [vI x3, vR 32]) (bc19_196_5 (mcall (d + 1)) x3 x3 _ _) (fun q2 => ?_) (fun q2 => ?_)
    · have H := H.1 (cI1t q2)
      refine rc_b (i' := 30) (ls' := [some (vR 0), some (vI x1), some (vI x2), some (vI x3), o4, o5]) (st' := [vI 0, vI x3, vR 32]) (L' := LR z f) 1 (bc19_196_6 (mcall (d + 1)) x1 x2 x3 o4 o5 x3 _) ?_
      obtain ⟨g1, H⟩ := H
      refine rc_g (i' := 31) (ls' := [some (vR 0), some (vI x1), some (vI x2), some (vI x3), o4, o5]) (st' := []) (L' := LR z (uA f 32 (upd (f 32) (ix x3) 0))) (bc19_196_7 (mcall (d + 1)) x3 0 _ z f) (pinG g1) ?_
      refine rc_b (i' := 32) (ls' := [some (vR 0), some (vI x1), some (vI x2), some (vI (x3 + 1)), o4, o5]) (st' := []) (L' := LR z (uA f 32 (upd (f 32) (ix x3) 0))) 1 (bc19_196_8 (mcall (d + 1)) x1 x2 x3 o4 o5 _) ?_
      refine rc_b (i' := 19) (ls' := [some (vR 0), some (vI x1), some (vI x2), some (vI (x3 + 1)), o4, o5]) (st' := []) (L' := LR z (uA f 32 (upd (f 32) (ix x3) 0))) 1 (bc19_196_9 (mcall (d + 1)) x1 x2 (x3 + 1) o4 o5 _) ?_
      exact H
    · have H := H.2 (cI1f q2)
      refine rc_b (i' := 30) (ls' := [some (vR 0), some (vI x1), some (vI x2), some (vI x3), o4, o5]) (st' := [vI 1, vI x3, vR 32]) (L' := LR z f) 2 (bc19_196_10 (mcall (d + 1)) x1 x2 x3 o4 o5 x3 _) ?_
      obtain ⟨g1, H⟩ := H
      refine rc_g (i' := 31) (ls' := [some (vR 0), some (vI x1), some (vI x2), some (vI x3), o4, o5]) (st' := []) (L' := LR z (uA f 32 (upd (f 32) (ix x3) 1))) (bc19_196_7 (mcall (d + 1)) x3 1 _ z f) (pinG g1) ?_
      refine rc_b (i' := 32) (ls' := [some (vR 0), some (vI x1), some (vI x2), some (vI (x3 + 1)), o4, o5]) (st' := []) (L' := LR z (uA f 32 (upd (f 32) (ix x3) 1))) 1 (bc19_196_8 (mcall (d + 1)) x1 x2 x3 o4 o5 _) ?_
      refine rc_b (i' := 19) (ls' := [some (vR 0), some (vI x1), some (vI x2), some (vI (x3 + 1)), o4, o5]) (st' := []) (L' := LR z (uA f 32 (upd (f 32) (ix x3) 1))) 1 (bc19_196_9 (mcall (d + 1)) x1 x2 (x3 + 1) o4 o5 _) ?_
      exact H
set_option maxRecDepth 100000 in
theorem bc35_196_1 (call : QC FA) (x1 : Int32) (x2 : Int32) (x3 : Int32) (o4 : Option PV) (o5 : Option PV) (z : Nat → Int32) (f : Nat → FA) (F : Nat) : rnG call 196 (F + 3) 35 [some (vR 0), some (vI x1), some (vI x2), some (vI x3), o4, o5] [] (LR z f) = rnG call 196 F 38 [some (vR 0), some (vI x1), some (vI x2), some (vI x3), o4, o5] [vI (z 54), vI x3] (LR z f) := rfl
set_option maxRecDepth 100000 in
theorem bc35_196_2 (call : QC FA) (x y : Int32) (ls : List (Option PV)) (L : QH FA) (F : Nat) : rnG call 196 (F + 1) 38 ls [vI y, vI x] L = bif pcmp 3 x y then rnG call 196 F 67 ls [] L else rnG call 196 F 39 ls [] L := rfl
set_option maxRecDepth 100000 in
theorem bc35_196_3 (call : QC FA) (x1 : Int32) (x2 : Int32) (x3 : Int32) (o4 : Option PV) (o5 : Option PV) (L : QH FA) (F : Nat) : rnG call 196 (F + 6) 67 [some (vR 0), some (vI x1), some (vI x2), some (vI x3), o4, o5] [] L = rnG call 196 F 73 [some (vR 0), some (vI x1), some (vI x2), some (vI 0), some (vI 0), some (vI 0)] [] L := rfl
set_option maxRecDepth 100000 in
theorem bc35_196_4 (call : QC FA) (x1 : Int32) (x2 : Int32) (x3 : Int32) (o4 : Option PV) (o5 : Option PV) (L : QH FA) (F : Nat) : rnG call 196 (F + 2) 39 [some (vR 0), some (vI x1), some (vI x2), some (vI x3), o4, o5] [] L = rnG call 196 F 41 [some (vR 0), some (vI x1), some (vI x2), some (vI x3), some (vI 400), o5] [] L := rfl
theorem vcc35_196_35 (d : Nat) (x1 : Int32) (x2 : Int32) (x3 : Int32) (o4 : Option PV) (o5 : Option PV) (z : Nat → Int32) (f : Nat → FA) (res : Option PV × QH FA) (H : ((I (z 54) ≤ I x3 → RC (mcall (d + 1)) (mP 196) 73 [some (vR 0), some (vI x1), some (vI x2), some (vI 0), some (vI 0), some (vI 0)] [] (LR z f) res) ∧ (I x3 < I (z 54) → RC (mcall (d + 1)) (mP 196) 41 [some (vR 0), some (vI x1), some (vI x2), some (vI x3), some (vI 400), o5] [] (LR z f) res))) : RC (mcall (d + 1)) (mP 196) 35 [some (vR 0), some (vI x1), some (vI x2), some (vI x3), o4, o5] [] (LR z f) res := by
  refine rc_b (i' := 38) (ls' := [some (vR 0), some (vI x1), some (vI x2), some (vI x3), o4, o5]) (st' := [vI (z 54), vI x3]) (L' := LR z f) 3 (bc35_196_1 (mcall (d + 1)) x1 x2 x3 o4 o5 z f) ?_
  refine rc_if (it := 67) (ie := 39) (ls' := [some (vR 0), some (vI x1), some (vI x2), some (vI x3), o4, o5]) (st' := []) (bc35_196_2 (mcall (d + 1)) x3 (z 54) _ _) (fun q1 => ?_) (fun q1 => ?_)
  · have H := H.1 (cI3t q1 rfl rfl)
    refine rc_b (i' := 73) (ls' := [some (vR 0), some (vI x1), some (vI x2), some (vI 0), some (vI 0), some (vI 0)]) (st' := []) (L' := LR z f) 6 (bc35_196_3 (mcall (d + 1)) x1 x2 x3 o4 o5 _) ?_
    exact H
  · have H := H.2 (cI3f q1 rfl rfl)
    refine rc_b (i' := 41) (ls' := [some (vR 0), some (vI x1), some (vI x2), some (vI x3), some (vI 400), o5]) (st' := []) (L' := LR z f) 2 (bc35_196_4 (mcall (d + 1)) x1 x2 x3 o4 o5 _) ?_
    exact H
set_option maxRecDepth 100000 in
theorem bc41_196_1 (call : QC FA) (x1 : Int32) (x2 : Int32) (x3 : Int32) (x4 : Int32) (o5 : Option PV) (z : Nat → Int32) (f : Nat → FA) (F : Nat) : rnG call 196 (F + 4) 41 [some (vR 0), some (vI x1), some (vI x2), some (vI x3), some (vI x4), o5] [] (LR z f) = rnG call 196 F 45 [some (vR 0), some (vI x1), some (vI x2), some (vI x3), some (vI x4), o5] [vI x3, vR 31, vI x4] (LR z f) := rfl
set_option maxRecDepth 100000 in
theorem bc41_196_2 (call : QC FA) (x : Int32) (s0 : Int32) (ls : List (Option PV)) (z : Nat → Int32) (f : Nat → FA) (F : Nat) : rnG call 196 (F + 1) 45 ls [vI x, vR 31, vI s0] (LR z f) = bif (Nat.beq 0 0 && pin x 8) then rnG call 196 F 46 ls [vI (f 31 (ix x)), vI s0] (LR z f) else none := rfl
set_option maxRecDepth 100000 in
theorem bc41_196_3 (call : QC FA) (x y : Int32) (ls : List (Option PV)) (L : QH FA) (F : Nat) : rnG call 196 (F + 1) 46 ls [vI y, vI x] L = bif pcmp 2 x y then rnG call 196 F 65 ls [] L else rnG call 196 F 47 ls [] L := rfl
set_option maxRecDepth 100000 in
theorem bc41_196_4 (call : QC FA) (x1 : Int32) (x2 : Int32) (x3 : Int32) (x4 : Int32) (o5 : Option PV) (L : QH FA) (F : Nat) : rnG call 196 (F + 1) 65 [some (vR 0), some (vI x1), some (vI x2), some (vI x3), some (vI x4), o5] [] L = rnG call 196 F 66 [some (vR 0), some (vI x1), some (vI x2), some (vI (x3 + 1)), some (vI x4), o5] [] L := rfl
set_option maxRecDepth 100000 in
theorem bc41_196_5 (call : QC FA) (x1 : Int32) (x2 : Int32) (x3 : Int32) (x4 : Int32) (o5 : Option PV) (L : QH FA) (F : Nat) : rnG call 196 (F + 1) 66 [some (vR 0), some (vI x1), some (vI x2), some (vI x3), some (vI x4), o5] [] L = rnG call 196 F 35 [some (vR 0), some (vI x1), some (vI x2), some (vI x3), some (vI x4), o5] [] L := rfl
set_option maxRecDepth 100000 in
theorem bc41_196_6 (call : QC FA) (x1 : Int32) (x2 : Int32) (x3 : Int32) (x4 : Int32) (o5 : Option PV) (z : Nat → Int32) (f : Nat → FA) (F : Nat) : rnG call 196 (F + 6) 47 [some (vR 0), some (vI x1), some (vI x2), some (vI x3), some (vI x4), o5] [] (LR z f) = rnG call 196 F 53 [some (vR 0), some (vI x1), some (vI x2), some (vI x3), some (vI x4), o5] [vI x3, vR 31, vI x4, vR 32] (LR z f) := rfl
set_option maxRecDepth 100000 in
theorem bc41_196_7 (call : QC FA) (x : Int32) (s0 : Int32) (ls : List (Option PV)) (z : Nat → Int32) (f : Nat → FA) (F : Nat) : rnG call 196 (F + 1) 53 ls [vI x, vR 31, vI s0, vR 32] (LR z f) = bif (Nat.beq 0 0 && pin x 8) then rnG call 196 F 54 ls [vI (f 31 (ix x)), vI s0, vR 32] (LR z f) else none := rfl
set_option maxRecDepth 100000 in
theorem bc41_196_8 (call : QC FA) (x1 : Int32) (x2 : Int32) (x3 : Int32) (x4 : Int32) (o5 : Option PV) (s0 : Int32) (s1 : Int32) (L : QH FA) (F : Nat) : rnG call 196 (F + 1) 54 [some (vR 0), some (vI x1), some (vI x2), some (vI x3), some (vI x4), o5] [vI s0, vI s1, vR 32] L = rnG call 196 F 55 [some (vR 0), some (vI x1), some (vI x2), some (vI x3), some (vI x4), o5] [vI (s1 - s0), vR 32] L := rfl
set_option maxRecDepth 100000 in
theorem bc41_196_9 (call : QC FA) (x : Int32) (ls : List (Option PV)) (z : Nat → Int32) (f : Nat → FA) (F : Nat) : rnG call 196 (F + 1) 55 ls [vI x, vR 32] (LR z f) = bif (Nat.beq 0 0 && pin x 401) then rnG call 196 F 56 ls [vI (f 32 (ix x))] (LR z f) else none := rfl
set_option maxRecDepth 100000 in
theorem bc41_196_10 (call : QC FA) (x1 : Int32) (x2 : Int32) (x3 : Int32) (x4 : Int32) (o5 : Option PV) (s0 : Int32) (L : QH FA) (F : Nat) : rnG call 196 (F + 1) 56 [some (vR 0), some (vI x1), some (vI x2), some (vI x3), some (vI x4), o5] [vI s0] L = rnG call 196 F 57 [some (vR 0), some (vI x1), some (vI x2), some (vI x3), some (vI x4), o5] [vI 1, vI s0] L := rfl
set_option maxRecDepth 100000 in
theorem bc41_196_11 (call : QC FA) (x y : Int32) (ls : List (Option PV)) (L : QH FA) (F : Nat) : rnG call 196 (F + 1) 57 ls [vI y, vI x] L = bif pcmp 1 x y then rnG call 196 F 63 ls [] L else rnG call 196 F 58 ls [] L := rfl
theorem bc41_196_12i (ih : QK FA) (t : Nat) (v x : Int32) (l0 l1 l2 l3 l5 : Option PV) (st : List PV) (L : QH FA) : p_iinc ih fzF 4 v t [l0, l1, l2, l3, some (vI x), l5] st L = ih t [l0, l1, l2, l3, some (vI (x + v)), l5] st L := rfl
set_option maxRecDepth 100000 in
theorem bc41_196_12 (call : QC FA) (x1 : Int32) (x2 : Int32) (x3 : Int32) (x4 : Int32) (o5 : Option PV) (L : QH FA) (F : Nat) : rnG call 196 (F + 1) 63 [some (vR 0), some (vI x1), some (vI x2), some (vI x3), some (vI x4), o5] [] L = rnG call 196 F 64 [some (vR 0), some (vI x1), some (vI x2), some (vI x3), some (vI (x4 + (-1))), o5] [] L := bc41_196_12i (rnG call 196 F) 64 (-1) x4 _ _ _ _ _ _ _
set_option maxRecDepth 100000 in
theorem bc41_196_13 (call : QC FA) (x1 : Int32) (x2 : Int32) (x3 : Int32) (x4 : Int32) (o5 : Option PV) (L : QH FA) (F : Nat) : rnG call 196 (F + 1) 64 [some (vR 0), some (vI x1), some (vI x2), some (vI x3), some (vI x4), o5] [] L = rnG call 196 F 41 [some (vR 0), some (vI x1), some (vI x2), some (vI x3), some (vI x4), o5] [] L := rfl
set_option maxRecDepth 100000 in
theorem bc41_196_14 (call : QC FA) (x1 : Int32) (x2 : Int32) (x3 : Int32) (x4 : Int32) (o5 : Option PV) (z : Nat → Int32) (f : Nat → FA) (F : Nat) : rnG call 196 (F + 4) 58 [some (vR 0), some (vI x1), some (vI x2), some (vI x3), some (vI x4), o5] [] (LR z f) = rnG call 196 F 62 [some (vR 0), some (vI x1), some (vI x2), some (vI x3), some (vI x4), o5] [vI 1, vI x4, vR 32] (LR z f) := rfl
set_option maxRecDepth 100000 in
theorem bc41_196_15 (call : QC FA) (x y : Int32) (ls : List (Option PV)) (z : Nat → Int32) (f : Nat → FA) (F : Nat) : rnG call 196 (F + 1) 62 ls [vI y, vI x, vR 32] (LR z f) = bif (Nat.beq 0 0 && pin x 401) then rnG call 196 F 63 ls [] (LR z (uA f 32 (upd (f 32) (ix x) y))) else none := rfl
theorem vcc41_196_41 (d : Nat) (x1 : Int32) (x2 : Int32) (x3 : Int32) (x4 : Int32) (o5 : Option PV) (z : Nat → Int32) (f : Nat → FA) (res : Option PV × QH FA) (H : (pin x3 8 = true ∧ ((I x4 < I (f 31 (ix x3)) → RC (mcall (d + 1)) (mP 196) 35 [some (vR 0), some (vI x1), some (vI x2), some (vI (x3 + 1)), some (vI x4), o5] [] (LR z f) res) ∧ (I (f 31 (ix x3)) ≤ I x4 → (pin x3 8 = true ∧ (pin (x4 - (f 31 (ix x3))) 401 = true ∧ ((¬ f 32 (ix (x4 - (f 31 (ix x3)))) = 1 → RC (mcall (d + 1)) (mP 196) 41 [some (vR 0), some (vI x1), some (vI x2), some (vI x3), some (vI (x4 + (-1))), o5] [] (LR z f) res) ∧ (f 32 (ix (x4 - (f 31 (ix x3)))) = 1 → (pin x4 401 = true ∧ RC (mcall (d + 1)) (mP 196) 41 [some (vR 0), some (vI x1), some (vI x2), some (vI x3), some (vI (x4 + (-1))), o5] [] (LR z (uA f 32 (upd (f 32) (ix x4) 1))) res))))))))) : RC (mcall (d + 1)) (mP 196) 41 [some (vR 0), some (vI x1), some (vI x2), some (vI x3), some (vI x4), o5] [] (LR z f) res := by
  refine rc_b (i' := 45) (ls' := [some (vR 0), some (vI x1), some (vI x2), some (vI x3), some (vI x4), o5]) (st' := [vI x3, vR 31, vI x4]) (L' := LR z f) 4 (bc41_196_1 (mcall (d + 1)) x1 x2 x3 x4 o5 z f) ?_
  obtain ⟨g1, H⟩ := H
  refine rc_g (i' := 46) (ls' := [some (vR 0), some (vI x1), some (vI x2), some (vI x3), some (vI x4), o5]) (st' := [vI (f 31 (ix x3)), vI x4]) (L' := LR z f) (bc41_196_2 (mcall (d + 1)) x3 x4 _ z f) (pinG g1) ?_
  refine rc_if (it := 65) (ie := 47) (ls' := [some (vR 0), some (vI x1), some (vI x2), some (vI x3), some (vI x4), o5]) (st' := []) (bc41_196_3 (mcall (d + 1)) x4 (f 31 (ix x3)) _ _) (fun q1 => ?_) (fun q1 => ?_)
  · have H := H.1 (cI2t q1 rfl rfl)
    refine rc_b (i' := 66) (ls' := [some (vR 0), some (vI x1), some (vI x2), some (vI (x3 + 1)), some (vI x4), o5]) (st' := []) (L' := LR z f) 1 (bc41_196_4 (mcall (d + 1)) x1 x2 x3 x4 o5 _) ?_
    refine rc_b (i' := 35) (ls' := [some (vR 0), some (vI x1), some (vI x2), some (vI (x3 + 1)), some (vI x4), o5]) (st' := []) (L' := LR z f) 1 (bc41_196_5 (mcall (d + 1)) x1 x2 (x3 + 1) x4 o5 _) ?_
    exact H
  · have H := H.2 (cI2f q1 rfl rfl)
    refine rc_b (i' := 53) (ls' := [some (vR 0), some (vI x1), some (vI x2), some (vI x3), some (vI x4), o5]) (st' := [vI x3, vR 31, vI x4, vR 32]) (L' := LR z f) 6 (bc41_196_6 (mcall (d + 1)) x1 x2 x3 x4 o5 z f) ?_
    obtain ⟨g1, H⟩ := H
    refine rc_g (i' := 54) (ls' := [some (vR 0), some (vI x1), some (vI x2), some (vI x3), some (vI x4), o5]) (st' := [vI (f 31 (ix x3)), vI x4, vR 32]) (L' := LR z f) (bc41_196_7 (mcall (d + 1)) x3 x4 _ z f) (pinG g1) ?_
    refine rc_b (i' := 55) (ls' := [some (vR 0), some (vI x1), some (vI x2), some (vI x3), some (vI x4), o5]) (st' := [vI (x4 - (f 31 (ix x3))), vR 32]) (L' := LR z f) 1 (bc41_196_8 (mcall (d + 1)) x1 x2 x3 x4 o5 (f 31 (ix x3)) x4 _) ?_
    obtain ⟨g1, H⟩ := H
    refine rc_g (i' := 56) (ls' := [some (vR 0), some (vI x1), some (vI x2), some (vI x3), some (vI x4), o5]) (st' := [vI (f 32 (ix (x4 - (f 31 (ix x3)))))]) (L' := LR z f) (bc41_196_9 (mcall (d + 1)) (x4 - (f 31 (ix x3))) _ z f) (pinG g1) ?_
    refine rc_b (i' := 57) (ls' := [some (vR 0), some (vI x1), some (vI x2), some (vI x3), some (vI x4), o5]) (st' := [vI 1, vI (f 32 (ix (x4 - (f 31 (ix x3)))))]) (L' := LR z f) 1 (bc41_196_10 (mcall (d + 1)) x1 x2 x3 x4 o5 (f 32 (ix (x4 - (f 31 (ix x3))))) _) ?_
    refine rc_if (it := 63) (ie := 58) (ls' := [some (vR 0), some (vI x1), some (vI x2), some (vI x3), some (vI x4), o5]) (st' := []) (bc41_196_11 (mcall (d + 1)) (f 32 (ix (x4 - (f 31 (ix x3))))) 1 _ _) (fun q2 => ?_) (fun q2 => ?_)
    · have H := H.1 (cI1t q2)
      refine rc_b (i' := 64) (ls' := [some (vR 0), some (vI x1), some (vI x2), some (vI x3), some (vI (x4 + (-1))), o5]) (st' := []) (L' := LR z f) 1 (bc41_196_12 (mcall (d + 1)) x1 x2 x3 x4 o5 _) ?_
      refine rc_b (i' := 41) (ls' := [some (vR 0), some (vI x1), some (vI x2), some (vI x3), some (vI (x4 + (-1))), o5]) (st' := []) (L' := LR z f) 1 (bc41_196_13 (mcall (d + 1)) x1 x2 x3 (x4 + (-1)) o5 _) ?_
      exact H
    · have H := H.2 (cI1f q2)
      refine rc_b (i' := 62) (ls' := [some (vR 0), some (vI x1), some (vI x2), some (vI x3), some (vI x4), o5]) (st' := [vI 1, vI x4, vR 32]) (L' := LR z f) 4 (bc41_196_14 (mcall (d + 1)) x1 x2 x3 x4 o5 z f) ?_
      obtain ⟨g1, H⟩ := H
      refine rc_g (i' := 63) (ls' := [some (vR 0), some (vI x1), some (vI x2), some (vI x3), some (vI x4), o5]) (st' := []) (L' := LR z (uA f 32 (upd (f 32) (ix x4) 1))) (bc41_196_15 (mcall (d + 1)) x4 1 _ z f) (pinG g1) ?_
      refine rc_b (i' := 64) (ls' := [some (vR 0), some (vI x1), some (vI x2), some (vI x3), some (vI (x4 + (-1))), o5]) (st' := []) (L' := LR z (uA f 32 (upd (f 32) (ix x4) 1))) 1 (bc41_196_12 (mcall (d + 1)) x1 x2 x3 x4 o5 _) ?_
      refine rc_b (i' := 41) (ls' := [some (vR 0), some (vI x1), some (vI x2), some (vI x3), some (vI (x4 + (-1))), o5]) (st' := []) (L' := LR z (uA f 32 (upd (f 32) (ix x4) 1))) 1 (bc41_196_13 (mcall (d + 1)) x1 x2 x3 (x4 + (-1)) o5 _) ?_
      exact H
set_option maxRecDepth 100000 in
theorem bc73_196_1 (call : QC FA) (x1 : Int32) (x2 : Int32) (x3 : Int32) (x4 : Int32) (x5 : Int32) (L : QH FA) (F : Nat) : rnG call 196 (F + 2) 73 [some (vR 0), some (vI x1), some (vI x2), some (vI x3), some (vI x4), some (vI x5)] [] L = rnG call 196 F 75 [some (vR 0), some (vI x1), some (vI x2), some (vI x3), some (vI x4), some (vI x5)] [vI x1, vI x5] L := rfl
set_option maxRecDepth 100000 in
theorem bc73_196_2 (call : QC FA) (x y : Int32) (ls : List (Option PV)) (L : QH FA) (F : Nat) : rnG call 196 (F + 1) 75 ls [vI y, vI x] L = bif pcmp 4 x y then rnG call 196 F 93 ls [] L else rnG call 196 F 76 ls [] L := rfl
set_option maxRecDepth 100000 in
theorem bc73_196_3 (call : QC FA) (x1 : Int32) (x2 : Int32) (x3 : Int32) (x4 : Int32) (x5 : Int32) (L : QH FA) (F : Nat) : rnG call 196 (F + 1) 93 [some (vR 0), some (vI x1), some (vI x2), some (vI x3), some (vI x4), some (vI x5)] [] L = rnG call 196 F 94 [some (vR 0), some (vI x1), some (vI x2), some (vI x3), some (vI x4), some (vI x5)] [vI x2] L := rfl
set_option maxRecDepth 100000 in
theorem bc73_196_4 (call : QC FA) (x : Int32) (ls : List (Option PV)) (L : QH FA) (F : Nat) : rnG call 196 (F + 1) 94 ls [vI x] L = bif pcmp 1 x 0 then rnG call 196 F 97 ls [] L else rnG call 196 F 95 ls [] L := rfl
set_option maxRecDepth 100000 in
theorem bc73_196_5 (call : QC FA) (x1 : Int32) (x2 : Int32) (x3 : Int32) (x4 : Int32) (x5 : Int32) (L : QH FA) (F : Nat) : rnG call 196 (F + 1) 97 [some (vR 0), some (vI x1), some (vI x2), some (vI x3), some (vI x4), some (vI x5)] [] L = rnG call 196 F 98 [some (vR 0), some (vI x1), some (vI x2), some (vI x3), some (vI x4), some (vI x5)] [vI x4] L := rfl
set_option maxRecDepth 100000 in
theorem bc73_196_6 (call : QC FA) (x : Int32) (ls : List (Option PV)) (L : QH FA) (F : Nat) : rnG call 196 (F + 1) 98 ls [vI x] L = some (some (vI x), L) := rfl
set_option maxRecDepth 100000 in
theorem bc73_196_7 (call : QC FA) (x1 : Int32) (x2 : Int32) (x3 : Int32) (x4 : Int32) (x5 : Int32) (L : QH FA) (F : Nat) : rnG call 196 (F + 2) 95 [some (vR 0), some (vI x1), some (vI x2), some (vI x3), some (vI x4), some (vI x5)] [] L = rnG call 196 F 98 [some (vR 0), some (vI x1), some (vI x2), some (vI x3), some (vI x4), some (vI x5)] [vI x3] L := rfl
set_option maxRecDepth 100000 in
theorem bc73_196_8 (call : QC FA) (x1 : Int32) (x2 : Int32) (x3 : Int32) (x4 : Int32) (x5 : Int32) (z : Nat → Int32) (f : Nat → FA) (F : Nat) : rnG call 196 (F + 4) 76 [some (vR 0), some (vI x1), some (vI x2), some (vI x3), some (vI x4), some (vI x5)] [] (LR z f) = rnG call 196 F 80 [some (vR 0), some (vI x1), some (vI x2), some (vI x3), some (vI x4), some (vI x5)] [vI x5, vR 32, vI x3] (LR z f) := rfl
set_option maxRecDepth 100000 in
theorem bc73_196_9 (call : QC FA) (x : Int32) (s0 : Int32) (ls : List (Option PV)) (z : Nat → Int32) (f : Nat → FA) (F : Nat) : rnG call 196 (F + 1) 80 ls [vI x, vR 32, vI s0] (LR z f) = bif (Nat.beq 0 0 && pin x 401) then rnG call 196 F 81 ls [vI (f 32 (ix x)), vI s0] (LR z f) else none := rfl
set_option maxRecDepth 100000 in
theorem bc73_196_10 (call : QC FA) (x1 : Int32) (x2 : Int32) (x3 : Int32) (x4 : Int32) (x5 : Int32) (s0 : Int32) (s1 : Int32) (z : Nat → Int32) (f : Nat → FA) (F : Nat) : rnG call 196 (F + 5) 81 [some (vR 0), some (vI x1), some (vI x2), some (vI x3), some (vI x4), some (vI x5)] [vI s0, vI s1] (LR z f) = rnG call 196 F 86 [some (vR 0), some (vI x1), some (vI x2), some (vI (s1 + s0)), some (vI x4), some (vI x5)] [vI x5, vR 32] (LR z f) := rfl
set_option maxRecDepth 100000 in
theorem bc73_196_11 (call : QC FA) (x : Int32) (ls : List (Option PV)) (z : Nat → Int32) (f : Nat → FA) (F : Nat) : rnG call 196 (F + 1) 86 ls [vI x, vR 32] (LR z f) = bif (Nat.beq 0 0 && pin x 401) then rnG call 196 F 87 ls [vI (f 32 (ix x))] (LR z f) else none := rfl
set_option maxRecDepth 100000 in
theorem bc73_196_12 (call : QC FA) (x1 : Int32) (x2 : Int32) (x3 : Int32) (x4 : Int32) (x5 : Int32) (s0 : Int32) (L : QH FA) (F : Nat) : rnG call 196 (F + 1) 87 [some (vR 0), some (vI x1), some (vI x2), some (vI x3), some (vI x4), some (vI x5)] [vI s0] L = rnG call 196 F 88 [some (vR 0), some (vI x1), some (vI x2), some (vI x3), some (vI x4), some (vI x5)] [vI 1, vI s0] L := rfl
set_option maxRecDepth 100000 in
theorem bc73_196_13 (call : QC FA) (x y : Int32) (ls : List (Option PV)) (L : QH FA) (F : Nat) : rnG call 196 (F + 1) 88 ls [vI y, vI x] L = bif pcmp 1 x y then rnG call 196 F 91 ls [] L else rnG call 196 F 89 ls [] L := rfl
set_option maxRecDepth 100000 in
theorem bc73_196_14 (call : QC FA) (x1 : Int32) (x2 : Int32) (x3 : Int32) (x4 : Int32) (x5 : Int32) (L : QH FA) (F : Nat) : rnG call 196 (F + 1) 91 [some (vR 0), some (vI x1), some (vI x2), some (vI x3), some (vI x4), some (vI x5)] [] L = rnG call 196 F 92 [some (vR 0), some (vI x1), some (vI x2), some (vI x3), some (vI x4), some (vI (x5 + 1))] [] L := rfl
set_option maxRecDepth 100000 in
theorem bc73_196_15 (call : QC FA) (x1 : Int32) (x2 : Int32) (x3 : Int32) (x4 : Int32) (x5 : Int32) (L : QH FA) (F : Nat) : rnG call 196 (F + 1) 92 [some (vR 0), some (vI x1), some (vI x2), some (vI x3), some (vI x4), some (vI x5)] [] L = rnG call 196 F 73 [some (vR 0), some (vI x1), some (vI x2), some (vI x3), some (vI x4), some (vI x5)] [] L := rfl
set_option maxRecDepth 100000 in
theorem bc73_196_16 (call : QC FA) (x1 : Int32) (x2 : Int32) (x3 : Int32) (x4 : Int32) (x5 : Int32) (L : QH FA) (F : Nat) : rnG call 196 (F + 2) 89 [some (vR 0), some (vI x1), some (vI x2), some (vI x3), some (vI x4), some (vI x5)] [] L = rnG call 196 F 91 [some (vR 0), some (vI x1), some (vI x2), some (vI x3), some (vI x5), some (vI x5)] [] L := rfl
theorem vcc73_196_73 (d : Nat) (x1 : Int32) (x2 : Int32) (x3 : Int32) (x4 : Int32) (x5 : Int32) (z : Nat → Int32) (f : Nat → FA) (res : Option PV × QH FA) (H : ((I x1 < I x5 → ((¬ x2 = 0 → res = (some (vI x4), LR z f)) ∧ (x2 = 0 → res = (some (vI x3), LR z f)))) ∧ (I x5 ≤ I x1 → (pin x5 401 = true ∧ (pin x5 401 = true ∧ ((¬ f 32 (ix x5) = 1 → RC (mcall (d + 1)) (mP 196) 73 [some (vR 0), some (vI x1), some (vI x2), some (vI (x3 + (f 32 (ix x5)))), some (vI x4), some (vI (x5 + 1))] [] (LR z f) res) ∧ (f 32 (ix x5) = 1 → RC (mcall (d + 1)) (mP 196) 73 [some (vR 0), some (vI x1), some (vI x2), some (vI (x3 + (f 32 (ix x5)))), some (vI x5), some (vI (x5 + 1))] [] (LR z f) res))))))) : RC (mcall (d + 1)) (mP 196) 73 [some (vR 0), some (vI x1), some (vI x2), some (vI x3), some (vI x4), some (vI x5)] [] (LR z f) res := by
  refine rc_b (i' := 75) (ls' := [some (vR 0), some (vI x1), some (vI x2), some (vI x3), some (vI x4), some (vI x5)]) (st' := [vI x1, vI x5]) (L' := LR z f) 2 (bc73_196_1 (mcall (d + 1)) x1 x2 x3 x4 x5 _) ?_
  refine rc_if (it := 93) (ie := 76) (ls' := [some (vR 0), some (vI x1), some (vI x2), some (vI x3), some (vI x4), some (vI x5)]) (st' := []) (bc73_196_2 (mcall (d + 1)) x5 x1 _ _) (fun q1 => ?_) (fun q1 => ?_)
  · have H := H.1 (cI4t q1 rfl rfl)
    refine rc_b (i' := 94) (ls' := [some (vR 0), some (vI x1), some (vI x2), some (vI x3), some (vI x4), some (vI x5)]) (st' := [vI x2]) (L' := LR z f) 1 (bc73_196_3 (mcall (d + 1)) x1 x2 x3 x4 x5 _) ?_
    refine rc_if (it := 97) (ie := 95) (ls' := [some (vR 0), some (vI x1), some (vI x2), some (vI x3), some (vI x4), some (vI x5)]) (st' := []) (bc73_196_4 (mcall (d + 1)) x2 _ _) (fun q2 => ?_) (fun q2 => ?_)
    · have H := H.1 (cI1t q2)
      refine rc_b (i' := 98) (ls' := [some (vR 0), some (vI x1), some (vI x2), some (vI x3), some (vI x4), some (vI x5)]) (st' := [vI x4]) (L' := LR z f) 1 (bc73_196_5 (mcall (d + 1)) x1 x2 x3 x4 x5 _) ?_
      subst H
      exact rc_ret (bc73_196_6 (mcall (d + 1)) _ _ _)
    · have H := H.2 (cI1f q2)
      refine rc_b (i' := 98) (ls' := [some (vR 0), some (vI x1), some (vI x2), some (vI x3), some (vI x4), some (vI x5)]) (st' := [vI x3]) (L' := LR z f) 2 (bc73_196_7 (mcall (d + 1)) x1 x2 x3 x4 x5 _) ?_
      subst H
      exact rc_ret (bc73_196_6 (mcall (d + 1)) _ _ _)
  · have H := H.2 (cI4f q1 rfl rfl)
    refine rc_b (i' := 80) (ls' := [some (vR 0), some (vI x1), some (vI x2), some (vI x3), some (vI x4), some (vI x5)]) (st' := [vI x5, vR 32, vI x3]) (L' := LR z f) 4 (bc73_196_8 (mcall (d + 1)) x1 x2 x3 x4 x5 z f) ?_
    obtain ⟨g1, H⟩ := H
    refine rc_g (i' := 81) (ls' := [some (vR 0), some (vI x1), some (vI x2), some (vI x3), some (vI x4), some (vI x5)]) (st' := [vI (f 32 (ix x5)), vI x3]) (L' := LR z f) (bc73_196_9 (mcall (d + 1)) x5 x3 _ z f) (pinG g1) ?_
    refine rc_b (i' := 86) (ls' := [some (vR 0), some (vI x1), some (vI x2), some (vI (x3 + (f 32 (ix x5)))), some (vI x4), some (vI x5)]) (st' := [vI x5, vR 32]) (L' := LR z f) 5 (bc73_196_10 (mcall (d + 1)) x1 x2 x3 x4 x5 (f 32 (ix x5)) x3 z f) ?_
    obtain ⟨g1, H⟩ := H
    refine rc_g (i' := 87) (ls' := [some (vR 0), some (vI x1), some (vI x2), some (vI (x3 + (f 32 (ix x5)))), some (vI x4), some (vI x5)]) (st' := [vI (f 32 (ix x5))]) (L' := LR z f) (bc73_196_11 (mcall (d + 1)) x5 _ z f) (pinG g1) ?_
    refine rc_b (i' := 88) (ls' := [some (vR 0), some (vI x1), some (vI x2), some (vI (x3 + (f 32 (ix x5)))), some (vI x4), some (vI x5)]) (st' := [vI 1, vI (f 32 (ix x5))]) (L' := LR z f) 1 (bc73_196_12 (mcall (d + 1)) x1 x2 (x3 + (f 32 (ix x5))) x4 x5 (f 32 (ix x5)) _) ?_
    refine rc_if (it := 91) (ie := 89) (ls' := [some (vR 0), some (vI x1), some (vI x2), some (vI (x3 + (f 32 (ix x5)))), some (vI x4), some (vI x5)]) (st' := []) (bc73_196_13 (mcall (d + 1)) (f 32 (ix x5)) 1 _ _) (fun q3 => ?_) (fun q3 => ?_)
    · have H := H.1 (cI1t q3)
      refine rc_b (i' := 92) (ls' := [some (vR 0), some (vI x1), some (vI x2), some (vI (x3 + (f 32 (ix x5)))), some (vI x4), some (vI (x5 + 1))]) (st' := []) (L' := LR z f) 1 (bc73_196_14 (mcall (d + 1)) x1 x2 (x3 + (f 32 (ix x5))) x4 x5 _) ?_
      refine rc_b (i' := 73) (ls' := [some (vR 0), some (vI x1), some (vI x2), some (vI (x3 + (f 32 (ix x5)))), some (vI x4), some (vI (x5 + 1))]) (st' := []) (L' := LR z f) 1 (bc73_196_15 (mcall (d + 1)) x1 x2 (x3 + (f 32 (ix x5))) x4 (x5 + 1) _) ?_
      exact H
    · have H := H.2 (cI1f q3)
      refine rc_b (i' := 91) (ls' := [some (vR 0), some (vI x1), some (vI x2), some (vI (x3 + (f 32 (ix x5)))), some (vI x5), some (vI x5)]) (st' := []) (L' := LR z f) 2 (bc73_196_16 (mcall (d + 1)) x1 x2 (x3 + (f 32 (ix x5))) x4 x5 _) ?_
      refine rc_b (i' := 92) (ls' := [some (vR 0), some (vI x1), some (vI x2), some (vI (x3 + (f 32 (ix x5)))), some (vI x5), some (vI (x5 + 1))]) (st' := []) (L' := LR z f) 1 (bc73_196_14 (mcall (d + 1)) x1 x2 (x3 + (f 32 (ix x5))) x5 x5 _) ?_
      refine rc_b (i' := 73) (ls' := [some (vR 0), some (vI x1), some (vI x2), some (vI (x3 + (f 32 (ix x5)))), some (vI x5), some (vI (x5 + 1))]) (st' := []) (L' := LR z f) 1 (bc73_196_15 (mcall (d + 1)) x1 x2 (x3 + (f 32 (ix x5))) x5 (x5 + 1) _) ?_
      exact H
theorem ml19 (d : Nat) (x1 x2 : Int32) (o4 o5 : Option PV) (z : Nat → Int32) (f : Nat → FA) : ∀ t v, v + t = 401 → ∀ g, (∀ j, j < v → g j = if decide (j = 0) = true then 1 else 0) → ∃ g', RowB g' (fun j => decide (j = 0)) ∧ ∀ res, RC (mcall (d + 1)) (mP 196) 35 [some (vR 0), some (vI x1), some (vI x2), some (vI 0), o4, o5] [] (LR z (uA f 32 g')) res → RC (mcall (d + 1)) (mP 196) 19 [some (vR 0), some (vI x1), some (vI x2), some (vI (nI v)), o4, o5] [] (LR z (uA f 32 g)) res := by
  intro t
  induction t with
  | zero =>
    intro v hv g hg
    obtain rfl : v = 401 := by omega
    refine ⟨g, fun j hj => hg j (by omega), fun res h => vcc19_196_19 d _ _ _ _ _ _ _ _ ⟨fun _ => h, fun q => ?_⟩⟩
    rw [I_nI (n := 401) (by omega)] at q
    omega
  | succ t ih =>
    intro v hv g hg
    obtain ⟨g', k1, k2⟩ := ih (v + 1) (by omega) (upd g v (if decide (v = 0) = true then 1 else 0)) (fun j hj => by
      by_cases q : j = v
      · subst q
        rw [pk_us]
      · rw [pk_un q]
        exact hg j (by omega))
    rw [← nI_add v 1] at k2
    refine ⟨g', k1, fun res h => vcc19_196_19 d _ _ _ _ _ _ _ _ ⟨fun q => ?_, fun _ => ⟨fun q => ⟨pin_nI (by omega) (by omega), ?_⟩, fun q => ⟨pin_nI (by omega) (by omega), ?_⟩⟩⟩⟩
    · rw [I_nI (n := v) (by omega)] at q
      omega
    · have h0 : ¬ v = 0 := fun c => q (by rw [c]; rfl)
      have h2 := k2 res h
      rw [if_neg (by simpa using h0)] at h2
      rw [ix_nI (j := v) (by omega), uA_uA, uA_self]
      exact h2
    · have h0 : v = 0 := nI_inj (by omega) (by omega) (show nI v = nI 0 from q)
      have h2 := k2 res h
      rw [if_pos (by simpa using h0)] at h2
      rw [ix_nI (j := v) (by omega), uA_uA, uA_self]
      exact h2
theorem ml41 (d : Nat) (x1 x2 : Int32) (o5 : Option PV) {z : Nat → Int32} {f : Nat → FA} (k e : Nat) (hk : k < 8) (he : f 31 k = nI e) (e4 : e ≤ 400) (b : Nat → Bool) (h1 : 1 ≤ e) : ∀ t v, v + 1 = e + t → v ≤ 400 → ∀ g, RowB g (stq b e v) → ∃ g' o4, RowB g' (stq b e (e - 1)) ∧ ∀ res, RC (mcall (d + 1)) (mP 196) 35 [some (vR 0), some (vI x1), some (vI x2), some (vI (nI (k + 1))), o4, o5] [] (LR z (uA f 32 g')) res → RC (mcall (d + 1)) (mP 196) 41 [some (vR 0), some (vI x1), some (vI x2), some (vI (nI k)), some (vI (nI v)), o5] [] (LR z (uA f 32 g)) res := by
  intro t
  have hp : pin (nI k) 8 = true := pin_nI hk (by omega)
  have hx : ∀ g, uA f 32 g 31 (ix (nI k)) = nI e := fun g => by rw [uA_ne (show (31 : Nat) ≠ 32 by decide), ix_nI (j := k) (by omega)]; exact he
  induction t with
  | zero =>
    intro v hv h4 g hg
    obtain rfl : v = e - 1 := by omega
    refine ⟨g, some (vI (nI (e - 1))), hg, fun res h => vcc41_196_41 d _ _ _ _ _ _ _ _ ⟨hp, fun _ => ?_, fun q => ?_⟩⟩
    · rw [show nI k + 1 = nI (k + 1) from nI_add k 1]
      exact h
    · rw [hx, I_nI (n := e) (by omega), I_nI (n := e - 1) (by omega)] at q
      omega
  | succ t ih =>
    intro v hv h4 g hg
    have hev : e ≤ v := by omega
    have gv : g v = if b v = true then 1 else 0 := by rw [hg v (by omega), stp_lo (Nat.le_refl v)]
    have ge : g (v - e) = if b (v - e) = true then 1 else 0 := by rw [hg (v - e) (by omega), stp_lo (show v - e ≤ v by omega)]
    by_cases c : b (v - e) = true
    · obtain ⟨g', o4, k1, k2⟩ := ih (v - 1) (by omega) (by omega) (upd g v 1) (stp_s (by omega) hev h1 hg (by rw [pk_us, c, Bool.or_true, if_pos rfl]) (fun j hj => pk_un hj))
      refine ⟨g', o4, k1, fun res h => vcc41_196_41 d _ _ _ _ _ _ _ _ ⟨hp, fun q => ?_, fun _ => ⟨hp, ?_, fun q => ?_, fun _ => ⟨pin_nI (by omega) (by omega), ?_⟩⟩⟩⟩
      · rw [hx, I_nI (n := e) (by omega), I_nI (n := v) (by omega)] at q
        omega
      · rw [hx, nI_sub hev]
        exact pin_nI (by omega) (by omega)
      · rw [hx, nI_sub hev, uA_self, ix_nI (j := v - e) (by omega), ge, if_pos c] at q
        exact absurd rfl q
      · rw [ix_nI (j := v) (by omega), uA_uA, uA_self, nI_mm (by omega)]
        exact k2 res h
    · obtain ⟨g', o4, k1, k2⟩ := ih (v - 1) (by omega) (by omega) g (stp_s (by omega) hev h1 hg (by
        rw [gv, show b (v - e) = false by simpa using c, Bool.or_false]) (fun j _ => rfl))
      refine ⟨g', o4, k1, fun res h => vcc41_196_41 d _ _ _ _ _ _ _ _ ⟨hp, fun q => ?_, fun _ => ⟨hp, ?_, fun _ => ?_, fun q => ?_⟩⟩⟩
      · rw [hx, I_nI (n := e) (by omega), I_nI (n := v) (by omega)] at q
        omega
      · rw [hx, nI_sub hev]
        exact pin_nI (by omega) (by omega)
      · rw [nI_mm (by omega)]
        exact k2 res h
      · rw [hx, nI_sub hev, uA_self, ix_nI (j := v - e) (by omega), ge, if_neg c] at q
        exact absurd q (by decide)
theorem ml35 (d : Nat) (x1 x2 : Int32) {z : Nat → Int32} {f : Nat → FA} {n : Nat} (hz : z 54 = nI n) (hn : n ≤ 8) (hI : ∀ j, j < n → 1 ≤ I (f 31 j) ∧ I (f 31 j) ≤ 50) : ∀ t k, k + t = n → ∀ g, RowB g (bs (f 31) k) → ∀ o4 o5, ∃ g', RowB g' (bs (f 31) n) ∧ ∀ res, RC (mcall (d + 1)) (mP 196) 73 [some (vR 0), some (vI x1), some (vI x2), some (vI 0), some (vI 0), some (vI 0)] [] (LR z (uA f 32 g')) res → RC (mcall (d + 1)) (mP 196) 35 [some (vR 0), some (vI x1), some (vI x2), some (vI (nI k)), o4, o5] [] (LR z (uA f 32 g)) res := by
  intro t
  induction t with
  | zero =>
    intro k hk g hg o4 o5
    obtain rfl : k = n := by omega
    refine ⟨g, hg, fun res h => vcc35_196_35 d _ _ _ _ _ _ _ _ ⟨fun _ => h, fun q => ?_⟩⟩
    rw [hz] at q
    omega
  | succ t ih =>
    intro k hk g hg o4 o5
    obtain ⟨i1, i2⟩ := hI k (by omega)
    obtain ⟨e, he, e31, ie⟩ := nI_ofI (x := f 31 k) (by omega)
    have hen : enI (f 31) k = e := by
      unfold enI
      rw [ie]
      rfl
    obtain ⟨g1, o4', k1, k2⟩ := ml41 d x1 x2 o5 (z := z) (f := f) k e (by omega) he (by omega) (bs (f 31) k) (by omega) (401 - e) 400 (by omega) (Nat.le_refl _) g (fun j hj => by rw [stp_top hj]; exact hg j hj)
    have hb : bs (f 31) (k + 1) = stq (bs (f 31) k) e (e - 1) := by
      show stq (bs (f 31) k) (enI (f 31) k) (enI (f 31) k - 1) = _
      rw [hen]
    obtain ⟨g', k3, k4⟩ := ih (k + 1) (by omega) g1 (by rw [hb]; exact k1) o4' o5
    refine ⟨g', k3, fun res h => vcc35_196_35 d _ _ _ _ _ _ _ _ ⟨fun q => ?_, fun _ => k2 res (k4 res h)⟩⟩
    rw [hz, I_nI (n := n) (by omega), I_nI (n := k) (by omega)] at q
    omega
theorem ml73 (d : Nat) (x2 : Int32) {z : Nat → Int32} {f : Nat → FA} (b : Nat → Bool) {M : Nat} (hN : M ≤ 400) {g : FA} (hg : RowB g b) : ∀ t j, j + t = M + 1 → RC (mcall (d + 1)) (mP 196) 73 [some (vR 0), some (vI (nI M)), some (vI x2), some (vI (nI (cg b j).1)), some (vI (nI (cg b j).2)), some (vI (nI j))] [] (LR z (uA f 32 g)) (some (vI (if x2 = 0 then nI (cg b (M + 1)).1 else nI (cg b (M + 1)).2)), LR z (uA f 32 g)) := by
  intro t
  induction t with
  | zero =>
    intro j hj
    obtain rfl : j = M + 1 := by omega
    refine vcc73_196_73 d _ _ _ _ _ _ _ _ ⟨fun _ => ⟨fun q => by rw [if_neg q], fun q => by rw [if_pos q]⟩, fun q => ?_⟩
    rw [I_nI (n := M) (by omega), I_nI (n := M + 1) (by omega)] at q
    omega
  | succ t ih =>
    intro j hj
    have h := ih (j + 1) (by omega)
    rw [← nI_add j 1] at h
    have gj : uA f 32 g 32 (ix (nI j)) = if b j = true then 1 else 0 := by rw [uA_self, ix_nI (j := j) (by omega)]; exact hg j (by omega)
    have hp : pin (nI j) 401 = true := pin_nI (by omega) (by omega)
    refine vcc73_196_73 d _ _ _ _ _ _ _ _ ⟨fun q => ?_, fun _ => ⟨hp, hp, fun q => ?_, fun q => ?_⟩⟩
    · rw [I_nI (n := M) (by omega), I_nI (n := j) (by omega)] at q
      omega
    · have hb : ¬ b j = true := fun c => q (by rw [gj, if_pos c])
      have e : cg b (j + 1) = cg b j := if_neg hb
      rw [e] at h
      rw [gj, if_neg hb, Int32.add_zero]
      exact h
    · have hb : b j = true := by
        rw [gj] at q
        by_cases c : b j = true
        · exact c
        · rw [if_neg c] at q
          exact absurd q (by decide)
      have e : cg b (j + 1) = ((cg b j).1 + 1, j) := if_pos hb
      rw [e, ← nI_add] at h
      rw [gj, if_pos hb]
      exact h
theorem m_candles (d : Nat) (x1 x2 : Int32) {z : Nat → Int32} {f : Nat → FA} {n : Nat} (hz : z 54 = nI n) (hn : n ≤ 8) (hI : ∀ j, j < n → 1 ≤ I (f 31 j) ∧ I (f 31 j) ≤ 50) : ∃ f1, (∀ k, k ≠ 32 → f1 k = f k) ∧ mcall (d + 2) 196 [vR 0, vI x1, vI x2] (LR z f) = some (some (vI (cnA (bs (f 31) n) x1 x2)), LR (uZ z 0 0) f1) := by
  have go : ∀ res, _ → mcall (d + 2) 196 [vR 0, vI x1, vI x2] (LR z f) = some res := fun res H => mcall_i (mq196 (cu := [])).2.2 rfl (vc196_0 d x1 x2 none none none z f res H)
  by_cases h1 : 0 ≤ I x1 ∧ I x1 ≤ 400
  · by_cases h2 : 0 ≤ I x2 ∧ I x2 ≤ 1
    · obtain ⟨M, rfl, -, iN⟩ := nI_ofI (x := x1) (by omega)
      have hN : M ≤ 400 := by omega
      obtain ⟨g1, k1, k2⟩ := ml19 d (nI M) x2 none none (uZ z 0 0) f 401 0 rfl (f 32) (fun j hj => absurd hj (Nat.not_lt_zero j))
      rw [uA_id rfl] at k2
      obtain ⟨g2, k3, k4⟩ := ml35 d (nI M) x2 (z := uZ z 0 0) (f := f) (by rw [uZ_n (by decide)]; exact hz) hn hI n 0 (by omega) g1 k1 none none
      have hA : cnA (bs (f 31) n) (nI M) x2 = if x2 = 0 then nI (cg (bs (f 31) n) (M + 1)).1 else nI (cg (bs (f 31) n) (M + 1)).2 := by
        unfold cnA
        rw [if_pos ⟨h1, h2⟩, iN]
        rfl
      refine ⟨uA f 32 g2, fun k hk => uA_ne hk, go _ ⟨fun _ => ⟨fun _ => k2 _ (k4 _ ?_), fun q => absurd h2 q⟩, fun q => absurd h1 q⟩⟩
      rw [hA]
      exact ml73 d x2 (bs (f 31) n) hN k3 (M + 1) 0 (by omega)
    · have hA : cnA (bs (f 31) n) x1 x2 = -1 := if_neg (fun q => h2 q.2)
      rw [hA]
      exact ⟨f, fun _ _ => rfl, go _ ⟨fun _ => ⟨fun q => absurd q h2, fun _ => rfl⟩, fun q => absurd h1 q⟩⟩
  · have hA : cnA (bs (f 31) n) x1 x2 = -1 := if_neg (fun q => h1 q.1)
    rw [hA]
    exact ⟨f, fun _ _ => rfl, go _ ⟨fun q => absurd q h1, fun _ => rfl⟩⟩
theorem TA_f {zc : Nat → Int32} {fc : Nat → FA} {zm : Nat → Int32} {fm fm1 : Nat → FA} (h : TA zc fc zm fm) (hf : ∀ k N, (k, N) ∈ MKt → fm1 k = fm k) : TA zc fc zm fm1 := h.cong (fun _ _ => rfl) (fun _ _ _ _ _ _ _ => rfl) (fun _ _ => rfl) (fun k N hk _ _ => by rw [hf k N hk])
theorem tq_candles (l : Launch) (G : PG) {nc nm : Nat} {h : PH} (hI : LIY TP nc nm h) (x1 x2 : Int32) : PRY TP l G nc nm h 154 3 196 2 [vI x1, vI x2] := by
  obtain ⟨lam, b, u, z, f, zm, fm, hB, hR, hM, hT, hX⟩ := TP_link hI
  obtain ⟨m, hm, e1, e2, e3⟩ : SL 1 50 8 (z 11) (f 12) (zm 54) (fm 31) := hT 4 (by decide)
  obtain ⟨f1, hf1, hc⟩ := c_candles (u := u) 0 x1 x2 e1 hm (fun j hj => (e3 j hj).2)
  obtain ⟨g1, hg1, r⟩ := m_candles 0 x1 x2 (z := zm) (f := fm) e2 hm (fun j hj => by rw [← (e3 j hj).1]; exact (e3 j hj).2)
  rw [← bs_cong m (fun j hj => (e3 j hj).1)] at r
  have ht : TA (fun i => z (3 + 2 * i)) (fun i => f1 (4 + 2 * i)) (uZ zm 0 0) g1 := by
    have h1 := TA_f (TA_0 hT) (fm1 := g1) (fun k N hk => hg1 k (by
      have : ∀ e, e ∈ MKt → e.1 ≠ 32 := by decide
      exact this _ hk))
    intro i hi
    show TQ i (z (3 + 2 * i)) (f1 (4 + 2 * i)) (uZ zm 0 0) g1
    rw [hf1 (4 + 2 * i) (by omega)]
    exact h1 i hi
  exact tp_pair l G hB hR hM hX (kc_q188_ok l G lam hB.2.1) (kr_q50_ok l G _ (lamM_r nm) _ (EXK_of (lamM_r nm))) (As := [x1, x2]) hc r ht (by decide +kernel) (by decide +kernel) ⟨by rw [show nc = lam 0 from (hB.2.2.1 0 (by decide)).symm]; rfl, ⟨_, rfl, inb_top _⟩, ⟨_, rfl, inb_top _⟩, trivial⟩ ⟨rfl, ⟨_, rfl, inb_top _⟩, ⟨_, rfl, inb_top _⟩, trivial⟩ rfl
