/-! the reader of the reference: its small methods -/
set_option maxRecDepth 100000 in
theorem b47_1 (call : QC FA) (x1 : Int32) (x2 : Int32) (x3 : Int32) (L : QH FA) (F : Nat) : rnG call 47 (F + 2) 0 [some (vR 0), some (vI x1), some (vI x2), some (vI x3)] [] L = rnG call 47 F 2 [some (vR 0), some (vI x1), some (vI x2), some (vI x3)] [vI x2, vI x1] L := rfl
set_option maxRecDepth 100000 in
theorem b47_2 (call : QC FA) (x y : Int32) (ls : List (Option PV)) (L : QH FA) (F : Nat) : rnG call 47 (F + 1) 2 ls [vI y, vI x] L = bif pcmp 2 x y then rnG call 47 F 8 ls [] L else rnG call 47 F 3 ls [] L := rfl
set_option maxRecDepth 100000 in
theorem b47_3 (call : QC FA) (x1 : Int32) (x2 : Int32) (x3 : Int32) (L : QH FA) (F : Nat) : rnG call 47 (F + 1) 8 [some (vR 0), some (vI x1), some (vI x2), some (vI x3)] [] L = rnG call 47 F 9 [some (vR 0), some (vI x1), some (vI x2), some (vI x3)] [vI 0] L := rfl
set_option maxRecDepth 100000 in
theorem b47_4 (call : QC FA) (ls : List (Option PV)) (L : QH FA) (F : Nat) : rnG call 47 (F + 1) 9 ls [vI 0] L = some (some (vI 0), L) := rfl
set_option maxRecDepth 100000 in
theorem b47_5 (call : QC FA) (x1 : Int32) (x2 : Int32) (x3 : Int32) (L : QH FA) (F : Nat) : rnG call 47 (F + 2) 3 [some (vR 0), some (vI x1), some (vI x2), some (vI x3)] [] L = rnG call 47 F 5 [some (vR 0), some (vI x1), some (vI x2), some (vI x3)] [vI x3, vI x1] L := rfl
set_option maxRecDepth 100000 in
theorem b47_6 (call : QC FA) (x y : Int32) (ls : List (Option PV)) (L : QH FA) (F : Nat) : rnG call 47 (F + 1) 5 ls [vI y, vI x] L = bif pcmp 4 x y then rnG call 47 F 8 ls [] L else rnG call 47 F 6 ls [] L := rfl
set_option maxRecDepth 100000 in
theorem b47_7 (call : QC FA) (x1 : Int32) (x2 : Int32) (x3 : Int32) (L : QH FA) (F : Nat) : rnG call 47 (F + 2) 6 [some (vR 0), some (vI x1), some (vI x2), some (vI x3)] [] L = rnG call 47 F 9 [some (vR 0), some (vI x1), some (vI x2), some (vI x3)] [vI 1] L := rfl
set_option maxRecDepth 100000 in
theorem b47_8 (call : QC FA) (ls : List (Option PV)) (L : QH FA) (F : Nat) : rnG call 47 (F + 1) 9 ls [vI 1] L = some (some (vI 1), L) := rfl
theorem vc47_0 (call : QC FA) (x1 : Int32) (x2 : Int32) (x3 : Int32) (z : Nat → Int32) (f : Nat → FA) (res : Option PV × QH FA) (H : ((I x1 < I x2 → res = (some (vI 0), LR z f)) ∧ (I x2 ≤ I x1 → ((I x3 < I x1 → res = (some (vI 0), LR z f)) ∧ (I x1 ≤ I x3 → res = (some (vI 1), LR z f)))))) : RC call (mP 47) 0 [some (vR 0), some (vI x1), some (vI x2), some (vI x3)] [] (LR z f) res := by
  refine rc_b (i' := 2) (ls' := [some (vR 0), some (vI x1), some (vI x2), some (vI x3)]) (st' := [vI x2, vI x1]) (L' := LR z f) 2 (b47_1 call x1 x2 x3 _) ?_
  refine rc_if (it := 8) (ie := 3) (ls' := [some (vR 0), some (vI x1), some (vI x2), some (vI x3)]) (st' := []) (b47_2 call x1 x2 _ _) (fun q1 => ?_) (fun q1 => ?_)
  · have H := H.1 (cI2t q1 rfl rfl)
    refine rc_b (i' := 9) (ls' := [some (vR 0), some (vI x1), some (vI x2), some (vI x3)]) (st' := [vI 0]) (L' := LR z f) 1 (b47_3 call x1 x2 x3 _) ?_
    subst H
    exact rc_ret (b47_4 call _ _)
  · have H := H.2 (cI2f q1 rfl rfl)
    refine rc_b (i' := 5) (ls' := [some (vR 0), some (vI x1), some (vI x2), some (vI x3)]) (st' := [vI x3, vI x1]) (L' := LR z f) 2 (b47_5 call x1 x2 x3 _) ?_
    refine rc_if (it := 8) (ie := 6) (ls' := [some (vR 0), some (vI x1), some (vI x2), some (vI x3)]) (st' := []) (b47_6 call x1 x3 _ _) (fun q2 => ?_) (fun q2 => ?_)
    · have H := H.1 (cI4t q2 rfl rfl)
      refine rc_b (i' := 9) (ls' := [some (vR 0), some (vI x1), some (vI x2), some (vI x3)]) (st' := [vI 0]) (L' := LR z f) 1 (b47_3 call x1 x2 x3 _) ?_
      subst H
      exact rc_ret (b47_4 call _ _)
    · have H := H.2 (cI4f q2 rfl rfl)
      refine rc_b (i' := 9) (ls' := [some (vR 0), some (vI x1), some (vI x2), some (vI x3)]) (st' := [vI 1]) (L' := LR z f) 2 (b47_7 call x1 x2 x3 _) ?_
      subst H
      exact rc_ret (b47_8 call _ _)
theorem isIn_r (d : Nat) (v lo hi : Int32) (z : Nat → Int32) (f : Nat → FA) : mcall (d + 1) 47 [vR 0, vI v, vI lo, vI hi] (LR z f) = some (some (vI (bI (I lo ≤ I v ∧ I v ≤ I hi))), LR z f) := by
  refine mcall_i (mq47 (cu := [])).2.2 rfl (vc47_0 _ _ _ _ _ _ _ ?_)
  refine ⟨fun h => ?_, fun h => ⟨fun h2 => ?_, fun h2 => ?_⟩⟩
  · rw [bI_f (by omega)]
  · rw [bI_f (by omega)]
  · rw [bI_t (by omega)]
set_option maxRecDepth 100000 in
theorem b222_1 (call : QC FA) (x1 : Int32) (L : QH FA) (F : Nat) : rnG call 222 (F + 4) 0 [some (vR 0), some (vI x1)] [] L = rnG call 222 F 4 [some (vR 0), some (vI x1)] [vI 122, vI 97, vI x1, vR 0] L := rfl
set_option maxRecDepth 100000 in
theorem b222_2 (call : QC FA) (a0 : Int32) (a1 : Int32) (a2 : Int32) (ls : List (Option PV)) (z : Nat → Int32) (f : Nat → FA) (F : Nat) : rnG call 222 (F + 1) 4 ls [vI a2, vI a1, vI a0, vR 0] (LR z f) = cbd (call 47 [vR 0, vI a0, vI a1, vI a2] (LR z f)) (fun r L' => rnG call 222 F 5 ls (r.toList ++ []) L') := pcY (ih := rnG call 222 F) (call := call) (a := 47) (b := 3) (v := 12) (t := 5) (x := 0) (ls := ls) (As := [vI a0, vI a1, vI a2]) (st' := []) (L := LR z f) rfl rfl rfl
set_option maxRecDepth 100000 in
theorem b222_3 (call : QC FA) (x : Int32) (ls : List (Option PV)) (L : QH FA) (F : Nat) : rnG call 222 (F + 1) 5 ls [vI x] L = bif pcmp 1 x 0 then rnG call 222 F 12 ls [] L else rnG call 222 F 6 ls [] L := rfl
set_option maxRecDepth 100000 in
theorem b222_4 (call : QC FA) (x1 : Int32) (L : QH FA) (F : Nat) : rnG call 222 (F + 2) 12 [some (vR 0), some (vI x1)] [] L = rnG call 222 F 15 [some (vR 0), some (vI x1)] [vI 1] L := rfl
set_option maxRecDepth 100000 in
theorem b222_5 (call : QC FA) (ls : List (Option PV)) (L : QH FA) (F : Nat) : rnG call 222 (F + 1) 15 ls [vI 1] L = some (some (vI 1), L) := rfl
set_option maxRecDepth 100000 in
theorem b222_6 (call : QC FA) (x1 : Int32) (L : QH FA) (F : Nat) : rnG call 222 (F + 4) 6 [some (vR 0), some (vI x1)] [] L = rnG call 222 F 10 [some (vR 0), some (vI x1)] [vI 90, vI 65, vI x1, vR 0] L := rfl
set_option maxRecDepth 100000 in
theorem b222_7 (call : QC FA) (a0 : Int32) (a1 : Int32) (a2 : Int32) (ls : List (Option PV)) (z : Nat → Int32) (f : Nat → FA) (F : Nat) : rnG call 222 (F + 1) 10 ls [vI a2, vI a1, vI a0, vR 0] (LR z f) = cbd (call 47 [vR 0, vI a0, vI a1, vI a2] (LR z f)) (fun r L' => rnG call 222 F 11 ls (r.toList ++ []) L') := pcY (ih := rnG call 222 F) (call := call) (a := 47) (b := 3) (v := 12) (t := 11) (x := 0) (ls := ls) (As := [vI a0, vI a1, vI a2]) (st' := []) (L := LR z f) rfl rfl rfl
set_option maxRecDepth 100000 in
theorem b222_8 (call : QC FA) (x : Int32) (ls : List (Option PV)) (L : QH FA) (F : Nat) : rnG call 222 (F + 1) 11 ls [vI x] L = bif pcmp 0 x 0 then rnG call 222 F 14 ls [] L else rnG call 222 F 12 ls [] L := rfl
set_option maxRecDepth 100000 in
theorem b222_9 (call : QC FA) (x1 : Int32) (L : QH FA) (F : Nat) : rnG call 222 (F + 1) 14 [some (vR 0), some (vI x1)] [] L = rnG call 222 F 15 [some (vR 0), some (vI x1)] [vI 0] L := rfl
set_option maxRecDepth 100000 in
theorem b222_10 (call : QC FA) (ls : List (Option PV)) (L : QH FA) (F : Nat) : rnG call 222 (F + 1) 15 ls [vI 0] L = some (some (vI 0), L) := rfl
theorem vc222_0 (d : Nat) (x1 : Int32) (z : Nat → Int32) (f : Nat → FA) (res : Option PV × QH FA) (H : (((97 ≤ I x1 ∧ I x1 ≤ 122) → res = (some (vI 1), LR z f)) ∧ ((¬ (97 ≤ I x1 ∧ I x1 ≤ 122)) → (((65 ≤ I x1 ∧ I x1 ≤ 90) → res = (some (vI 1), LR z f)) ∧ ((¬ (65 ≤ I x1 ∧ I x1 ≤ 90)) → res = (some (vI 0), LR z f)))))) : RC (mcall (d + 1)) (mP 222) 0 [some (vR 0), some (vI x1)] [] (LR z f) res := by
  refine rc_b (i' := 4) (ls' := [some (vR 0), some (vI x1)]) (st' := [vI 122, vI 97, vI x1, vR 0]) (L' := LR z f) 4 (b222_1 (mcall (d + 1)) x1 _) ?_
  refine rc_call (t := 5) (ls' := [some (vR 0), some (vI x1)]) (st' := []) (b222_2 (mcall (d + 1)) x1 97 122 _ z f) (isIn_r _ x1 97 122 z f) ?_
  show RC (mcall (d + 1)) (mP 222) 5 [some (vR 0), some (vI x1)] [vI (bI (97 ≤ I x1 ∧ I x1 ≤ 122))] (LR z f) res
  refine rc_bn (it := 12) (ie := 6) (ls' := [some (vR 0), some (vI x1)]) (st' := []) (b222_3 (mcall (d + 1)) (bI (97 ≤ I x1 ∧ I x1 ≤ 122)) _ _) (fun q1 => ?_) (fun q1 => ?_)
  · have H := H.1 q1
    refine rc_b (i' := 15) (ls' := [some (vR 0), some (vI x1)]) (st' := [vI 1]) (L' := LR z f) 2 (b222_4 (mcall (d + 1)) x1 _) ?_
    subst H
    exact rc_ret (b222_5 (mcall (d + 1)) _ _)
  · have H := H.2 q1
    refine rc_b (i' := 10) (ls' := [some (vR 0), some (vI x1)]) (st' := [vI 90, vI 65, vI x1, vR 0]) (L' := LR z f) 4 (b222_6 (mcall (d + 1)) x1 _) ?_
    refine rc_call (t := 11) (ls' := [some (vR 0), some (vI x1)]) (st' := []) (b222_7 (mcall (d + 1)) x1 65 90 _ z f) (isIn_r _ x1 65 90 z f) ?_
    show RC (mcall (d + 1)) (mP 222) 11 [some (vR 0), some (vI x1)] [vI (bI (65 ≤ I x1 ∧ I x1 ≤ 90))] (LR z f) res
    refine rc_bz (it := 14) (ie := 12) (ls' := [some (vR 0), some (vI x1)]) (st' := []) (b222_8 (mcall (d + 1)) (bI (65 ≤ I x1 ∧ I x1 ≤ 90)) _ _) (fun q2 => ?_) (fun q2 => ?_)
    · have H := H.2 q2
      refine rc_b (i' := 15) (ls' := [some (vR 0), some (vI x1)]) (st' := [vI 0]) (L' := LR z f) 1 (b222_9 (mcall (d + 1)) x1 _) ?_
      subst H
      exact rc_ret (b222_10 (mcall (d + 1)) _ _)
    · have H := H.1 q2
      refine rc_b (i' := 15) (ls' := [some (vR 0), some (vI x1)]) (st' := [vI 1]) (L' := LR z f) 2 (b222_4 (mcall (d + 1)) x1 _) ?_
      subst H
      exact rc_ret (b222_5 (mcall (d + 1)) _ _)
theorem isLetter_r (d : Nat) (c : Int32) (z : Nat → Int32) (f : Nat → FA) : mcall (d + 2) 222 [vR 0, vI c] (LR z f) = some (some (vI (bI ((97 ≤ I c ∧ I c ≤ 122) ∨ (65 ≤ I c ∧ I c ≤ 90)))), LR z f) := by
  refine mcall_i (mq222 (cu := [])).2.2 rfl (vc222_0 _ _ _ _ _ ?_)
  refine ⟨fun h => ?_, fun h => ⟨fun h2 => ?_, fun h2 => ?_⟩⟩
  · rw [bI_t (Or.inl h)]
  · rw [bI_t (Or.inr h2)]
  · rw [bI_f (fun q => q.elim h h2)]
set_option maxRecDepth 100000 in
theorem b221_1 (call : QC FA) (x1 : Int32) (L : QH FA) (F : Nat) : rnG call 221 (F + 4) 0 [some (vR 0), some (vI x1)] [] L = rnG call 221 F 4 [some (vR 0), some (vI x1)] [vI 57, vI 48, vI x1, vR 0] L := rfl
set_option maxRecDepth 100000 in
theorem b221_2 (call : QC FA) (a0 : Int32) (a1 : Int32) (a2 : Int32) (ls : List (Option PV)) (z : Nat → Int32) (f : Nat → FA) (F : Nat) : rnG call 221 (F + 1) 4 ls [vI a2, vI a1, vI a0, vR 0] (LR z f) = cbd (call 47 [vR 0, vI a0, vI a1, vI a2] (LR z f)) (fun r L' => rnG call 221 F 5 ls (r.toList ++ []) L') := pcY (ih := rnG call 221 F) (call := call) (a := 47) (b := 3) (v := 12) (t := 5) (x := 0) (ls := ls) (As := [vI a0, vI a1, vI a2]) (st' := []) (L := LR z f) rfl rfl rfl
set_option maxRecDepth 100000 in
theorem b221_3 (call : QC FA) (x : Int32) (ls : List (Option PV)) (L : QH FA) (F : Nat) : rnG call 221 (F + 1) 5 ls [vI x] L = bif (pcmp 0 x 0 || pcmp 0 x 1) then some (some (vI x), L) else none := rfl
theorem vc221_0 (d : Nat) (x1 : Int32) (z : Nat → Int32) (f : Nat → FA) (res : Option PV × QH FA) (H : res = (some (vI (bI (48 ≤ I x1 ∧ I x1 ≤ 57))), LR z f)) : RC (mcall (d + 1)) (mP 221) 0 [some (vR 0), some (vI x1)] [] (LR z f) res := by
  refine rc_b (i' := 4) (ls' := [some (vR 0), some (vI x1)]) (st' := [vI 57, vI 48, vI x1, vR 0]) (L' := LR z f) 4 (b221_1 (mcall (d + 1)) x1 _) ?_
  refine rc_call (t := 5) (ls' := [some (vR 0), some (vI x1)]) (st' := []) (b221_2 (mcall (d + 1)) x1 48 57 _ z f) (isIn_r _ x1 48 57 z f) ?_
  show RC (mcall (d + 1)) (mP 221) 5 [some (vR 0), some (vI x1)] [vI (bI (48 ≤ I x1 ∧ I x1 ≤ 57))] (LR z f) res
  subst H
  exact rc_zret (b221_3 (mcall (d + 1)) _ _ _)
theorem isDigit_r (d : Nat) (c : Int32) (z : Nat → Int32) (f : Nat → FA) : mcall (d + 2) 221 [vR 0, vI c] (LR z f) = some (some (vI (bI (48 ≤ I c ∧ I c ≤ 57))), LR z f) := by
  refine mcall_i (mq221 (cu := [])).2.2 rfl (vc221_0 _ _ _ _ _ ?_)
  rfl
set_option maxRecDepth 100000 in
theorem b192_1 (call : QC FA) (x1 : Int32) (L : QH FA) (F : Nat) : rnG call 192 (F + 4) 0 [some (vR 0), some (vI x1)] [] L = rnG call 192 F 4 [some (vR 0), some (vI x1)] [vI 16, vI 7, vI x1, vR 0] L := rfl
set_option maxRecDepth 100000 in
theorem b192_2 (call : QC FA) (a0 : Int32) (a1 : Int32) (a2 : Int32) (ls : List (Option PV)) (z : Nat → Int32) (f : Nat → FA) (F : Nat) : rnG call 192 (F + 1) 4 ls [vI a2, vI a1, vI a0, vR 0] (LR z f) = cbd (call 47 [vR 0, vI a0, vI a1, vI a2] (LR z f)) (fun r L' => rnG call 192 F 5 ls (r.toList ++ []) L') := pcY (ih := rnG call 192 F) (call := call) (a := 47) (b := 3) (v := 12) (t := 5) (x := 0) (ls := ls) (As := [vI a0, vI a1, vI a2]) (st' := []) (L := LR z f) rfl rfl rfl
set_option maxRecDepth 100000 in
theorem b192_3 (call : QC FA) (x : Int32) (ls : List (Option PV)) (L : QH FA) (F : Nat) : rnG call 192 (F + 1) 5 ls [vI x] L = bif (pcmp 0 x 0 || pcmp 0 x 1) then some (some (vI x), L) else none := rfl
theorem vc192_0 (d : Nat) (x1 : Int32) (z : Nat → Int32) (f : Nat → FA) (res : Option PV × QH FA) (H : res = (some (vI (bI (7 ≤ I x1 ∧ I x1 ≤ 16))), LR z f)) : RC (mcall (d + 1)) (mP 192) 0 [some (vR 0), some (vI x1)] [] (LR z f) res := by
  refine rc_b (i' := 4) (ls' := [some (vR 0), some (vI x1)]) (st' := [vI 16, vI 7, vI x1, vR 0]) (L' := LR z f) 4 (b192_1 (mcall (d + 1)) x1 _) ?_
  refine rc_call (t := 5) (ls' := [some (vR 0), some (vI x1)]) (st' := []) (b192_2 (mcall (d + 1)) x1 7 16 _ z f) (isIn_r _ x1 7 16 z f) ?_
  show RC (mcall (d + 1)) (mP 192) 5 [some (vR 0), some (vI x1)] [vI (bI (7 ≤ I x1 ∧ I x1 ≤ 16))] (LR z f) res
  subst H
  exact rc_zret (b192_3 (mcall (d + 1)) _ _ _)
theorem canAsk_r (d : Nat) (c : Int32) (z : Nat → Int32) (f : Nat → FA) : mcall (d + 2) 192 [vR 0, vI c] (LR z f) = some (some (vI (bI (7 ≤ I c ∧ I c ≤ 16))), LR z f) := by
  refine mcall_i (mq192 (cu := [])).2.2 rfl (vc192_0 _ _ _ _ _ ?_)
  rfl
set_option maxRecDepth 100000 in
theorem b225_1 (call : QC FA) (x1 : Int32) (L : QH FA) (F : Nat) : rnG call 225 (F + 2) 0 [some (vR 0), some (vI x1)] [] L = rnG call 225 F 2 [some (vR 0), some (vI x1)] [vI 59, vI x1] L := rfl
set_option maxRecDepth 100000 in
theorem b225_2 (call : QC FA) (x y : Int32) (ls : List (Option PV)) (L : QH FA) (F : Nat) : rnG call 225 (F + 1) 2 ls [vI y, vI x] L = bif pcmp 0 x y then rnG call 225 F 30 ls [] L else rnG call 225 F 3 ls [] L := rfl
set_option maxRecDepth 100000 in
theorem b225_3 (call : QC FA) (x1 : Int32) (L : QH FA) (F : Nat) : rnG call 225 (F + 2) 30 [some (vR 0), some (vI x1)] [] L = rnG call 225 F 33 [some (vR 0), some (vI x1)] [vI 1] L := rfl
set_option maxRecDepth 100000 in
theorem b225_4 (call : QC FA) (ls : List (Option PV)) (L : QH FA) (F : Nat) : rnG call 225 (F + 1) 33 ls [vI 1] L = some (some (vI 1), L) := rfl
set_option maxRecDepth 100000 in
theorem b225_5 (call : QC FA) (x1 : Int32) (L : QH FA) (F : Nat) : rnG call 225 (F + 2) 3 [some (vR 0), some (vI x1)] [] L = rnG call 225 F 5 [some (vR 0), some (vI x1)] [vI 43, vI x1] L := rfl
set_option maxRecDepth 100000 in
theorem b225_6 (call : QC FA) (x y : Int32) (ls : List (Option PV)) (L : QH FA) (F : Nat) : rnG call 225 (F + 1) 5 ls [vI y, vI x] L = bif pcmp 0 x y then rnG call 225 F 30 ls [] L else rnG call 225 F 6 ls [] L := rfl
set_option maxRecDepth 100000 in
theorem b225_7 (call : QC FA) (x1 : Int32) (L : QH FA) (F : Nat) : rnG call 225 (F + 2) 6 [some (vR 0), some (vI x1)] [] L = rnG call 225 F 8 [some (vR 0), some (vI x1)] [vI 45, vI x1] L := rfl
set_option maxRecDepth 100000 in
theorem b225_8 (call : QC FA) (x y : Int32) (ls : List (Option PV)) (L : QH FA) (F : Nat) : rnG call 225 (F + 1) 8 ls [vI y, vI x] L = bif pcmp 0 x y then rnG call 225 F 30 ls [] L else rnG call 225 F 9 ls [] L := rfl
set_option maxRecDepth 100000 in
theorem b225_9 (call : QC FA) (x1 : Int32) (L : QH FA) (F : Nat) : rnG call 225 (F + 2) 9 [some (vR 0), some (vI x1)] [] L = rnG call 225 F 11 [some (vR 0), some (vI x1)] [vI 42, vI x1] L := rfl
set_option maxRecDepth 100000 in
theorem b225_10 (call : QC FA) (x y : Int32) (ls : List (Option PV)) (L : QH FA) (F : Nat) : rnG call 225 (F + 1) 11 ls [vI y, vI x] L = bif pcmp 0 x y then rnG call 225 F 30 ls [] L else rnG call 225 F 12 ls [] L := rfl
set_option maxRecDepth 100000 in
theorem b225_11 (call : QC FA) (x1 : Int32) (L : QH FA) (F : Nat) : rnG call 225 (F + 2) 12 [some (vR 0), some (vI x1)] [] L = rnG call 225 F 14 [some (vR 0), some (vI x1)] [vI 47, vI x1] L := rfl
set_option maxRecDepth 100000 in
theorem b225_12 (call : QC FA) (x y : Int32) (ls : List (Option PV)) (L : QH FA) (F : Nat) : rnG call 225 (F + 1) 14 ls [vI y, vI x] L = bif pcmp 0 x y then rnG call 225 F 30 ls [] L else rnG call 225 F 15 ls [] L := rfl
set_option maxRecDepth 100000 in
theorem b225_13 (call : QC FA) (x1 : Int32) (L : QH FA) (F : Nat) : rnG call 225 (F + 2) 15 [some (vR 0), some (vI x1)] [] L = rnG call 225 F 17 [some (vR 0), some (vI x1)] [vI 40, vI x1] L := rfl
set_option maxRecDepth 100000 in
theorem b225_14 (call : QC FA) (x y : Int32) (ls : List (Option PV)) (L : QH FA) (F : Nat) : rnG call 225 (F + 1) 17 ls [vI y, vI x] L = bif pcmp 0 x y then rnG call 225 F 30 ls [] L else rnG call 225 F 18 ls [] L := rfl
set_option maxRecDepth 100000 in
theorem b225_15 (call : QC FA) (x1 : Int32) (L : QH FA) (F : Nat) : rnG call 225 (F + 2) 18 [some (vR 0), some (vI x1)] [] L = rnG call 225 F 20 [some (vR 0), some (vI x1)] [vI 41, vI x1] L := rfl
set_option maxRecDepth 100000 in
theorem b225_16 (call : QC FA) (x y : Int32) (ls : List (Option PV)) (L : QH FA) (F : Nat) : rnG call 225 (F + 1) 20 ls [vI y, vI x] L = bif pcmp 0 x y then rnG call 225 F 30 ls [] L else rnG call 225 F 21 ls [] L := rfl
set_option maxRecDepth 100000 in
theorem b225_17 (call : QC FA) (x1 : Int32) (L : QH FA) (F : Nat) : rnG call 225 (F + 2) 21 [some (vR 0), some (vI x1)] [] L = rnG call 225 F 23 [some (vR 0), some (vI x1)] [vI 60, vI x1] L := rfl
set_option maxRecDepth 100000 in
theorem b225_18 (call : QC FA) (x y : Int32) (ls : List (Option PV)) (L : QH FA) (F : Nat) : rnG call 225 (F + 1) 23 ls [vI y, vI x] L = bif pcmp 0 x y then rnG call 225 F 30 ls [] L else rnG call 225 F 24 ls [] L := rfl
set_option maxRecDepth 100000 in
theorem b225_19 (call : QC FA) (x1 : Int32) (L : QH FA) (F : Nat) : rnG call 225 (F + 2) 24 [some (vR 0), some (vI x1)] [] L = rnG call 225 F 26 [some (vR 0), some (vI x1)] [vI 61, vI x1] L := rfl
set_option maxRecDepth 100000 in
theorem b225_20 (call : QC FA) (x y : Int32) (ls : List (Option PV)) (L : QH FA) (F : Nat) : rnG call 225 (F + 1) 26 ls [vI y, vI x] L = bif pcmp 0 x y then rnG call 225 F 30 ls [] L else rnG call 225 F 27 ls [] L := rfl
set_option maxRecDepth 100000 in
theorem b225_21 (call : QC FA) (x1 : Int32) (L : QH FA) (F : Nat) : rnG call 225 (F + 2) 27 [some (vR 0), some (vI x1)] [] L = rnG call 225 F 29 [some (vR 0), some (vI x1)] [vI 62, vI x1] L := rfl
set_option maxRecDepth 100000 in
theorem b225_22 (call : QC FA) (x y : Int32) (ls : List (Option PV)) (L : QH FA) (F : Nat) : rnG call 225 (F + 1) 29 ls [vI y, vI x] L = bif pcmp 1 x y then rnG call 225 F 32 ls [] L else rnG call 225 F 30 ls [] L := rfl
set_option maxRecDepth 100000 in
theorem b225_23 (call : QC FA) (x1 : Int32) (L : QH FA) (F : Nat) : rnG call 225 (F + 1) 32 [some (vR 0), some (vI x1)] [] L = rnG call 225 F 33 [some (vR 0), some (vI x1)] [vI 0] L := rfl
set_option maxRecDepth 100000 in
theorem b225_24 (call : QC FA) (ls : List (Option PV)) (L : QH FA) (F : Nat) : rnG call 225 (F + 1) 33 ls [vI 0] L = some (some (vI 0), L) := rfl
theorem vc225_0 (call : QC FA) (x1 : Int32) (z : Nat → Int32) (f : Nat → FA) (res : Option PV × QH FA) (H : ((x1 = 59 → res = (some (vI 1), LR z f)) ∧ (¬ x1 = 59 → ((x1 = 43 → res = (some (vI 1), LR z f)) ∧ (¬ x1 = 43 → ((x1 = 45 → res = (some (vI 1), LR z f)) ∧ (¬ x1 = 45 → ((x1 = 42 → res = (some (vI 1), LR z f)) ∧ (¬ x1 = 42 → ((x1 = 47 → res = (some (vI 1), LR z f)) ∧ (¬ x1 = 47 → ((x1 = 40 → res = (some (vI 1), LR z f)) ∧ (¬ x1 = 40 → ((x1 = 41 → res = (some (vI 1), LR z f)) ∧ (¬ x1 = 41 → ((x1 = 60 → res = (some (vI 1), LR z f)) ∧ (¬ x1 = 60 → ((x1 = 61 → res = (some (vI 1), LR z f)) ∧ (¬ x1 = 61 → ((¬ x1 = 62 → res = (some (vI 0), LR z f)) ∧ (x1 = 62 → res = (some (vI 1), LR z f)))))))))))))))))))))) : RC call (mP 225) 0 [some (vR 0), some (vI x1)] [] (LR z f) res := by
  refine rc_b (i' := 2) (ls' := [some (vR 0), some (vI x1)]) (st' := [vI 59, vI x1]) (L' := LR z f) 2 (b225_1 call x1 _) ?_
  refine rc_if (it := 30) (ie := 3) (ls' := [some (vR 0), some (vI x1)]) (st' := []) (b225_2 call x1 59 _ _) (fun q1 => ?_) (fun q1 => ?_)
  · have H := H.1 (cI0t q1)
    refine rc_b (i' := 33) (ls' := [some (vR 0), some (vI x1)]) (st' := [vI 1]) (L' := LR z f) 2 (b225_3 call x1 _) ?_
    subst H
    exact rc_ret (b225_4 call _ _)
  · have H := H.2 (cI0f q1)
    refine rc_b (i' := 5) (ls' := [some (vR 0), some (vI x1)]) (st' := [vI 43, vI x1]) (L' := LR z f) 2 (b225_5 call x1 _) ?_
    refine rc_if (it := 30) (ie := 6) (ls' := [some (vR 0), some (vI x1)]) (st' := []) (b225_6 call x1 43 _ _) (fun q2 => ?_) (fun q2 => ?_)
    · have H := H.1 (cI0t q2)
      refine rc_b (i' := 33) (ls' := [some (vR 0), some (vI x1)]) (st' := [vI 1]) (L' := LR z f) 2 (b225_3 call x1 _) ?_
      subst H
      exact rc_ret (b225_4 call _ _)
    · have H := H.2 (cI0f q2)
      refine rc_b (i' := 8) (ls' := [some (vR 0), some (vI x1)]) (st' := [vI 45, vI x1]) (L' := LR z f) 2 (b225_7 call x1 _) ?_
      refine rc_if (it := 30) (ie := 9) (ls' := [some (vR 0), some (vI x1)]) (st' := []) (b225_8 call x1 45 _ _) (fun q3 => ?_) (fun q3 => ?_)
      · have H := H.1 (cI0t q3)
        refine rc_b (i' := 33) (ls' := [some (vR 0), some (vI x1)]) (st' := [vI 1]) (L' := LR z f) 2 (b225_3 call x1 _) ?_
        subst H
        exact rc_ret (b225_4 call _ _)
      · have H := H.2 (cI0f q3)
        refine rc_b (i' := 11) (ls' := [some (vR 0), some (vI x1)]) (st' := [vI 42, vI x1]) (L' := LR z f) 2 (b225_9 call x1 _) ?_
        refine rc_if (it := 30) (ie := 12) (ls' := [some (vR 0), some (vI x1)]) (st' := []) (b225_10 call x1 42 _ _) (fun q4 => ?_) (fun q4 => ?_)
        · have H := H.1 (cI0t q4)
          refine rc_b (i' := 33) (ls' := [some (vR 0), some (vI x1)]) (st' := [vI 1]) (L' := LR z f) 2 (b225_3 call x1 _) ?_
          subst H
          exact rc_ret (b225_4 call _ _)
        · have H := H.2 (cI0f q4)
          refine rc_b (i' := 14) (ls' := [some (vR 0), some (vI x1)]) (st' := [vI 47, vI x1]) (L' := LR z f) 2 (b225_11 call x1 _) ?_
          refine rc_if (it := 30) (ie := 15) (ls' := [some (vR 0), some (vI x1)]) (st' := []) (b225_12 call x1 47 _ _) (fun q5 => ?_) (fun q5 => ?_)
          · have H := H.1 (cI0t q5)
            refine rc_b (i' := 33) (ls' := [some (vR 0), some (vI x1)]) (st' := [vI 1]) (L' := LR z f) 2 (b225_3 call x1 _) ?_
            subst H
            exact rc_ret (b225_4 call _ _)
          · have H := H.2 (cI0f q5)
            refine rc_b (i' := 17) (ls' := [some (vR 0), some (vI x1)]) (st' := [vI 40, vI x1]) (L' := LR z f) 2 (b225_13 call x1 _) ?_
            refine rc_if (it := 30) (ie := 18) (ls' := [some (vR 0), some (vI x1)]) (st' := []) (b225_14 call x1 40 _ _) (fun q6 => ?_) (fun q6 => ?_)
            · have H := H.1 (cI0t q6)
              refine rc_b (i' := 33) (ls' := [some (vR 0), some (vI x1)]) (st' := [vI 1]) (L' := LR z f) 2 (b225_3 call x1 _) ?_
              subst H
              exact rc_ret (b225_4 call _ _)
            · have H := H.2 (cI0f q6)
              refine rc_b (i' := 20) (ls' := [some (vR 0), some (vI x1)]) (st' := [vI 41, vI x1]) (L' := LR z f) 2 (b225_15 call x1 _) ?_
              refine rc_if (it := 30) (ie := 21) (ls' := [some (vR 0), some (vI x1)]) (st' := []) (b225_16 call x1 41 _ _) (fun q7 => ?_) (fun q7 => ?_)
              · have H := H.1 (cI0t q7)
                refine rc_b (i' := 33) (ls' := [some (vR 0), some (vI x1)]) (st' := [vI 1]) (L' := LR z f) 2 (b225_3 call x1 _) ?_
                subst H
                exact rc_ret (b225_4 call _ _)
              · have H := H.2 (cI0f q7)
                refine rc_b (i' := 23) (ls' := [some (vR 0), some (vI x1)]) (st' := [vI 60, vI x1]) (L' := LR z f) 2 (b225_17 call x1 _) ?_
                refine rc_if (it := 30) (ie := 24) (ls' := [some (vR 0), some (vI x1)]) (st' := []) (b225_18 call x1 60 _ _) (fun q8 => ?_) (fun q8 => ?_)
                · have H := H.1 (cI0t q8)
                  refine rc_b (i' := 33) (ls' := [some (vR 0), some (vI x1)]) (st' := [vI 1]) (L' := LR z f) 2 (b225_3 call x1 _) ?_
                  subst H
                  exact rc_ret (b225_4 call _ _)
                · have H := H.2 (cI0f q8)
                  refine rc_b (i' := 26) (ls' := [some (vR 0), some (vI x1)]) (st' := [vI 61, vI x1]) (L' := LR z f) 2 (b225_19 call x1 _) ?_
                  refine rc_if (it := 30) (ie := 27) (ls' := [some (vR 0), some (vI x1)]) (st' := []) (b225_20 call x1 61 _ _) (fun q9 => ?_) (fun q9 => ?_)
                  · have H := H.1 (cI0t q9)
                    refine rc_b (i' := 33) (ls' := [some (vR 0), some (vI x1)]) (st' := [vI 1]) (L' := LR z f) 2 (b225_3 call x1 _) ?_
                    subst H
                    exact rc_ret (b225_4 call _ _)
                  · have H := H.2 (cI0f q9)
                    refine rc_b (i' := 29) (ls' := [some (vR 0), some (vI x1)]) (st' := [vI 62, vI x1]) (L' := LR z f) 2 (b225_21 call x1 _) ?_
                    refine rc_if (it := 32) (ie := 30) (ls' := [some (vR 0), some (vI x1)]) (st' := []) (b225_22 call x1 62 _ _) (fun q10 => ?_) (fun q10 => ?_)
                    · have H := H.1 (cI1t q10)
                      refine rc_b (i' := 33) (ls' := [some (vR 0), some (vI x1)]) (st' := [vI 0]) (L' := LR z f) 1 (b225_23 call x1 _) ?_
                      subst H
                      exact rc_ret (b225_24 call _ _)
                    · have H := H.2 (cI1f q10)
                      refine rc_b (i' := 33) (ls' := [some (vR 0), some (vI x1)]) (st' := [vI 1]) (L' := LR z f) 2 (b225_3 call x1 _) ?_
                      subst H
                      exact rc_ret (b225_4 call _ _)
theorem isMarkSign_r (d : Nat) (c : Int32) (z : Nat → Int32) (f : Nat → FA) : mcall (d + 1) 225 [vR 0, vI c] (LR z f) = some (some (vI (bI (c = 59 ∨ c = 43 ∨ c = 45 ∨ c = 42 ∨ c = 47 ∨ c = 40 ∨ c = 41 ∨ c = 60 ∨ c = 61 ∨ c = 62))), LR z f) := by
  refine mcall_i (mq225 (cu := [])).2.2 rfl (vc225_0 _ _ _ _ _ ?_)
  refine ⟨fun h0 => ?_, fun h0 => ⟨fun h1 => ?_, fun h1 => ⟨fun h2 => ?_, fun h2 => ⟨fun h3 => ?_, fun h3 => ⟨fun h4 => ?_, fun h4 => ⟨fun h5 => ?_, fun h5 => ⟨fun h6 => ?_, fun h6 => ⟨fun h7 => ?_, fun h7 => ⟨fun h8 => ?_, fun h8 => ⟨fun h9 => ?_, fun h9 => ?_⟩⟩⟩⟩⟩⟩⟩⟩⟩⟩
  all_goals first
    | (rw [bI_f (by simp only [not_or]; exact ⟨h0, h1, h2, h3, h4, h5, h6, h7, h8, h9⟩)]; done)
    | (rw [bI_t (by simp_all)]; done)
set_option maxRecDepth 100000 in
theorem b228_1 (call : QC FA) (x1 : Int32) (z : Nat → Int32) (f : Nat → FA) (F : Nat) : rnG call 228 (F + 3) 0 [some (vR 0), some (vI x1)] [] (LR z f) = rnG call 228 F 3 [some (vR 0), some (vI x1)] [vI 2, vI (z 15)] (LR z f) := rfl
set_option maxRecDepth 100000 in
theorem b228_2 (call : QC FA) (x y : Int32) (ls : List (Option PV)) (L : QH FA) (F : Nat) : rnG call 228 (F + 1) 3 ls [vI y, vI x] L = bif pcmp 1 x y then rnG call 228 F 10 ls [] L else rnG call 228 F 4 ls [] L := rfl
set_option maxRecDepth 100000 in
theorem b228_3 (call : QC FA) (x1 : Int32) (L : QH FA) (F : Nat) : rnG call 228 (F + 1) 10 [some (vR 0), some (vI x1)] [] L = rnG call 228 F 11 [some (vR 0), some (vI x1)] [vI 0] L := rfl
set_option maxRecDepth 100000 in
theorem b228_4 (call : QC FA) (ls : List (Option PV)) (L : QH FA) (F : Nat) : rnG call 228 (F + 1) 11 ls [vI 0] L = some (some (vI 0), L) := rfl
set_option maxRecDepth 100000 in
theorem b228_5 (call : QC FA) (x1 : Int32) (z : Nat → Int32) (f : Nat → FA) (F : Nat) : rnG call 228 (F + 3) 4 [some (vR 0), some (vI x1)] [] (LR z f) = rnG call 228 F 7 [some (vR 0), some (vI x1)] [vI x1, vI (z 16)] (LR z f) := rfl
set_option maxRecDepth 100000 in
theorem b228_6 (call : QC FA) (x y : Int32) (ls : List (Option PV)) (L : QH FA) (F : Nat) : rnG call 228 (F + 1) 7 ls [vI y, vI x] L = bif pcmp 1 x y then rnG call 228 F 10 ls [] L else rnG call 228 F 8 ls [] L := rfl
set_option maxRecDepth 100000 in
theorem b228_7 (call : QC FA) (x1 : Int32) (L : QH FA) (F : Nat) : rnG call 228 (F + 2) 8 [some (vR 0), some (vI x1)] [] L = rnG call 228 F 11 [some (vR 0), some (vI x1)] [vI 1] L := rfl
set_option maxRecDepth 100000 in
theorem b228_8 (call : QC FA) (ls : List (Option PV)) (L : QH FA) (F : Nat) : rnG call 228 (F + 1) 11 ls [vI 1] L = some (some (vI 1), L) := rfl
theorem vc228_0 (call : QC FA) (x1 : Int32) (z : Nat → Int32) (f : Nat → FA) (res : Option PV × QH FA) (H : ((¬ z 15 = 2 → res = (some (vI 0), LR z f)) ∧ (z 15 = 2 → ((¬ z 16 = x1 → res = (some (vI 0), LR z f)) ∧ (z 16 = x1 → res = (some (vI 1), LR z f)))))) : RC call (mP 228) 0 [some (vR 0), some (vI x1)] [] (LR z f) res := by
  refine rc_b (i' := 3) (ls' := [some (vR 0), some (vI x1)]) (st' := [vI 2, vI (z 15)]) (L' := LR z f) 3 (b228_1 call x1 z f) ?_
  refine rc_if (it := 10) (ie := 4) (ls' := [some (vR 0), some (vI x1)]) (st' := []) (b228_2 call (z 15) 2 _ _) (fun q1 => ?_) (fun q1 => ?_)
  · have H := H.1 (cI1t q1)
    refine rc_b (i' := 11) (ls' := [some (vR 0), some (vI x1)]) (st' := [vI 0]) (L' := LR z f) 1 (b228_3 call x1 _) ?_
    subst H
    exact rc_ret (b228_4 call _ _)
  · have H := H.2 (cI1f q1)
    refine rc_b (i' := 7) (ls' := [some (vR 0), some (vI x1)]) (st' := [vI x1, vI (z 16)]) (L' := LR z f) 3 (b228_5 call x1 z f) ?_
    refine rc_if (it := 10) (ie := 8) (ls' := [some (vR 0), some (vI x1)]) (st' := []) (b228_6 call (z 16) x1 _ _) (fun q2 => ?_) (fun q2 => ?_)
    · have H := H.1 (cI1t q2)
      refine rc_b (i' := 11) (ls' := [some (vR 0), some (vI x1)]) (st' := [vI 0]) (L' := LR z f) 1 (b228_3 call x1 _) ?_
      subst H
      exact rc_ret (b228_4 call _ _)
    · have H := H.2 (cI1f q2)
      refine rc_b (i' := 11) (ls' := [some (vR 0), some (vI x1)]) (st' := [vI 1]) (L' := LR z f) 2 (b228_7 call x1 _) ?_
      subst H
      exact rc_ret (b228_8 call _ _)
theorem isWord_r (d : Nat) (c : Int32) (z : Nat → Int32) (f : Nat → FA) : mcall (d + 1) 228 [vR 0, vI c] (LR z f) = some (some (vI (bI (z 15 = 2 ∧ z 16 = c))), LR z f) := by
  refine mcall_i (mq228 (cu := [])).2.2 rfl (vc228_0 _ _ _ _ _ ?_)
  refine ⟨fun h => ?_, fun h => ⟨fun h2 => ?_, fun h2 => ?_⟩⟩
  · rw [bI_f (fun q => h q.1)]
  · rw [bI_f (fun q => h2 q.2)]
  · rw [bI_t ⟨h, h2⟩]
set_option maxRecDepth 100000 in
theorem b226_1 (call : QC FA) (x1 : Int32) (z : Nat → Int32) (f : Nat → FA) (F : Nat) : rnG call 226 (F + 3) 0 [some (vR 0), some (vI x1)] [] (LR z f) = rnG call 226 F 3 [some (vR 0), some (vI x1)] [vI 4, vI (z 15)] (LR z f) := rfl
set_option maxRecDepth 100000 in
theorem b226_2 (call : QC FA) (x y : Int32) (ls : List (Option PV)) (L : QH FA) (F : Nat) : rnG call 226 (F + 1) 3 ls [vI y, vI x] L = bif pcmp 1 x y then rnG call 226 F 10 ls [] L else rnG call 226 F 4 ls [] L := rfl
set_option maxRecDepth 100000 in
theorem b226_3 (call : QC FA) (x1 : Int32) (L : QH FA) (F : Nat) : rnG call 226 (F + 1) 10 [some (vR 0), some (vI x1)] [] L = rnG call 226 F 11 [some (vR 0), some (vI x1)] [vI 0] L := rfl
set_option maxRecDepth 100000 in
theorem b226_4 (call : QC FA) (ls : List (Option PV)) (L : QH FA) (F : Nat) : rnG call 226 (F + 1) 11 ls [vI 0] L = some (some (vI 0), L) := rfl
set_option maxRecDepth 100000 in
theorem b226_5 (call : QC FA) (x1 : Int32) (z : Nat → Int32) (f : Nat → FA) (F : Nat) : rnG call 226 (F + 3) 4 [some (vR 0), some (vI x1)] [] (LR z f) = rnG call 226 F 7 [some (vR 0), some (vI x1)] [vI x1, vI (z 16)] (LR z f) := rfl
set_option maxRecDepth 100000 in
theorem b226_6 (call : QC FA) (x y : Int32) (ls : List (Option PV)) (L : QH FA) (F : Nat) : rnG call 226 (F + 1) 7 ls [vI y, vI x] L = bif pcmp 1 x y then rnG call 226 F 10 ls [] L else rnG call 226 F 8 ls [] L := rfl
set_option maxRecDepth 100000 in
theorem b226_7 (call : QC FA) (x1 : Int32) (L : QH FA) (F : Nat) : rnG call 226 (F + 2) 8 [some (vR 0), some (vI x1)] [] L = rnG call 226 F 11 [some (vR 0), some (vI x1)] [vI 1] L := rfl
set_option maxRecDepth 100000 in
theorem b226_8 (call : QC FA) (ls : List (Option PV)) (L : QH FA) (F : Nat) : rnG call 226 (F + 1) 11 ls [vI 1] L = some (some (vI 1), L) := rfl
theorem vc226_0 (call : QC FA) (x1 : Int32) (z : Nat → Int32) (f : Nat → FA) (res : Option PV × QH FA) (H : ((¬ z 15 = 4 → res = (some (vI 0), LR z f)) ∧ (z 15 = 4 → ((¬ z 16 = x1 → res = (some (vI 0), LR z f)) ∧ (z 16 = x1 → res = (some (vI 1), LR z f)))))) : RC call (mP 226) 0 [some (vR 0), some (vI x1)] [] (LR z f) res := by
  refine rc_b (i' := 3) (ls' := [some (vR 0), some (vI x1)]) (st' := [vI 4, vI (z 15)]) (L' := LR z f) 3 (b226_1 call x1 z f) ?_
  refine rc_if (it := 10) (ie := 4) (ls' := [some (vR 0), some (vI x1)]) (st' := []) (b226_2 call (z 15) 4 _ _) (fun q1 => ?_) (fun q1 => ?_)
  · have H := H.1 (cI1t q1)
    refine rc_b (i' := 11) (ls' := [some (vR 0), some (vI x1)]) (st' := [vI 0]) (L' := LR z f) 1 (b226_3 call x1 _) ?_
    subst H
    exact rc_ret (b226_4 call _ _)
  · have H := H.2 (cI1f q1)
    refine rc_b (i' := 7) (ls' := [some (vR 0), some (vI x1)]) (st' := [vI x1, vI (z 16)]) (L' := LR z f) 3 (b226_5 call x1 z f) ?_
    refine rc_if (it := 10) (ie := 8) (ls' := [some (vR 0), some (vI x1)]) (st' := []) (b226_6 call (z 16) x1 _ _) (fun q2 => ?_) (fun q2 => ?_)
    · have H := H.1 (cI1t q2)
      refine rc_b (i' := 11) (ls' := [some (vR 0), some (vI x1)]) (st' := [vI 0]) (L' := LR z f) 1 (b226_3 call x1 _) ?_
      subst H
      exact rc_ret (b226_4 call _ _)
    · have H := H.2 (cI1f q2)
      refine rc_b (i' := 11) (ls' := [some (vR 0), some (vI x1)]) (st' := [vI 1]) (L' := LR z f) 2 (b226_7 call x1 _) ?_
      subst H
      exact rc_ret (b226_8 call _ _)
theorem isSign_r (d : Nat) (c : Int32) (z : Nat → Int32) (f : Nat → FA) : mcall (d + 1) 226 [vR 0, vI c] (LR z f) = some (some (vI (bI (z 15 = 4 ∧ z 16 = c))), LR z f) := by
  refine mcall_i (mq226 (cu := [])).2.2 rfl (vc226_0 _ _ _ _ _ ?_)
  refine ⟨fun h => ?_, fun h => ⟨fun h2 => ?_, fun h2 => ?_⟩⟩
  · rw [bI_f (fun q => h q.1)]
  · rw [bI_f (fun q => h2 q.2)]
  · rw [bI_t ⟨h, h2⟩]
set_option maxRecDepth 100000 in
theorem b224_1 (call : QC FA) (z : Nat → Int32) (f : Nat → FA) (F : Nat) : rnG call 224 (F + 3) 0 [some (vR 0)] [] (LR z f) = rnG call 224 F 3 [some (vR 0)] [vI 2, vI (z 15)] (LR z f) := rfl
set_option maxRecDepth 100000 in
theorem b224_2 (call : QC FA) (x y : Int32) (ls : List (Option PV)) (L : QH FA) (F : Nat) : rnG call 224 (F + 1) 3 ls [vI y, vI x] L = bif pcmp 1 x y then rnG call 224 F 13 ls [] L else rnG call 224 F 4 ls [] L := rfl
set_option maxRecDepth 100000 in
theorem b224_3 (call : QC FA) (L : QH FA) (F : Nat) : rnG call 224 (F + 1) 13 [some (vR 0)] [] L = rnG call 224 F 14 [some (vR 0)] [vI 0] L := rfl
set_option maxRecDepth 100000 in
theorem b224_4 (call : QC FA) (ls : List (Option PV)) (L : QH FA) (F : Nat) : rnG call 224 (F + 1) 14 ls [vI 0] L = some (some (vI 0), L) := rfl
set_option maxRecDepth 100000 in
theorem b224_5 (call : QC FA) (z : Nat → Int32) (f : Nat → FA) (F : Nat) : rnG call 224 (F + 5) 4 [some (vR 0)] [] (LR z f) = rnG call 224 F 9 [some (vR 0)] [vI 2, vI 0, vI (z 16), vR 0] (LR z f) := rfl
set_option maxRecDepth 100000 in
theorem b224_6 (call : QC FA) (a0 : Int32) (a1 : Int32) (a2 : Int32) (ls : List (Option PV)) (z : Nat → Int32) (f : Nat → FA) (F : Nat) : rnG call 224 (F + 1) 9 ls [vI a2, vI a1, vI a0, vR 0] (LR z f) = cbd (call 47 [vR 0, vI a0, vI a1, vI a2] (LR z f)) (fun r L' => rnG call 224 F 10 ls (r.toList ++ []) L') := pcY (ih := rnG call 224 F) (call := call) (a := 47) (b := 3) (v := 12) (t := 10) (x := 0) (ls := ls) (As := [vI a0, vI a1, vI a2]) (st' := []) (L := LR z f) rfl rfl rfl
set_option maxRecDepth 100000 in
theorem b224_7 (call : QC FA) (x : Int32) (ls : List (Option PV)) (L : QH FA) (F : Nat) : rnG call 224 (F + 1) 10 ls [vI x] L = bif pcmp 0 x 0 then rnG call 224 F 13 ls [] L else rnG call 224 F 11 ls [] L := rfl
set_option maxRecDepth 100000 in
theorem b224_8 (call : QC FA) (L : QH FA) (F : Nat) : rnG call 224 (F + 2) 11 [some (vR 0)] [] L = rnG call 224 F 14 [some (vR 0)] [vI 1] L := rfl
set_option maxRecDepth 100000 in
theorem b224_9 (call : QC FA) (ls : List (Option PV)) (L : QH FA) (F : Nat) : rnG call 224 (F + 1) 14 ls [vI 1] L = some (some (vI 1), L) := rfl
theorem vc224_0 (d : Nat) (z : Nat → Int32) (f : Nat → FA) (res : Option PV × QH FA) (H : ((¬ z 15 = 2 → res = (some (vI 0), LR z f)) ∧ (z 15 = 2 → (((0 ≤ I (z 16) ∧ I (z 16) ≤ 2) → res = (some (vI 1), LR z f)) ∧ ((¬ (0 ≤ I (z 16) ∧ I (z 16) ≤ 2)) → res = (some (vI 0), LR z f)))))) : RC (mcall (d + 1)) (mP 224) 0 [some (vR 0)] [] (LR z f) res := by
  refine rc_b (i' := 3) (ls' := [some (vR 0)]) (st' := [vI 2, vI (z 15)]) (L' := LR z f) 3 (b224_1 (mcall (d + 1)) z f) ?_
  refine rc_if (it := 13) (ie := 4) (ls' := [some (vR 0)]) (st' := []) (b224_2 (mcall (d + 1)) (z 15) 2 _ _) (fun q1 => ?_) (fun q1 => ?_)
  · have H := H.1 (cI1t q1)
    refine rc_b (i' := 14) (ls' := [some (vR 0)]) (st' := [vI 0]) (L' := LR z f) 1 (b224_3 (mcall (d + 1)) _) ?_
    subst H
    exact rc_ret (b224_4 (mcall (d + 1)) _ _)
  · have H := H.2 (cI1f q1)
    refine rc_b (i' := 9) (ls' := [some (vR 0)]) (st' := [vI 2, vI 0, vI (z 16), vR 0]) (L' := LR z f) 5 (b224_5 (mcall (d + 1)) z f) ?_
    refine rc_call (t := 10) (ls' := [some (vR 0)]) (st' := []) (b224_6 (mcall (d + 1)) (z 16) 0 2 _ z f) (isIn_r _ (z 16) 0 2 z f) ?_
    show RC (mcall (d + 1)) (mP 224) 10 [some (vR 0)] [vI (bI (0 ≤ I (z 16) ∧ I (z 16) ≤ 2))] (LR z f) res
    refine rc_bz (it := 13) (ie := 11) (ls' := [some (vR 0)]) (st' := []) (b224_7 (mcall (d + 1)) (bI (0 ≤ I (z 16) ∧ I (z 16) ≤ 2)) _ _) (fun q2 => ?_) (fun q2 => ?_)
    · have H := H.2 q2
      refine rc_b (i' := 14) (ls' := [some (vR 0)]) (st' := [vI 0]) (L' := LR z f) 1 (b224_3 (mcall (d + 1)) _) ?_
      subst H
      exact rc_ret (b224_4 (mcall (d + 1)) _ _)
    · have H := H.1 q2
      refine rc_b (i' := 14) (ls' := [some (vR 0)]) (st' := [vI 1]) (L' := LR z f) 2 (b224_8 (mcall (d + 1)) _) ?_
      subst H
      exact rc_ret (b224_9 (mcall (d + 1)) _ _)
theorem isLineWord_r (d : Nat) (z : Nat → Int32) (f : Nat → FA) : mcall (d + 2) 224 [vR 0] (LR z f) = some (some (vI (bI (z 15 = 2 ∧ (0 ≤ I (z 16) ∧ I (z 16) ≤ 2)))), LR z f) := by
  refine mcall_i (mq224 (cu := [])).2.2 rfl (vc224_0 _ _ _ _ ?_)
  refine ⟨fun h => ?_, fun h => ⟨fun h2 => ?_, fun h2 => ?_⟩⟩
  · rw [bI_f (fun q => h q.1)]
  · rw [bI_t ⟨h, h2⟩]
  · rw [bI_f (fun q => h2 q.2)]
set_option maxRecDepth 100000 in
theorem b208_1 (call : QC FA) (x1 : Int32) (L : QH FA) (F : Nat) : rnG call 208 (F + 2) 0 [some (vR 0), some (vI x1)] [] L = rnG call 208 F 2 [some (vR 0), some (vI x1)] [vI x1, vR 0] L := rfl
set_option maxRecDepth 100000 in
theorem b208_2 (call : QC FA) (y : Int32) (ls : List (Option PV)) (z : Nat → Int32) (f : Nat → FA) (F : Nat) : rnG call 208 (F + 1) 2 ls [vI y, vR 0] (LR z f) = rnG call 208 F 3 ls [] (LR (uZ z 30 y) f) := rfl
set_option maxRecDepth 100000 in
theorem b208_3 (call : QC FA) (x1 : Int32) (z : Nat → Int32) (f : Nat → FA) (F : Nat) : rnG call 208 (F + 3) 3 [some (vR 0), some (vI x1)] [] (LR z f) = rnG call 208 F 6 [some (vR 0), some (vI x1)] [vI (z 14), vR 0] (LR z f) := rfl
set_option maxRecDepth 100000 in
theorem b208_4 (call : QC FA) (y : Int32) (ls : List (Option PV)) (z : Nat → Int32) (f : Nat → FA) (F : Nat) : rnG call 208 (F + 1) 6 ls [vI y, vR 0] (LR z f) = rnG call 208 F 7 ls [] (LR (uZ z 31 y) f) := rfl
set_option maxRecDepth 100000 in
theorem b208_5 (call : QC FA) (x1 : Int32) (L : QH FA) (F : Nat) : rnG call 208 (F + 1) 7 [some (vR 0), some (vI x1)] [] L = rnG call 208 F 8 [some (vR 0), some (vI x1)] [vI ((-1))] L := rfl
set_option maxRecDepth 100000 in
theorem b208_6 (call : QC FA) (x : Int32) (ls : List (Option PV)) (L : QH FA) (F : Nat) : rnG call 208 (F + 1) 8 ls [vI x] L = some (some (vI x), L) := rfl
theorem vc208_0 (call : QC FA) (x1 : Int32) (z : Nat → Int32) (f : Nat → FA) (res : Option PV × QH FA) (H : res = (some (vI ((-1))), LR (uZ (uZ z 30 x1) 31 (z 14)) f)) : RC call (mP 208) 0 [some (vR 0), some (vI x1)] [] (LR z f) res := by
  refine rc_b (i' := 2) (ls' := [some (vR 0), some (vI x1)]) (st' := [vI x1, vR 0]) (L' := LR z f) 2 (b208_1 call x1 _) ?_
  refine rc_b (i' := 3) (ls' := [some (vR 0), some (vI x1)]) (st' := []) (L' := LR (uZ z 30 x1) f) 1 (b208_2 call x1 _ z f) ?_
  refine rc_b (i' := 6) (ls' := [some (vR 0), some (vI x1)]) (st' := [vI (z 14), vR 0]) (L' := LR (uZ z 30 x1) f) 3 (b208_3 call x1 (uZ z 30 x1) f) ?_
  refine rc_b (i' := 7) (ls' := [some (vR 0), some (vI x1)]) (st' := []) (L' := LR (uZ (uZ z 30 x1) 31 (z 14)) f) 1 (b208_4 call (z 14) _ (uZ z 30 x1) f) ?_
  refine rc_b (i' := 8) (ls' := [some (vR 0), some (vI x1)]) (st' := [vI ((-1))]) (L' := LR (uZ (uZ z 30 x1) 31 (z 14)) f) 1 (b208_5 call x1 _) ?_
  subst H
  exact rc_ret (b208_6 call _ _ _)
theorem errs_r (d : Nat) (c : Int32) (z : Nat → Int32) (f : Nat → FA) : mcall (d + 1) 208 [vR 0, vI c] (LR z f) = some (some (vI (-1)), LR (uZ (uZ z 30 c) 31 (z 14)) f) := by
  exact mcall_i (mq208 (cu := [])).2.2 rfl (vc208_0 _ _ _ _ _ rfl)
set_option maxRecDepth 100000 in
theorem b58_1 (call : QC FA) (x1 : Int32) (x2 : Int32) (x3 : Int32) (L : QH FA) (F : Nat) : rnG call 58 (F + 2) 0 [some (vR 0), some (vI x1), some (vI x2), some (vI x3)] [] L = rnG call 58 F 2 [some (vR 0), some (vI x1), some (vI x2), some (vI x3)] [vI x2, vI x1] L := rfl
set_option maxRecDepth 100000 in
theorem b58_2 (call : QC FA) (x y : Int32) (ls : List (Option PV)) (L : QH FA) (F : Nat) : rnG call 58 (F + 1) 2 ls [vI y, vI x] L = bif pcmp 3 x y then rnG call 58 F 5 ls [] L else rnG call 58 F 3 ls [] L := rfl
set_option maxRecDepth 100000 in
theorem b58_3 (call : QC FA) (x1 : Int32) (x2 : Int32) (x3 : Int32) (L : QH FA) (F : Nat) : rnG call 58 (F + 2) 5 [some (vR 0), some (vI x1), some (vI x2), some (vI x3)] [] L = rnG call 58 F 7 [some (vR 0), some (vI x1), some (vI x2), some (vI x3)] [vI x3, vI x1] L := rfl
set_option maxRecDepth 100000 in
theorem b58_4 (call : QC FA) (x y : Int32) (ls : List (Option PV)) (L : QH FA) (F : Nat) : rnG call 58 (F + 1) 7 ls [vI y, vI x] L = bif pcmp 5 x y then rnG call 58 F 10 ls [] L else rnG call 58 F 8 ls [] L := rfl
set_option maxRecDepth 100000 in
theorem b58_5 (call : QC FA) (x1 : Int32) (x2 : Int32) (x3 : Int32) (L : QH FA) (F : Nat) : rnG call 58 (F + 1) 10 [some (vR 0), some (vI x1), some (vI x2), some (vI x3)] [] L = rnG call 58 F 11 [some (vR 0), some (vI x1), some (vI x2), some (vI x3)] [vI x1] L := rfl
set_option maxRecDepth 100000 in
theorem b58_6 (call : QC FA) (x : Int32) (ls : List (Option PV)) (L : QH FA) (F : Nat) : rnG call 58 (F + 1) 11 ls [vI x] L = some (some (vI x), L) := rfl
set_option maxRecDepth 100000 in
theorem b58_7 (call : QC FA) (x1 : Int32) (x2 : Int32) (x3 : Int32) (L : QH FA) (F : Nat) : rnG call 58 (F + 2) 8 [some (vR 0), some (vI x1), some (vI x2), some (vI x3)] [] L = rnG call 58 F 11 [some (vR 0), some (vI x1), some (vI x2), some (vI x3)] [vI x3] L := rfl
set_option maxRecDepth 100000 in
theorem b58_8 (call : QC FA) (x1 : Int32) (x2 : Int32) (x3 : Int32) (L : QH FA) (F : Nat) : rnG call 58 (F + 2) 3 [some (vR 0), some (vI x1), some (vI x2), some (vI x3)] [] L = rnG call 58 F 11 [some (vR 0), some (vI x1), some (vI x2), some (vI x3)] [vI x2] L := rfl
theorem vc58_0 (call : QC FA) (x1 : Int32) (x2 : Int32) (x3 : Int32) (z : Nat → Int32) (f : Nat → FA) (res : Option PV × QH FA) (H : ((I x2 ≤ I x1 → ((I x1 ≤ I x3 → res = (some (vI x1), LR z f)) ∧ (I x3 < I x1 → res = (some (vI x3), LR z f)))) ∧ (I x1 < I x2 → res = (some (vI x2), LR z f)))) : RC call (mP 58) 0 [some (vR 0), some (vI x1), some (vI x2), some (vI x3)] [] (LR z f) res := by
  refine rc_b (i' := 2) (ls' := [some (vR 0), some (vI x1), some (vI x2), some (vI x3)]) (st' := [vI x2, vI x1]) (L' := LR z f) 2 (b58_1 call x1 x2 x3 _) ?_
  refine rc_if (it := 5) (ie := 3) (ls' := [some (vR 0), some (vI x1), some (vI x2), some (vI x3)]) (st' := []) (b58_2 call x1 x2 _ _) (fun q1 => ?_) (fun q1 => ?_)
  · have H := H.1 (cI3t q1 rfl rfl)
    refine rc_b (i' := 7) (ls' := [some (vR 0), some (vI x1), some (vI x2), some (vI x3)]) (st' := [vI x3, vI x1]) (L' := LR z f) 2 (b58_3 call x1 x2 x3 _) ?_
    refine rc_if (it := 10) (ie := 8) (ls' := [some (vR 0), some (vI x1), some (vI x2), some (vI x3)]) (st' := []) (b58_4 call x1 x3 _ _) (fun q2 => ?_) (fun q2 => ?_)
    · have H := H.1 (cI5t q2 rfl rfl)
      refine rc_b (i' := 11) (ls' := [some (vR 0), some (vI x1), some (vI x2), some (vI x3)]) (st' := [vI x1]) (L' := LR z f) 1 (b58_5 call x1 x2 x3 _) ?_
      subst H
      exact rc_ret (b58_6 call _ _ _)
    · have H := H.2 (cI5f q2 rfl rfl)
      refine rc_b (i' := 11) (ls' := [some (vR 0), some (vI x1), some (vI x2), some (vI x3)]) (st' := [vI x3]) (L' := LR z f) 2 (b58_7 call x1 x2 x3 _) ?_
      subst H
      exact rc_ret (b58_6 call _ _ _)
  · have H := H.2 (cI3f q1 rfl rfl)
    refine rc_b (i' := 11) (ls' := [some (vR 0), some (vI x1), some (vI x2), some (vI x3)]) (st' := [vI x2]) (L' := LR z f) 2 (b58_8 call x1 x2 x3 _) ?_
    subst H
    exact rc_ret (b58_6 call _ _ _)
theorem held_r (d : Nat) (v lo hi : Int32) (z : Nat → Int32) (f : Nat → FA) (h0 : I lo ≤ I hi) : ∃ r, (I lo ≤ I r ∧ I r ≤ I hi) ∧ mcall (d + 1) 58 [vR 0, vI v, vI lo, vI hi] (LR z f) = some (some (vI r), LR z f) := by
  by_cases h1 : I v < I lo
  · exact ⟨lo, by omega, mcall_i (mq58 (cu := [])).2.2 rfl (vc58_0 _ _ _ _ _ _ _ ⟨fun h => by omega, fun h => rfl⟩)⟩
  · by_cases h2 : I hi < I v
    · exact ⟨hi, by omega, mcall_i (mq58 (cu := [])).2.2 rfl (vc58_0 _ _ _ _ _ _ _ ⟨fun h => ⟨fun h3 => by omega, fun h3 => rfl⟩, fun h => by omega⟩)⟩
    · exact ⟨v, by omega, mcall_i (mq58 (cu := [])).2.2 rfl (vc58_0 _ _ _ _ _ _ _ ⟨fun h => ⟨fun h3 => rfl, fun h3 => by omega⟩, fun h => by omega⟩)⟩
set_option maxRecDepth 100000 in
theorem b250_1 (call : QC FA) (x1 : Int32) (z : Nat → Int32) (f : Nat → FA) (F : Nat) : rnG call 250 (F + 3) 0 [some (vR 0), some (vI x1)] [] (LR z f) = rnG call 250 F 3 [some (vR 0), some (vI x1)] [vI (z 12), vI x1] (LR z f) := rfl
set_option maxRecDepth 100000 in
theorem b250_2 (call : QC FA) (x y : Int32) (ls : List (Option PV)) (L : QH FA) (F : Nat) : rnG call 250 (F + 1) 3 ls [vI y, vI x] L = bif pcmp 3 x y then rnG call 250 F 9 ls [] L else rnG call 250 F 4 ls [] L := rfl
set_option maxRecDepth 100000 in
theorem b250_3 (call : QC FA) (x1 : Int32) (L : QH FA) (F : Nat) : rnG call 250 (F + 1) 9 [some (vR 0), some (vI x1)] [] L = rnG call 250 F 10 [some (vR 0), some (vI x1)] [vI ((-1))] L := rfl
set_option maxRecDepth 100000 in
theorem b250_4 (call : QC FA) (x : Int32) (ls : List (Option PV)) (L : QH FA) (F : Nat) : rnG call 250 (F + 1) 10 ls [vI x] L = some (some (vI x), L) := rfl
set_option maxRecDepth 100000 in
theorem b250_5 (call : QC FA) (x1 : Int32) (z : Nat → Int32) (f : Nat → FA) (F : Nat) : rnG call 250 (F + 3) 4 [some (vR 0), some (vI x1)] [] (LR z f) = rnG call 250 F 7 [some (vR 0), some (vI x1)] [vI x1, vR 8] (LR z f) := rfl
set_option maxRecDepth 100000 in
theorem b250_6 (call : QC FA) (x : Int32) (ls : List (Option PV)) (z : Nat → Int32) (f : Nat → FA) (F : Nat) : rnG call 250 (F + 1) 7 ls [vI x, vR 8] (LR z f) = bif (Nat.beq 0 0 && pin x 400) then rnG call 250 F 8 ls [vI (f 8 (ix x))] (LR z f) else none := rfl
set_option maxRecDepth 100000 in
theorem b250_7 (call : QC FA) (x1 : Int32) (s0 : Int32) (L : QH FA) (F : Nat) : rnG call 250 (F + 1) 8 [some (vR 0), some (vI x1)] [vI s0] L = rnG call 250 F 10 [some (vR 0), some (vI x1)] [vI s0] L := rfl
theorem vc250_0 (call : QC FA) (x1 : Int32) (z : Nat → Int32) (f : Nat → FA) (res : Option PV × QH FA) (H : ((I (z 12) ≤ I x1 → res = (some (vI ((-1))), LR z f)) ∧ (I x1 < I (z 12) → (pin x1 400 = true ∧ res = (some (vI (f 8 (ix x1))), LR z f))))) : RC call (mP 250) 0 [some (vR 0), some (vI x1)] [] (LR z f) res := by
  refine rc_b (i' := 3) (ls' := [some (vR 0), some (vI x1)]) (st' := [vI (z 12), vI x1]) (L' := LR z f) 3 (b250_1 call x1 z f) ?_
  refine rc_if (it := 9) (ie := 4) (ls' := [some (vR 0), some (vI x1)]) (st' := []) (b250_2 call x1 (z 12) _ _) (fun q1 => ?_) (fun q1 => ?_)
  · have H := H.1 (cI3t q1 rfl rfl)
    refine rc_b (i' := 10) (ls' := [some (vR 0), some (vI x1)]) (st' := [vI ((-1))]) (L' := LR z f) 1 (b250_3 call x1 _) ?_
    subst H
    exact rc_ret (b250_4 call _ _ _)
  · have H := H.2 (cI3f q1 rfl rfl)
    refine rc_b (i' := 7) (ls' := [some (vR 0), some (vI x1)]) (st' := [vI x1, vR 8]) (L' := LR z f) 3 (b250_5 call x1 z f) ?_
    obtain ⟨g1, H⟩ := H
    refine rc_g (i' := 8) (ls' := [some (vR 0), some (vI x1)]) (st' := [vI (f 8 (ix x1))]) (L' := LR z f) (b250_6 call x1 _ z f) (pinG g1) ?_
    refine rc_b (i' := 10) (ls' := [some (vR 0), some (vI x1)]) (st' := [vI (f 8 (ix x1))]) (L' := LR z f) 1 (b250_7 call x1 (f 8 (ix x1)) _) ?_
    subst H
    exact rc_ret (b250_4 call _ _ _)
def rawv (z : Nat → Int32) (f : Nat → FA) (s : Nat) : Int32 := if (s : Int) < I (z 12) then f 8 s else -1
theorem raw_r (d : Nat) (s : Nat) (z : Nat → Int32) (f : Nat → FA) (hs : s ≤ 400) (ht : I (z 12) ≤ 400) : mcall (d + 1) 250 [vR 0, vI (nI s)] (LR z f) = some (some (vI (rawv z f s)), LR z f) := by
  have e := I_nI (n := s) (by omega)
  refine mcall_i (mq250 (cu := [])).2.2 rfl (vc250_0 _ _ _ _ _ ⟨fun h => ?_, fun h => ⟨?_, ?_⟩⟩)
  · rw [rawv, if_neg (by omega)]
  · exact pin_nI (by omega) (by omega)
  · rw [rawv, if_pos (by omega), ix_nI (by omega)]
set_option maxRecDepth 100000 in
theorem b205_1 (call : QC FA) (x1 : Int32) (x2 : Int32) (z : Nat → Int32) (f : Nat → FA) (F : Nat) : rnG call 205 (F + 7) 0 [some (vR 0), some (vI x1), some (vI x2)] [] (LR z f) = rnG call 205 F 7 [some (vR 0), some (vI x1), some (vI x2)] [vI x1, vI (800 + (z 26)), vR 15] (LR z f) := rfl
set_option maxRecDepth 100000 in
theorem b205_2 (call : QC FA) (x y : Int32) (ls : List (Option PV)) (z : Nat → Int32) (f : Nat → FA) (F : Nat) : rnG call 205 (F + 1) 7 ls [vI y, vI x, vR 15] (LR z f) = bif (Nat.beq 0 0 && pin x 1200) then rnG call 205 F 8 ls [] (LR z (uA f 15 (upd (f 15) (ix x) y))) else none := rfl
set_option maxRecDepth 100000 in
theorem b205_3 (call : QC FA) (x1 : Int32) (x2 : Int32) (z : Nat → Int32) (f : Nat → FA) (F : Nat) : rnG call 205 (F + 7) 8 [some (vR 0), some (vI x1), some (vI x2)] [] (LR z f) = rnG call 205 F 15 [some (vR 0), some (vI x1), some (vI x2)] [vI x2, vI (800 + (z 26)), vR 16] (LR z f) := rfl
set_option maxRecDepth 100000 in
theorem b205_4 (call : QC FA) (x y : Int32) (ls : List (Option PV)) (z : Nat → Int32) (f : Nat → FA) (F : Nat) : rnG call 205 (F + 1) 15 ls [vI y, vI x, vR 16] (LR z f) = bif (Nat.beq 0 0 && pin x 1200) then rnG call 205 F 16 ls [] (LR z (uA f 16 (upd (f 16) (ix x) y))) else none := rfl
set_option maxRecDepth 100000 in
theorem b205_5 (call : QC FA) (x1 : Int32) (x2 : Int32) (z : Nat → Int32) (f : Nat → FA) (F : Nat) : rnG call 205 (F + 5) 16 [some (vR 0), some (vI x1), some (vI x2)] [] (LR z f) = rnG call 205 F 21 [some (vR 0), some (vI x1), some (vI x2)] [vI ((z 26) + 1), vR 0] (LR z f) := rfl
set_option maxRecDepth 100000 in
theorem b205_6 (call : QC FA) (y : Int32) (ls : List (Option PV)) (z : Nat → Int32) (f : Nat → FA) (F : Nat) : rnG call 205 (F + 1) 21 ls [vI y, vR 0] (LR z f) = rnG call 205 F 22 ls [] (LR (uZ z 26 y) f) := rfl
set_option maxRecDepth 100000 in
theorem b205_7 (call : QC FA) (ls : List (Option PV)) (L : QH FA) (F : Nat) : rnG call 205 (F + 1) 22 ls [] L = some (none, L) := rfl
theorem vc205_0 (call : QC FA) (x1 : Int32) (x2 : Int32) (z : Nat → Int32) (f : Nat → FA) (res : Option PV × QH FA) (H : (pin (800 + (z 26)) 1200 = true ∧ (pin (800 + (z 26)) 1200 = true ∧ res = (none, LR (uZ z 26 ((z 26) + 1)) (uA (uA f 15 (upd (f 15) (ix (800 + (z 26))) x1)) 16 (upd (f 16) (ix (800 + (z 26))) x2)))))) : RC call (mP 205) 0 [some (vR 0), some (vI x1), some (vI x2)] [] (LR z f) res := by
  refine rc_b (i' := 7) (ls' := [some (vR 0), some (vI x1), some (vI x2)]) (st' := [vI x1, vI (800 + (z 26)), vR 15]) (L' := LR z f) 7 (b205_1 call x1 x2 z f) ?_
  obtain ⟨g1, H⟩ := H
  refine rc_g (i' := 8) (ls' := [some (vR 0), some (vI x1), some (vI x2)]) (st' := []) (L' := LR z (uA f 15 (upd (f 15) (ix (800 + (z 26))) x1))) (b205_2 call (800 + (z 26)) x1 _ z f) (pinG g1) ?_
  refine rc_b (i' := 15) (ls' := [some (vR 0), some (vI x1), some (vI x2)]) (st' := [vI x2, vI (800 + (z 26)), vR 16]) (L' := LR z (uA f 15 (upd (f 15) (ix (800 + (z 26))) x1))) 7 (b205_3 call x1 x2 z (uA f 15 (upd (f 15) (ix (800 + (z 26))) x1))) ?_
  obtain ⟨g1, H⟩ := H
  refine rc_g (i' := 16) (ls' := [some (vR 0), some (vI x1), some (vI x2)]) (st' := []) (L' := LR z (uA (uA f 15 (upd (f 15) (ix (800 + (z 26))) x1)) 16 (upd (f 16) (ix (800 + (z 26))) x2))) (b205_4 call (800 + (z 26)) x2 _ z (uA f 15 (upd (f 15) (ix (800 + (z 26))) x1))) (pinG g1) ?_
  refine rc_b (i' := 21) (ls' := [some (vR 0), some (vI x1), some (vI x2)]) (st' := [vI ((z 26) + 1), vR 0]) (L' := LR z (uA (uA f 15 (upd (f 15) (ix (800 + (z 26))) x1)) 16 (upd (f 16) (ix (800 + (z 26))) x2))) 5 (b205_5 call x1 x2 z (uA (uA f 15 (upd (f 15) (ix (800 + (z 26))) x1)) 16 (upd (f 16) (ix (800 + (z 26))) x2))) ?_
  refine rc_b (i' := 22) (ls' := [some (vR 0), some (vI x1), some (vI x2)]) (st' := []) (L' := LR (uZ z 26 ((z 26) + 1)) (uA (uA f 15 (upd (f 15) (ix (800 + (z 26))) x1)) 16 (upd (f 16) (ix (800 + (z 26))) x2))) 1 (b205_6 call ((z 26) + 1) _ z (uA (uA f 15 (upd (f 15) (ix (800 + (z 26))) x1)) 16 (upd (f 16) (ix (800 + (z 26))) x2))) ?_
  subst H
  exact rc_ret (b205_7 call _ _)
theorem emits_r (d : Nat) (w v : Int32) (z : Nat → Int32) (f : Nat → FA) (c : Nat) (hz : z 26 = nI c) (hc : c < 400) : mcall (d + 1) 205 [vR 0, vI w, vI v] (LR z f) = some (none, LR (uZ z 26 (nI (c + 1))) (uA (uA f 15 (upd (f 15) (800 + c) w)) 16 (upd (f 16) (800 + c) v))) := by
  have e1 : (800 : Int32) + z 26 = nI (800 + c) := by rw [hz]; exact nI_add 800 c
  have e2 : z 26 + 1 = nI (c + 1) := by rw [hz]; exact nI_add c 1
  refine mcall_i (mq205 (cu := [])).2.2 rfl (vc205_0 _ _ _ _ _ _ ⟨?_, ?_, ?_⟩)
  · rw [e1]; exact pin_nI (by omega) (by omega)
  · rw [e1]; exact pin_nI (by omega) (by omega)
  · rw [e1, e2, ix_nI (by omega)]
