/-! an item of a told list -/
theorem nI_sub {a b : Nat} (h : b ≤ a) : nI a - nI b = nI (a - b) := Int32.sub_eq_iff_eq_add.mpr (by rw [nI_add, Nat.sub_add_cancel h])
theorem nI_mm {v : Nat} (h : 1 ≤ v) : nI v + (-1) = nI (v - 1) := (Int32.sub_eq_add_neg _ _).symm.trans (nI_sub h)
section TLs
variable {u : Nat → Option Nat}
set_option maxRecDepth 100000 in
theorem bti1_3_1 (call : QC FA) (x1 : Int32) (L : QH FA) (F : Nat) : rnG call 3 (F + 1) 0 [some (vR 5), some (vI x1)] [] L = rnG call 3 F 1 [some (vR 5), some (vI x1)] [vI x1] L := rfl
set_option maxRecDepth 100000 in
theorem bti1_3_2 (call : QC FA) (x : Int32) (ls : List (Option PV)) (L : QH FA) (F : Nat) : rnG call 3 (F + 1) 1 ls [vI x] L = bif pcmp 2 x 0 then rnG call 3 F 16 ls [] L else rnG call 3 F 2 ls [] L := rfl
set_option maxRecDepth 100000 in
theorem bti1_3_3 (call : QC FA) (x1 : Int32) (L : QH FA) (F : Nat) : rnG call 3 (F + 1) 16 [some (vR 5), some (vI x1)] [] L = rnG call 3 F 17 [some (vR 5), some (vI x1)] [vI 0] L := rfl
set_option maxRecDepth 100000 in
theorem bti1_3_4 (call : QC FA) (x : Int32) (ls : List (Option PV)) (L : QH FA) (F : Nat) : rnG call 3 (F + 1) 17 ls [vI x] L = some (some (vI x), L) := rfl
set_option maxRecDepth 100000 in
theorem bti1_3_5 (call : QC FA) (x1 : Int32) (z : Nat → Int32) (f : Nat → FA) (F : Nat) : rnG call 3 (F + 3) 2 [some (vR 5), some (vI x1)] [] (LT u z f) = rnG call 3 F 5 [some (vR 5), some (vI x1)] [vI (z 5), vI x1] (LT u z f) := rfl
set_option maxRecDepth 100000 in
theorem bti1_3_6 (call : QC FA) (x y : Int32) (ls : List (Option PV)) (L : QH FA) (F : Nat) : rnG call 3 (F + 1) 5 ls [vI y, vI x] L = bif pcmp 3 x y then rnG call 3 F 16 ls [] L else rnG call 3 F 6 ls [] L := rfl
set_option maxRecDepth 100000 in
theorem bti1_3_7 (call : QC FA) (x1 : Int32) (z : Nat → Int32) (f : Nat → FA) (F : Nat) : rnG call 3 (F + 4) 6 [some (vR 5), some (vI x1)] [] (LT u z f) = rnG call 3 F 10 [some (vR 5), some (vI x1)] [vI (nI 16), vI x1] (LT u z f) := rfl
set_option maxRecDepth 100000 in
theorem bti1_3_8 (call : QC FA) (x y : Int32) (ls : List (Option PV)) (L : QH FA) (F : Nat) : rnG call 3 (F + 1) 10 ls [vI y, vI x] L = bif pcmp 3 x y then rnG call 3 F 16 ls [] L else rnG call 3 F 11 ls [] L := rfl
set_option maxRecDepth 100000 in
theorem bti1_3_9 (call : QC FA) (x1 : Int32) (z : Nat → Int32) (f : Nat → FA) (F : Nat) : rnG call 3 (F + 3) 11 [some (vR 5), some (vI x1)] [] (LT u z f) = rnG call 3 F 14 [some (vR 5), some (vI x1)] [vI x1, vR 6] (LT u z f) := rfl
set_option maxRecDepth 100000 in
theorem bti1_3_10 (call : QC FA) (x : Int32) (ls : List (Option PV)) (z : Nat → Int32) (f : Nat → FA) (F : Nat) : rnG call 3 (F + 1) 14 ls [vI x, vR 6] (LT u z f) = bif (Nat.beq 0 0 && pin x 16) then rnG call 3 F 15 ls [vI (f 6 (ix x))] (LT u z f) else none := rfl
set_option maxRecDepth 100000 in
theorem bti1_3_11 (call : QC FA) (x1 : Int32) (s0 : Int32) (L : QH FA) (F : Nat) : rnG call 3 (F + 1) 15 [some (vR 5), some (vI x1)] [vI s0] L = rnG call 3 F 17 [some (vR 5), some (vI x1)] [vI s0] L := rfl
theorem vcti1_3_0 (call : QC FA) (x1 : Int32) (z : Nat → Int32) (f : Nat → FA) (res : Option PV × QH FA) (H : ((I x1 < 0 → res = (some (vI 0), LT u z f)) ∧ (0 ≤ I x1 → ((I (z 5) ≤ I x1 → res = (some (vI 0), LT u z f)) ∧ (I x1 < I (z 5) → ((I (nI 16) ≤ I x1 → res = (some (vI 0), LT u z f)) ∧ (I x1 < I (nI 16) → (pin x1 16 = true ∧ res = (some (vI (f 6 (ix x1))), LT u z f))))))))) : RC call (mP 3) 0 [some (vR 5), some (vI x1)] [] (LT u z f) res := by
  refine rc_b (i' := 1) (ls' := [some (vR 5), some (vI x1)]) (st' := [vI x1]) (L' := LT u z f) 1 (bti1_3_1 call x1 _) ?_
  refine rc_if (it := 16) (ie := 2) (ls' := [some (vR 5), some (vI x1)]) (st' := []) (bti1_3_2 call x1 _ _) (fun q1 => ?_) (fun q1 => ?_)
  · have H := H.1 (cI2t q1 rfl rfl)
    refine rc_b (i' := 17) (ls' := [some (vR 5), some (vI x1)]) (st' := [vI 0]) (L' := LT u z f) 1 (bti1_3_3 call x1 _) ?_
    subst H
    exact rc_ret (bti1_3_4 call _ _ _)
  · have H := H.2 (cI2f q1 rfl rfl)
    refine rc_b (i' := 5) (ls' := [some (vR 5), some (vI x1)]) (st' := [vI (z 5), vI x1]) (L' := LT u z f) 3 (bti1_3_5 call x1 z f) ?_
    refine rc_if (it := 16) (ie := 6) (ls' := [some (vR 5), some (vI x1)]) (st' := []) (bti1_3_6 call x1 (z 5) _ _) (fun q2 => ?_) (fun q2 => ?_)
    · have H := H.1 (cI3t q2 rfl rfl)
      refine rc_b (i' := 17) (ls' := [some (vR 5), some (vI x1)]) (st' := [vI 0]) (L' := LT u z f) 1 (bti1_3_3 call x1 _) ?_
      subst H
      exact rc_ret (bti1_3_4 call _ _ _)
    · have H := H.2 (cI3f q2 rfl rfl)
      refine rc_b (i' := 10) (ls' := [some (vR 5), some (vI x1)]) (st' := [vI (nI 16), vI x1]) (L' := LT u z f) 4 (bti1_3_7 call x1 z f) ?_
      refine rc_if (it := 16) (ie := 11) (ls' := [some (vR 5), some (vI x1)]) (st' := []) (bti1_3_8 call x1 (nI 16) _ _) (fun q3 => ?_) (fun q3 => ?_)
      · have H := H.1 (cI3t q3 rfl rfl)
        refine rc_b (i' := 17) (ls' := [some (vR 5), some (vI x1)]) (st' := [vI 0]) (L' := LT u z f) 1 (bti1_3_3 call x1 _) ?_
        subst H
        exact rc_ret (bti1_3_4 call _ _ _)
      · have H := H.2 (cI3f q3 rfl rfl)
        refine rc_b (i' := 14) (ls' := [some (vR 5), some (vI x1)]) (st' := [vI x1, vR 6]) (L' := LT u z f) 3 (bti1_3_9 call x1 z f) ?_
        obtain ⟨g1, H⟩ := H
        refine rc_g (i' := 15) (ls' := [some (vR 5), some (vI x1)]) (st' := [vI (f 6 (ix x1))]) (L' := LT u z f) (bti1_3_10 call x1 _ z f) (pinG g1) ?_
        refine rc_b (i' := 17) (ls' := [some (vR 5), some (vI x1)]) (st' := [vI (f 6 (ix x1))]) (L' := LT u z f) 1 (bti1_3_11 call x1 (f 6 (ix x1)) _) ?_
        subst H
        exact rc_ret (bti1_3_4 call _ _ _)
theorem c_it1 (d : Nat) {z : Nat → Int32} {f : Nat → FA} {n k : Nat} (hz : z 5 = nI n) (hn : n ≤ 16) (hk : k < n) : mcall (d + 1) 3 [vR 5, vI (nI k)] (LT u z f) = some (some (vI (f 6 k)), LT u z f) := by
  have go : ∀ res, _ → mcall (d + 1) 3 [vR 5, vI (nI k)] (LT u z f) = some res := fun res H => mcall_i (mq3 (cu := [])).2.2 rfl (vcti1_3_0 (mcall d) (nI k) z f res H)
  rw [hz, I_nI (n := n) (by omega), I_nI (n := k) (by omega), I_nI (n := 16) (by omega), ix_nI (j := k) (by omega)] at go
  exact go _ ⟨fun q => by omega, fun _ => ⟨fun q => by omega, fun _ => ⟨fun q => by omega, fun _ => ⟨pin_nI (by omega) (by omega), rfl⟩⟩⟩⟩
set_option maxRecDepth 100000 in
theorem bti2_3_1 (call : QC FA) (x1 : Int32) (L : QH FA) (F : Nat) : rnG call 3 (F + 1) 0 [some (vR 7), some (vI x1)] [] L = rnG call 3 F 1 [some (vR 7), some (vI x1)] [vI x1] L := rfl
set_option maxRecDepth 100000 in
theorem bti2_3_2 (call : QC FA) (x : Int32) (ls : List (Option PV)) (L : QH FA) (F : Nat) : rnG call 3 (F + 1) 1 ls [vI x] L = bif pcmp 2 x 0 then rnG call 3 F 16 ls [] L else rnG call 3 F 2 ls [] L := rfl
set_option maxRecDepth 100000 in
theorem bti2_3_3 (call : QC FA) (x1 : Int32) (L : QH FA) (F : Nat) : rnG call 3 (F + 1) 16 [some (vR 7), some (vI x1)] [] L = rnG call 3 F 17 [some (vR 7), some (vI x1)] [vI 0] L := rfl
set_option maxRecDepth 100000 in
theorem bti2_3_4 (call : QC FA) (x : Int32) (ls : List (Option PV)) (L : QH FA) (F : Nat) : rnG call 3 (F + 1) 17 ls [vI x] L = some (some (vI x), L) := rfl
set_option maxRecDepth 100000 in
theorem bti2_3_5 (call : QC FA) (x1 : Int32) (z : Nat → Int32) (f : Nat → FA) (F : Nat) : rnG call 3 (F + 3) 2 [some (vR 7), some (vI x1)] [] (LT u z f) = rnG call 3 F 5 [some (vR 7), some (vI x1)] [vI (z 7), vI x1] (LT u z f) := rfl
set_option maxRecDepth 100000 in
theorem bti2_3_6 (call : QC FA) (x y : Int32) (ls : List (Option PV)) (L : QH FA) (F : Nat) : rnG call 3 (F + 1) 5 ls [vI y, vI x] L = bif pcmp 3 x y then rnG call 3 F 16 ls [] L else rnG call 3 F 6 ls [] L := rfl
set_option maxRecDepth 100000 in
theorem bti2_3_7 (call : QC FA) (x1 : Int32) (z : Nat → Int32) (f : Nat → FA) (F : Nat) : rnG call 3 (F + 4) 6 [some (vR 7), some (vI x1)] [] (LT u z f) = rnG call 3 F 10 [some (vR 7), some (vI x1)] [vI (nI 15), vI x1] (LT u z f) := rfl
set_option maxRecDepth 100000 in
theorem bti2_3_8 (call : QC FA) (x y : Int32) (ls : List (Option PV)) (L : QH FA) (F : Nat) : rnG call 3 (F + 1) 10 ls [vI y, vI x] L = bif pcmp 3 x y then rnG call 3 F 16 ls [] L else rnG call 3 F 11 ls [] L := rfl
set_option maxRecDepth 100000 in
theorem bti2_3_9 (call : QC FA) (x1 : Int32) (z : Nat → Int32) (f : Nat → FA) (F : Nat) : rnG call 3 (F + 3) 11 [some (vR 7), some (vI x1)] [] (LT u z f) = rnG call 3 F 14 [some (vR 7), some (vI x1)] [vI x1, vR 8] (LT u z f) := rfl
set_option maxRecDepth 100000 in
theorem bti2_3_10 (call : QC FA) (x : Int32) (ls : List (Option PV)) (z : Nat → Int32) (f : Nat → FA) (F : Nat) : rnG call 3 (F + 1) 14 ls [vI x, vR 8] (LT u z f) = bif (Nat.beq 0 0 && pin x 15) then rnG call 3 F 15 ls [vI (f 8 (ix x))] (LT u z f) else none := rfl
set_option maxRecDepth 100000 in
theorem bti2_3_11 (call : QC FA) (x1 : Int32) (s0 : Int32) (L : QH FA) (F : Nat) : rnG call 3 (F + 1) 15 [some (vR 7), some (vI x1)] [vI s0] L = rnG call 3 F 17 [some (vR 7), some (vI x1)] [vI s0] L := rfl
theorem vcti2_3_0 (call : QC FA) (x1 : Int32) (z : Nat → Int32) (f : Nat → FA) (res : Option PV × QH FA) (H : ((I x1 < 0 → res = (some (vI 0), LT u z f)) ∧ (0 ≤ I x1 → ((I (z 7) ≤ I x1 → res = (some (vI 0), LT u z f)) ∧ (I x1 < I (z 7) → ((I (nI 15) ≤ I x1 → res = (some (vI 0), LT u z f)) ∧ (I x1 < I (nI 15) → (pin x1 15 = true ∧ res = (some (vI (f 8 (ix x1))), LT u z f))))))))) : RC call (mP 3) 0 [some (vR 7), some (vI x1)] [] (LT u z f) res := by
  refine rc_b (i' := 1) (ls' := [some (vR 7), some (vI x1)]) (st' := [vI x1]) (L' := LT u z f) 1 (bti2_3_1 call x1 _) ?_
  refine rc_if (it := 16) (ie := 2) (ls' := [some (vR 7), some (vI x1)]) (st' := []) (bti2_3_2 call x1 _ _) (fun q1 => ?_) (fun q1 => ?_)
  · have H := H.1 (cI2t q1 rfl rfl)
    refine rc_b (i' := 17) (ls' := [some (vR 7), some (vI x1)]) (st' := [vI 0]) (L' := LT u z f) 1 (bti2_3_3 call x1 _) ?_
    subst H
    exact rc_ret (bti2_3_4 call _ _ _)
  · have H := H.2 (cI2f q1 rfl rfl)
    refine rc_b (i' := 5) (ls' := [some (vR 7), some (vI x1)]) (st' := [vI (z 7), vI x1]) (L' := LT u z f) 3 (bti2_3_5 call x1 z f) ?_
    refine rc_if (it := 16) (ie := 6) (ls' := [some (vR 7), some (vI x1)]) (st' := []) (bti2_3_6 call x1 (z 7) _ _) (fun q2 => ?_) (fun q2 => ?_)
    · have H := H.1 (cI3t q2 rfl rfl)
      refine rc_b (i' := 17) (ls' := [some (vR 7), some (vI x1)]) (st' := [vI 0]) (L' := LT u z f) 1 (bti2_3_3 call x1 _) ?_
      subst H
      exact rc_ret (bti2_3_4 call _ _ _)
    · have H := H.2 (cI3f q2 rfl rfl)
      refine rc_b (i' := 10) (ls' := [some (vR 7), some (vI x1)]) (st' := [vI (nI 15), vI x1]) (L' := LT u z f) 4 (bti2_3_7 call x1 z f) ?_
      refine rc_if (it := 16) (ie := 11) (ls' := [some (vR 7), some (vI x1)]) (st' := []) (bti2_3_8 call x1 (nI 15) _ _) (fun q3 => ?_) (fun q3 => ?_)
      · have H := H.1 (cI3t q3 rfl rfl)
        refine rc_b (i' := 17) (ls' := [some (vR 7), some (vI x1)]) (st' := [vI 0]) (L' := LT u z f) 1 (bti2_3_3 call x1 _) ?_
        subst H
        exact rc_ret (bti2_3_4 call _ _ _)
      · have H := H.2 (cI3f q3 rfl rfl)
        refine rc_b (i' := 14) (ls' := [some (vR 7), some (vI x1)]) (st' := [vI x1, vR 8]) (L' := LT u z f) 3 (bti2_3_9 call x1 z f) ?_
        obtain ⟨g1, H⟩ := H
        refine rc_g (i' := 15) (ls' := [some (vR 7), some (vI x1)]) (st' := [vI (f 8 (ix x1))]) (L' := LT u z f) (bti2_3_10 call x1 _ z f) (pinG g1) ?_
        refine rc_b (i' := 17) (ls' := [some (vR 7), some (vI x1)]) (st' := [vI (f 8 (ix x1))]) (L' := LT u z f) 1 (bti2_3_11 call x1 (f 8 (ix x1)) _) ?_
        subst H
        exact rc_ret (bti2_3_4 call _ _ _)
theorem c_it2 (d : Nat) {z : Nat → Int32} {f : Nat → FA} {n k : Nat} (hz : z 7 = nI n) (hn : n ≤ 15) (hk : k < n) : mcall (d + 1) 3 [vR 7, vI (nI k)] (LT u z f) = some (some (vI (f 8 k)), LT u z f) := by
  have go : ∀ res, _ → mcall (d + 1) 3 [vR 7, vI (nI k)] (LT u z f) = some res := fun res H => mcall_i (mq3 (cu := [])).2.2 rfl (vcti2_3_0 (mcall d) (nI k) z f res H)
  rw [hz, I_nI (n := n) (by omega), I_nI (n := k) (by omega), I_nI (n := 15) (by omega), ix_nI (j := k) (by omega)] at go
  exact go _ ⟨fun q => by omega, fun _ => ⟨fun q => by omega, fun _ => ⟨fun q => by omega, fun _ => ⟨pin_nI (by omega) (by omega), rfl⟩⟩⟩⟩
set_option maxRecDepth 100000 in
theorem bti3_3_1 (call : QC FA) (x1 : Int32) (L : QH FA) (F : Nat) : rnG call 3 (F + 1) 0 [some (vR 9), some (vI x1)] [] L = rnG call 3 F 1 [some (vR 9), some (vI x1)] [vI x1] L := rfl
set_option maxRecDepth 100000 in
theorem bti3_3_2 (call : QC FA) (x : Int32) (ls : List (Option PV)) (L : QH FA) (F : Nat) : rnG call 3 (F + 1) 1 ls [vI x] L = bif pcmp 2 x 0 then rnG call 3 F 16 ls [] L else rnG call 3 F 2 ls [] L := rfl
set_option maxRecDepth 100000 in
theorem bti3_3_3 (call : QC FA) (x1 : Int32) (L : QH FA) (F : Nat) : rnG call 3 (F + 1) 16 [some (vR 9), some (vI x1)] [] L = rnG call 3 F 17 [some (vR 9), some (vI x1)] [vI 0] L := rfl
set_option maxRecDepth 100000 in
theorem bti3_3_4 (call : QC FA) (x : Int32) (ls : List (Option PV)) (L : QH FA) (F : Nat) : rnG call 3 (F + 1) 17 ls [vI x] L = some (some (vI x), L) := rfl
set_option maxRecDepth 100000 in
theorem bti3_3_5 (call : QC FA) (x1 : Int32) (z : Nat → Int32) (f : Nat → FA) (F : Nat) : rnG call 3 (F + 3) 2 [some (vR 9), some (vI x1)] [] (LT u z f) = rnG call 3 F 5 [some (vR 9), some (vI x1)] [vI (z 9), vI x1] (LT u z f) := rfl
set_option maxRecDepth 100000 in
theorem bti3_3_6 (call : QC FA) (x y : Int32) (ls : List (Option PV)) (L : QH FA) (F : Nat) : rnG call 3 (F + 1) 5 ls [vI y, vI x] L = bif pcmp 3 x y then rnG call 3 F 16 ls [] L else rnG call 3 F 6 ls [] L := rfl
set_option maxRecDepth 100000 in
theorem bti3_3_7 (call : QC FA) (x1 : Int32) (z : Nat → Int32) (f : Nat → FA) (F : Nat) : rnG call 3 (F + 4) 6 [some (vR 9), some (vI x1)] [] (LT u z f) = rnG call 3 F 10 [some (vR 9), some (vI x1)] [vI (nI 15), vI x1] (LT u z f) := rfl
set_option maxRecDepth 100000 in
theorem bti3_3_8 (call : QC FA) (x y : Int32) (ls : List (Option PV)) (L : QH FA) (F : Nat) : rnG call 3 (F + 1) 10 ls [vI y, vI x] L = bif pcmp 3 x y then rnG call 3 F 16 ls [] L else rnG call 3 F 11 ls [] L := rfl
set_option maxRecDepth 100000 in
theorem bti3_3_9 (call : QC FA) (x1 : Int32) (z : Nat → Int32) (f : Nat → FA) (F : Nat) : rnG call 3 (F + 3) 11 [some (vR 9), some (vI x1)] [] (LT u z f) = rnG call 3 F 14 [some (vR 9), some (vI x1)] [vI x1, vR 10] (LT u z f) := rfl
set_option maxRecDepth 100000 in
theorem bti3_3_10 (call : QC FA) (x : Int32) (ls : List (Option PV)) (z : Nat → Int32) (f : Nat → FA) (F : Nat) : rnG call 3 (F + 1) 14 ls [vI x, vR 10] (LT u z f) = bif (Nat.beq 0 0 && pin x 15) then rnG call 3 F 15 ls [vI (f 10 (ix x))] (LT u z f) else none := rfl
set_option maxRecDepth 100000 in
theorem bti3_3_11 (call : QC FA) (x1 : Int32) (s0 : Int32) (L : QH FA) (F : Nat) : rnG call 3 (F + 1) 15 [some (vR 9), some (vI x1)] [vI s0] L = rnG call 3 F 17 [some (vR 9), some (vI x1)] [vI s0] L := rfl
theorem vcti3_3_0 (call : QC FA) (x1 : Int32) (z : Nat → Int32) (f : Nat → FA) (res : Option PV × QH FA) (H : ((I x1 < 0 → res = (some (vI 0), LT u z f)) ∧ (0 ≤ I x1 → ((I (z 9) ≤ I x1 → res = (some (vI 0), LT u z f)) ∧ (I x1 < I (z 9) → ((I (nI 15) ≤ I x1 → res = (some (vI 0), LT u z f)) ∧ (I x1 < I (nI 15) → (pin x1 15 = true ∧ res = (some (vI (f 10 (ix x1))), LT u z f))))))))) : RC call (mP 3) 0 [some (vR 9), some (vI x1)] [] (LT u z f) res := by
  refine rc_b (i' := 1) (ls' := [some (vR 9), some (vI x1)]) (st' := [vI x1]) (L' := LT u z f) 1 (bti3_3_1 call x1 _) ?_
  refine rc_if (it := 16) (ie := 2) (ls' := [some (vR 9), some (vI x1)]) (st' := []) (bti3_3_2 call x1 _ _) (fun q1 => ?_) (fun q1 => ?_)
  · have H := H.1 (cI2t q1 rfl rfl)
    refine rc_b (i' := 17) (ls' := [some (vR 9), some (vI x1)]) (st' := [vI 0]) (L' := LT u z f) 1 (bti3_3_3 call x1 _) ?_
    subst H
    exact rc_ret (bti3_3_4 call _ _ _)
  · have H := H.2 (cI2f q1 rfl rfl)
    refine rc_b (i' := 5) (ls' := [some (vR 9), some (vI x1)]) (st' := [vI (z 9), vI x1]) (L' := LT u z f) 3 (bti3_3_5 call x1 z f) ?_
    refine rc_if (it := 16) (ie := 6) (ls' := [some (vR 9), some (vI x1)]) (st' := []) (bti3_3_6 call x1 (z 9) _ _) (fun q2 => ?_) (fun q2 => ?_)
    · have H := H.1 (cI3t q2 rfl rfl)
      refine rc_b (i' := 17) (ls' := [some (vR 9), some (vI x1)]) (st' := [vI 0]) (L' := LT u z f) 1 (bti3_3_3 call x1 _) ?_
      subst H
      exact rc_ret (bti3_3_4 call _ _ _)
    · have H := H.2 (cI3f q2 rfl rfl)
      refine rc_b (i' := 10) (ls' := [some (vR 9), some (vI x1)]) (st' := [vI (nI 15), vI x1]) (L' := LT u z f) 4 (bti3_3_7 call x1 z f) ?_
      refine rc_if (it := 16) (ie := 11) (ls' := [some (vR 9), some (vI x1)]) (st' := []) (bti3_3_8 call x1 (nI 15) _ _) (fun q3 => ?_) (fun q3 => ?_)
      · have H := H.1 (cI3t q3 rfl rfl)
        refine rc_b (i' := 17) (ls' := [some (vR 9), some (vI x1)]) (st' := [vI 0]) (L' := LT u z f) 1 (bti3_3_3 call x1 _) ?_
        subst H
        exact rc_ret (bti3_3_4 call _ _ _)
      · have H := H.2 (cI3f q3 rfl rfl)
        refine rc_b (i' := 14) (ls' := [some (vR 9), some (vI x1)]) (st' := [vI x1, vR 10]) (L' := LT u z f) 3 (bti3_3_9 call x1 z f) ?_
        obtain ⟨g1, H⟩ := H
        refine rc_g (i' := 15) (ls' := [some (vR 9), some (vI x1)]) (st' := [vI (f 10 (ix x1))]) (L' := LT u z f) (bti3_3_10 call x1 _ z f) (pinG g1) ?_
        refine rc_b (i' := 17) (ls' := [some (vR 9), some (vI x1)]) (st' := [vI (f 10 (ix x1))]) (L' := LT u z f) 1 (bti3_3_11 call x1 (f 10 (ix x1)) _) ?_
        subst H
        exact rc_ret (bti3_3_4 call _ _ _)
theorem c_it3 (d : Nat) {z : Nat → Int32} {f : Nat → FA} {n k : Nat} (hz : z 9 = nI n) (hn : n ≤ 15) (hk : k < n) : mcall (d + 1) 3 [vR 9, vI (nI k)] (LT u z f) = some (some (vI (f 10 k)), LT u z f) := by
  have go : ∀ res, _ → mcall (d + 1) 3 [vR 9, vI (nI k)] (LT u z f) = some res := fun res H => mcall_i (mq3 (cu := [])).2.2 rfl (vcti3_3_0 (mcall d) (nI k) z f res H)
  rw [hz, I_nI (n := n) (by omega), I_nI (n := k) (by omega), I_nI (n := 15) (by omega), ix_nI (j := k) (by omega)] at go
  exact go _ ⟨fun q => by omega, fun _ => ⟨fun q => by omega, fun _ => ⟨fun q => by omega, fun _ => ⟨pin_nI (by omega) (by omega), rfl⟩⟩⟩⟩
set_option maxRecDepth 100000 in
theorem bti4_3_1 (call : QC FA) (x1 : Int32) (L : QH FA) (F : Nat) : rnG call 3 (F + 1) 0 [some (vR 11), some (vI x1)] [] L = rnG call 3 F 1 [some (vR 11), some (vI x1)] [vI x1] L := rfl
set_option maxRecDepth 100000 in
theorem bti4_3_2 (call : QC FA) (x : Int32) (ls : List (Option PV)) (L : QH FA) (F : Nat) : rnG call 3 (F + 1) 1 ls [vI x] L = bif pcmp 2 x 0 then rnG call 3 F 16 ls [] L else rnG call 3 F 2 ls [] L := rfl
set_option maxRecDepth 100000 in
theorem bti4_3_3 (call : QC FA) (x1 : Int32) (L : QH FA) (F : Nat) : rnG call 3 (F + 1) 16 [some (vR 11), some (vI x1)] [] L = rnG call 3 F 17 [some (vR 11), some (vI x1)] [vI 0] L := rfl
set_option maxRecDepth 100000 in
theorem bti4_3_4 (call : QC FA) (x : Int32) (ls : List (Option PV)) (L : QH FA) (F : Nat) : rnG call 3 (F + 1) 17 ls [vI x] L = some (some (vI x), L) := rfl
set_option maxRecDepth 100000 in
theorem bti4_3_5 (call : QC FA) (x1 : Int32) (z : Nat → Int32) (f : Nat → FA) (F : Nat) : rnG call 3 (F + 3) 2 [some (vR 11), some (vI x1)] [] (LT u z f) = rnG call 3 F 5 [some (vR 11), some (vI x1)] [vI (z 11), vI x1] (LT u z f) := rfl
set_option maxRecDepth 100000 in
theorem bti4_3_6 (call : QC FA) (x y : Int32) (ls : List (Option PV)) (L : QH FA) (F : Nat) : rnG call 3 (F + 1) 5 ls [vI y, vI x] L = bif pcmp 3 x y then rnG call 3 F 16 ls [] L else rnG call 3 F 6 ls [] L := rfl
set_option maxRecDepth 100000 in
theorem bti4_3_7 (call : QC FA) (x1 : Int32) (z : Nat → Int32) (f : Nat → FA) (F : Nat) : rnG call 3 (F + 4) 6 [some (vR 11), some (vI x1)] [] (LT u z f) = rnG call 3 F 10 [some (vR 11), some (vI x1)] [vI (nI 8), vI x1] (LT u z f) := rfl
set_option maxRecDepth 100000 in
theorem bti4_3_8 (call : QC FA) (x y : Int32) (ls : List (Option PV)) (L : QH FA) (F : Nat) : rnG call 3 (F + 1) 10 ls [vI y, vI x] L = bif pcmp 3 x y then rnG call 3 F 16 ls [] L else rnG call 3 F 11 ls [] L := rfl
set_option maxRecDepth 100000 in
theorem bti4_3_9 (call : QC FA) (x1 : Int32) (z : Nat → Int32) (f : Nat → FA) (F : Nat) : rnG call 3 (F + 3) 11 [some (vR 11), some (vI x1)] [] (LT u z f) = rnG call 3 F 14 [some (vR 11), some (vI x1)] [vI x1, vR 12] (LT u z f) := rfl
set_option maxRecDepth 100000 in
theorem bti4_3_10 (call : QC FA) (x : Int32) (ls : List (Option PV)) (z : Nat → Int32) (f : Nat → FA) (F : Nat) : rnG call 3 (F + 1) 14 ls [vI x, vR 12] (LT u z f) = bif (Nat.beq 0 0 && pin x 8) then rnG call 3 F 15 ls [vI (f 12 (ix x))] (LT u z f) else none := rfl
set_option maxRecDepth 100000 in
theorem bti4_3_11 (call : QC FA) (x1 : Int32) (s0 : Int32) (L : QH FA) (F : Nat) : rnG call 3 (F + 1) 15 [some (vR 11), some (vI x1)] [vI s0] L = rnG call 3 F 17 [some (vR 11), some (vI x1)] [vI s0] L := rfl
theorem vcti4_3_0 (call : QC FA) (x1 : Int32) (z : Nat → Int32) (f : Nat → FA) (res : Option PV × QH FA) (H : ((I x1 < 0 → res = (some (vI 0), LT u z f)) ∧ (0 ≤ I x1 → ((I (z 11) ≤ I x1 → res = (some (vI 0), LT u z f)) ∧ (I x1 < I (z 11) → ((I (nI 8) ≤ I x1 → res = (some (vI 0), LT u z f)) ∧ (I x1 < I (nI 8) → (pin x1 8 = true ∧ res = (some (vI (f 12 (ix x1))), LT u z f))))))))) : RC call (mP 3) 0 [some (vR 11), some (vI x1)] [] (LT u z f) res := by
  refine rc_b (i' := 1) (ls' := [some (vR 11), some (vI x1)]) (st' := [vI x1]) (L' := LT u z f) 1 (bti4_3_1 call x1 _) ?_
  refine rc_if (it := 16) (ie := 2) (ls' := [some (vR 11), some (vI x1)]) (st' := []) (bti4_3_2 call x1 _ _) (fun q1 => ?_) (fun q1 => ?_)
  · have H := H.1 (cI2t q1 rfl rfl)
    refine rc_b (i' := 17) (ls' := [some (vR 11), some (vI x1)]) (st' := [vI 0]) (L' := LT u z f) 1 (bti4_3_3 call x1 _) ?_
    subst H
    exact rc_ret (bti4_3_4 call _ _ _)
  · have H := H.2 (cI2f q1 rfl rfl)
    refine rc_b (i' := 5) (ls' := [some (vR 11), some (vI x1)]) (st' := [vI (z 11), vI x1]) (L' := LT u z f) 3 (bti4_3_5 call x1 z f) ?_
    refine rc_if (it := 16) (ie := 6) (ls' := [some (vR 11), some (vI x1)]) (st' := []) (bti4_3_6 call x1 (z 11) _ _) (fun q2 => ?_) (fun q2 => ?_)
    · have H := H.1 (cI3t q2 rfl rfl)
      refine rc_b (i' := 17) (ls' := [some (vR 11), some (vI x1)]) (st' := [vI 0]) (L' := LT u z f) 1 (bti4_3_3 call x1 _) ?_
      subst H
      exact rc_ret (bti4_3_4 call _ _ _)
    · have H := H.2 (cI3f q2 rfl rfl)
      refine rc_b (i' := 10) (ls' := [some (vR 11), some (vI x1)]) (st' := [vI (nI 8), vI x1]) (L' := LT u z f) 4 (bti4_3_7 call x1 z f) ?_
      refine rc_if (it := 16) (ie := 11) (ls' := [some (vR 11), some (vI x1)]) (st' := []) (bti4_3_8 call x1 (nI 8) _ _) (fun q3 => ?_) (fun q3 => ?_)
      · have H := H.1 (cI3t q3 rfl rfl)
        refine rc_b (i' := 17) (ls' := [some (vR 11), some (vI x1)]) (st' := [vI 0]) (L' := LT u z f) 1 (bti4_3_3 call x1 _) ?_
        subst H
        exact rc_ret (bti4_3_4 call _ _ _)
      · have H := H.2 (cI3f q3 rfl rfl)
        refine rc_b (i' := 14) (ls' := [some (vR 11), some (vI x1)]) (st' := [vI x1, vR 12]) (L' := LT u z f) 3 (bti4_3_9 call x1 z f) ?_
        obtain ⟨g1, H⟩ := H
        refine rc_g (i' := 15) (ls' := [some (vR 11), some (vI x1)]) (st' := [vI (f 12 (ix x1))]) (L' := LT u z f) (bti4_3_10 call x1 _ z f) (pinG g1) ?_
        refine rc_b (i' := 17) (ls' := [some (vR 11), some (vI x1)]) (st' := [vI (f 12 (ix x1))]) (L' := LT u z f) 1 (bti4_3_11 call x1 (f 12 (ix x1)) _) ?_
        subst H
        exact rc_ret (bti4_3_4 call _ _ _)
theorem c_it4 (d : Nat) {z : Nat → Int32} {f : Nat → FA} {n k : Nat} (hz : z 11 = nI n) (hn : n ≤ 8) (hk : k < n) : mcall (d + 1) 3 [vR 11, vI (nI k)] (LT u z f) = some (some (vI (f 12 k)), LT u z f) := by
  have go : ∀ res, _ → mcall (d + 1) 3 [vR 11, vI (nI k)] (LT u z f) = some res := fun res H => mcall_i (mq3 (cu := [])).2.2 rfl (vcti4_3_0 (mcall d) (nI k) z f res H)
  rw [hz, I_nI (n := n) (by omega), I_nI (n := k) (by omega), I_nI (n := 8) (by omega), ix_nI (j := k) (by omega)] at go
  exact go _ ⟨fun q => by omega, fun _ => ⟨fun q => by omega, fun _ => ⟨fun q => by omega, fun _ => ⟨pin_nI (by omega) (by omega), rfl⟩⟩⟩⟩
set_option maxRecDepth 100000 in
theorem bti5_3_1 (call : QC FA) (x1 : Int32) (L : QH FA) (F : Nat) : rnG call 3 (F + 1) 0 [some (vR 13), some (vI x1)] [] L = rnG call 3 F 1 [some (vR 13), some (vI x1)] [vI x1] L := rfl
set_option maxRecDepth 100000 in
theorem bti5_3_2 (call : QC FA) (x : Int32) (ls : List (Option PV)) (L : QH FA) (F : Nat) : rnG call 3 (F + 1) 1 ls [vI x] L = bif pcmp 2 x 0 then rnG call 3 F 16 ls [] L else rnG call 3 F 2 ls [] L := rfl
set_option maxRecDepth 100000 in
theorem bti5_3_3 (call : QC FA) (x1 : Int32) (L : QH FA) (F : Nat) : rnG call 3 (F + 1) 16 [some (vR 13), some (vI x1)] [] L = rnG call 3 F 17 [some (vR 13), some (vI x1)] [vI 0] L := rfl
set_option maxRecDepth 100000 in
theorem bti5_3_4 (call : QC FA) (x : Int32) (ls : List (Option PV)) (L : QH FA) (F : Nat) : rnG call 3 (F + 1) 17 ls [vI x] L = some (some (vI x), L) := rfl
set_option maxRecDepth 100000 in
theorem bti5_3_5 (call : QC FA) (x1 : Int32) (z : Nat → Int32) (f : Nat → FA) (F : Nat) : rnG call 3 (F + 3) 2 [some (vR 13), some (vI x1)] [] (LT u z f) = rnG call 3 F 5 [some (vR 13), some (vI x1)] [vI (z 13), vI x1] (LT u z f) := rfl
set_option maxRecDepth 100000 in
theorem bti5_3_6 (call : QC FA) (x y : Int32) (ls : List (Option PV)) (L : QH FA) (F : Nat) : rnG call 3 (F + 1) 5 ls [vI y, vI x] L = bif pcmp 3 x y then rnG call 3 F 16 ls [] L else rnG call 3 F 6 ls [] L := rfl
set_option maxRecDepth 100000 in
theorem bti5_3_7 (call : QC FA) (x1 : Int32) (z : Nat → Int32) (f : Nat → FA) (F : Nat) : rnG call 3 (F + 4) 6 [some (vR 13), some (vI x1)] [] (LT u z f) = rnG call 3 F 10 [some (vR 13), some (vI x1)] [vI (nI 8), vI x1] (LT u z f) := rfl
set_option maxRecDepth 100000 in
theorem bti5_3_8 (call : QC FA) (x y : Int32) (ls : List (Option PV)) (L : QH FA) (F : Nat) : rnG call 3 (F + 1) 10 ls [vI y, vI x] L = bif pcmp 3 x y then rnG call 3 F 16 ls [] L else rnG call 3 F 11 ls [] L := rfl
set_option maxRecDepth 100000 in
theorem bti5_3_9 (call : QC FA) (x1 : Int32) (z : Nat → Int32) (f : Nat → FA) (F : Nat) : rnG call 3 (F + 3) 11 [some (vR 13), some (vI x1)] [] (LT u z f) = rnG call 3 F 14 [some (vR 13), some (vI x1)] [vI x1, vR 14] (LT u z f) := rfl
set_option maxRecDepth 100000 in
theorem bti5_3_10 (call : QC FA) (x : Int32) (ls : List (Option PV)) (z : Nat → Int32) (f : Nat → FA) (F : Nat) : rnG call 3 (F + 1) 14 ls [vI x, vR 14] (LT u z f) = bif (Nat.beq 0 0 && pin x 8) then rnG call 3 F 15 ls [vI (f 14 (ix x))] (LT u z f) else none := rfl
set_option maxRecDepth 100000 in
theorem bti5_3_11 (call : QC FA) (x1 : Int32) (s0 : Int32) (L : QH FA) (F : Nat) : rnG call 3 (F + 1) 15 [some (vR 13), some (vI x1)] [vI s0] L = rnG call 3 F 17 [some (vR 13), some (vI x1)] [vI s0] L := rfl
theorem vcti5_3_0 (call : QC FA) (x1 : Int32) (z : Nat → Int32) (f : Nat → FA) (res : Option PV × QH FA) (H : ((I x1 < 0 → res = (some (vI 0), LT u z f)) ∧ (0 ≤ I x1 → ((I (z 13) ≤ I x1 → res = (some (vI 0), LT u z f)) ∧ (I x1 < I (z 13) → ((I (nI 8) ≤ I x1 → res = (some (vI 0), LT u z f)) ∧ (I x1 < I (nI 8) → (pin x1 8 = true ∧ res = (some (vI (f 14 (ix x1))), LT u z f))))))))) : RC call (mP 3) 0 [some (vR 13), some (vI x1)] [] (LT u z f) res := by
  refine rc_b (i' := 1) (ls' := [some (vR 13), some (vI x1)]) (st' := [vI x1]) (L' := LT u z f) 1 (bti5_3_1 call x1 _) ?_
  refine rc_if (it := 16) (ie := 2) (ls' := [some (vR 13), some (vI x1)]) (st' := []) (bti5_3_2 call x1 _ _) (fun q1 => ?_) (fun q1 => ?_)
  · have H := H.1 (cI2t q1 rfl rfl)
    refine rc_b (i' := 17) (ls' := [some (vR 13), some (vI x1)]) (st' := [vI 0]) (L' := LT u z f) 1 (bti5_3_3 call x1 _) ?_
    subst H
    exact rc_ret (bti5_3_4 call _ _ _)
  · have H := H.2 (cI2f q1 rfl rfl)
    refine rc_b (i' := 5) (ls' := [some (vR 13), some (vI x1)]) (st' := [vI (z 13), vI x1]) (L' := LT u z f) 3 (bti5_3_5 call x1 z f) ?_
    refine rc_if (it := 16) (ie := 6) (ls' := [some (vR 13), some (vI x1)]) (st' := []) (bti5_3_6 call x1 (z 13) _ _) (fun q2 => ?_) (fun q2 => ?_)
    · have H := H.1 (cI3t q2 rfl rfl)
      refine rc_b (i' := 17) (ls' := [some (vR 13), some (vI x1)]) (st' := [vI 0]) (L' := LT u z f) 1 (bti5_3_3 call x1 _) ?_
      subst H
      exact rc_ret (bti5_3_4 call _ _ _)
    · have H := H.2 (cI3f q2 rfl rfl)
      refine rc_b (i' := 10) (ls' := [some (vR 13), some (vI x1)]) (st' := [vI (nI 8), vI x1]) (L' := LT u z f) 4 (bti5_3_7 call x1 z f) ?_
      refine rc_if (it := 16) (ie := 11) (ls' := [some (vR 13), some (vI x1)]) (st' := []) (bti5_3_8 call x1 (nI 8) _ _) (fun q3 => ?_) (fun q3 => ?_)
      · have H := H.1 (cI3t q3 rfl rfl)
        refine rc_b (i' := 17) (ls' := [some (vR 13), some (vI x1)]) (st' := [vI 0]) (L' := LT u z f) 1 (bti5_3_3 call x1 _) ?_
        subst H
        exact rc_ret (bti5_3_4 call _ _ _)
      · have H := H.2 (cI3f q3 rfl rfl)
        refine rc_b (i' := 14) (ls' := [some (vR 13), some (vI x1)]) (st' := [vI x1, vR 14]) (L' := LT u z f) 3 (bti5_3_9 call x1 z f) ?_
        obtain ⟨g1, H⟩ := H
        refine rc_g (i' := 15) (ls' := [some (vR 13), some (vI x1)]) (st' := [vI (f 14 (ix x1))]) (L' := LT u z f) (bti5_3_10 call x1 _ z f) (pinG g1) ?_
        refine rc_b (i' := 17) (ls' := [some (vR 13), some (vI x1)]) (st' := [vI (f 14 (ix x1))]) (L' := LT u z f) 1 (bti5_3_11 call x1 (f 14 (ix x1)) _) ?_
        subst H
        exact rc_ret (bti5_3_4 call _ _ _)
theorem c_it5 (d : Nat) {z : Nat → Int32} {f : Nat → FA} {n k : Nat} (hz : z 13 = nI n) (hn : n ≤ 8) (hk : k < n) : mcall (d + 1) 3 [vR 13, vI (nI k)] (LT u z f) = some (some (vI (f 14 k)), LT u z f) := by
  have go : ∀ res, _ → mcall (d + 1) 3 [vR 13, vI (nI k)] (LT u z f) = some res := fun res H => mcall_i (mq3 (cu := [])).2.2 rfl (vcti5_3_0 (mcall d) (nI k) z f res H)
  rw [hz, I_nI (n := n) (by omega), I_nI (n := k) (by omega), I_nI (n := 8) (by omega), ix_nI (j := k) (by omega)] at go
  exact go _ ⟨fun q => by omega, fun _ => ⟨fun q => by omega, fun _ => ⟨fun q => by omega, fun _ => ⟨pin_nI (by omega) (by omega), rfl⟩⟩⟩⟩
set_option maxRecDepth 100000 in
theorem bti6_3_1 (call : QC FA) (x1 : Int32) (L : QH FA) (F : Nat) : rnG call 3 (F + 1) 0 [some (vR 15), some (vI x1)] [] L = rnG call 3 F 1 [some (vR 15), some (vI x1)] [vI x1] L := rfl
set_option maxRecDepth 100000 in
theorem bti6_3_2 (call : QC FA) (x : Int32) (ls : List (Option PV)) (L : QH FA) (F : Nat) : rnG call 3 (F + 1) 1 ls [vI x] L = bif pcmp 2 x 0 then rnG call 3 F 16 ls [] L else rnG call 3 F 2 ls [] L := rfl
set_option maxRecDepth 100000 in
theorem bti6_3_3 (call : QC FA) (x1 : Int32) (L : QH FA) (F : Nat) : rnG call 3 (F + 1) 16 [some (vR 15), some (vI x1)] [] L = rnG call 3 F 17 [some (vR 15), some (vI x1)] [vI 0] L := rfl
set_option maxRecDepth 100000 in
theorem bti6_3_4 (call : QC FA) (x : Int32) (ls : List (Option PV)) (L : QH FA) (F : Nat) : rnG call 3 (F + 1) 17 ls [vI x] L = some (some (vI x), L) := rfl
set_option maxRecDepth 100000 in
theorem bti6_3_5 (call : QC FA) (x1 : Int32) (z : Nat → Int32) (f : Nat → FA) (F : Nat) : rnG call 3 (F + 3) 2 [some (vR 15), some (vI x1)] [] (LT u z f) = rnG call 3 F 5 [some (vR 15), some (vI x1)] [vI (z 15), vI x1] (LT u z f) := rfl
set_option maxRecDepth 100000 in
theorem bti6_3_6 (call : QC FA) (x y : Int32) (ls : List (Option PV)) (L : QH FA) (F : Nat) : rnG call 3 (F + 1) 5 ls [vI y, vI x] L = bif pcmp 3 x y then rnG call 3 F 16 ls [] L else rnG call 3 F 6 ls [] L := rfl
set_option maxRecDepth 100000 in
theorem bti6_3_7 (call : QC FA) (x1 : Int32) (z : Nat → Int32) (f : Nat → FA) (F : Nat) : rnG call 3 (F + 4) 6 [some (vR 15), some (vI x1)] [] (LT u z f) = rnG call 3 F 10 [some (vR 15), some (vI x1)] [vI (nI 12), vI x1] (LT u z f) := rfl
set_option maxRecDepth 100000 in
theorem bti6_3_8 (call : QC FA) (x y : Int32) (ls : List (Option PV)) (L : QH FA) (F : Nat) : rnG call 3 (F + 1) 10 ls [vI y, vI x] L = bif pcmp 3 x y then rnG call 3 F 16 ls [] L else rnG call 3 F 11 ls [] L := rfl
set_option maxRecDepth 100000 in
theorem bti6_3_9 (call : QC FA) (x1 : Int32) (z : Nat → Int32) (f : Nat → FA) (F : Nat) : rnG call 3 (F + 3) 11 [some (vR 15), some (vI x1)] [] (LT u z f) = rnG call 3 F 14 [some (vR 15), some (vI x1)] [vI x1, vR 16] (LT u z f) := rfl
set_option maxRecDepth 100000 in
theorem bti6_3_10 (call : QC FA) (x : Int32) (ls : List (Option PV)) (z : Nat → Int32) (f : Nat → FA) (F : Nat) : rnG call 3 (F + 1) 14 ls [vI x, vR 16] (LT u z f) = bif (Nat.beq 0 0 && pin x 12) then rnG call 3 F 15 ls [vI (f 16 (ix x))] (LT u z f) else none := rfl
set_option maxRecDepth 100000 in
theorem bti6_3_11 (call : QC FA) (x1 : Int32) (s0 : Int32) (L : QH FA) (F : Nat) : rnG call 3 (F + 1) 15 [some (vR 15), some (vI x1)] [vI s0] L = rnG call 3 F 17 [some (vR 15), some (vI x1)] [vI s0] L := rfl
theorem vcti6_3_0 (call : QC FA) (x1 : Int32) (z : Nat → Int32) (f : Nat → FA) (res : Option PV × QH FA) (H : ((I x1 < 0 → res = (some (vI 0), LT u z f)) ∧ (0 ≤ I x1 → ((I (z 15) ≤ I x1 → res = (some (vI 0), LT u z f)) ∧ (I x1 < I (z 15) → ((I (nI 12) ≤ I x1 → res = (some (vI 0), LT u z f)) ∧ (I x1 < I (nI 12) → (pin x1 12 = true ∧ res = (some (vI (f 16 (ix x1))), LT u z f))))))))) : RC call (mP 3) 0 [some (vR 15), some (vI x1)] [] (LT u z f) res := by
  refine rc_b (i' := 1) (ls' := [some (vR 15), some (vI x1)]) (st' := [vI x1]) (L' := LT u z f) 1 (bti6_3_1 call x1 _) ?_
  refine rc_if (it := 16) (ie := 2) (ls' := [some (vR 15), some (vI x1)]) (st' := []) (bti6_3_2 call x1 _ _) (fun q1 => ?_) (fun q1 => ?_)
  · have H := H.1 (cI2t q1 rfl rfl)
    refine rc_b (i' := 17) (ls' := [some (vR 15), some (vI x1)]) (st' := [vI 0]) (L' := LT u z f) 1 (bti6_3_3 call x1 _) ?_
    subst H
    exact rc_ret (bti6_3_4 call _ _ _)
  · have H := H.2 (cI2f q1 rfl rfl)
    refine rc_b (i' := 5) (ls' := [some (vR 15), some (vI x1)]) (st' := [vI (z 15), vI x1]) (L' := LT u z f) 3 (bti6_3_5 call x1 z f) ?_
    refine rc_if (it := 16) (ie := 6) (ls' := [some (vR 15), some (vI x1)]) (st' := []) (bti6_3_6 call x1 (z 15) _ _) (fun q2 => ?_) (fun q2 => ?_)
    · have H := H.1 (cI3t q2 rfl rfl)
      refine rc_b (i' := 17) (ls' := [some (vR 15), some (vI x1)]) (st' := [vI 0]) (L' := LT u z f) 1 (bti6_3_3 call x1 _) ?_
      subst H
      exact rc_ret (bti6_3_4 call _ _ _)
    · have H := H.2 (cI3f q2 rfl rfl)
      refine rc_b (i' := 10) (ls' := [some (vR 15), some (vI x1)]) (st' := [vI (nI 12), vI x1]) (L' := LT u z f) 4 (bti6_3_7 call x1 z f) ?_
      refine rc_if (it := 16) (ie := 11) (ls' := [some (vR 15), some (vI x1)]) (st' := []) (bti6_3_8 call x1 (nI 12) _ _) (fun q3 => ?_) (fun q3 => ?_)
      · have H := H.1 (cI3t q3 rfl rfl)
        refine rc_b (i' := 17) (ls' := [some (vR 15), some (vI x1)]) (st' := [vI 0]) (L' := LT u z f) 1 (bti6_3_3 call x1 _) ?_
        subst H
        exact rc_ret (bti6_3_4 call _ _ _)
      · have H := H.2 (cI3f q3 rfl rfl)
        refine rc_b (i' := 14) (ls' := [some (vR 15), some (vI x1)]) (st' := [vI x1, vR 16]) (L' := LT u z f) 3 (bti6_3_9 call x1 z f) ?_
        obtain ⟨g1, H⟩ := H
        refine rc_g (i' := 15) (ls' := [some (vR 15), some (vI x1)]) (st' := [vI (f 16 (ix x1))]) (L' := LT u z f) (bti6_3_10 call x1 _ z f) (pinG g1) ?_
        refine rc_b (i' := 17) (ls' := [some (vR 15), some (vI x1)]) (st' := [vI (f 16 (ix x1))]) (L' := LT u z f) 1 (bti6_3_11 call x1 (f 16 (ix x1)) _) ?_
        subst H
        exact rc_ret (bti6_3_4 call _ _ _)
theorem c_it6 (d : Nat) {z : Nat → Int32} {f : Nat → FA} {n k : Nat} (hz : z 15 = nI n) (hn : n ≤ 12) (hk : k < n) : mcall (d + 1) 3 [vR 15, vI (nI k)] (LT u z f) = some (some (vI (f 16 k)), LT u z f) := by
  have go : ∀ res, _ → mcall (d + 1) 3 [vR 15, vI (nI k)] (LT u z f) = some res := fun res H => mcall_i (mq3 (cu := [])).2.2 rfl (vcti6_3_0 (mcall d) (nI k) z f res H)
  rw [hz, I_nI (n := n) (by omega), I_nI (n := k) (by omega), I_nI (n := 12) (by omega), ix_nI (j := k) (by omega)] at go
  exact go _ ⟨fun q => by omega, fun _ => ⟨fun q => by omega, fun _ => ⟨fun q => by omega, fun _ => ⟨pin_nI (by omega) (by omega), rfl⟩⟩⟩⟩
set_option maxRecDepth 100000 in
theorem bti7_3_1 (call : QC FA) (x1 : Int32) (L : QH FA) (F : Nat) : rnG call 3 (F + 1) 0 [some (vR 17), some (vI x1)] [] L = rnG call 3 F 1 [some (vR 17), some (vI x1)] [vI x1] L := rfl
set_option maxRecDepth 100000 in
theorem bti7_3_2 (call : QC FA) (x : Int32) (ls : List (Option PV)) (L : QH FA) (F : Nat) : rnG call 3 (F + 1) 1 ls [vI x] L = bif pcmp 2 x 0 then rnG call 3 F 16 ls [] L else rnG call 3 F 2 ls [] L := rfl
set_option maxRecDepth 100000 in
theorem bti7_3_3 (call : QC FA) (x1 : Int32) (L : QH FA) (F : Nat) : rnG call 3 (F + 1) 16 [some (vR 17), some (vI x1)] [] L = rnG call 3 F 17 [some (vR 17), some (vI x1)] [vI 0] L := rfl
set_option maxRecDepth 100000 in
theorem bti7_3_4 (call : QC FA) (x : Int32) (ls : List (Option PV)) (L : QH FA) (F : Nat) : rnG call 3 (F + 1) 17 ls [vI x] L = some (some (vI x), L) := rfl
set_option maxRecDepth 100000 in
theorem bti7_3_5 (call : QC FA) (x1 : Int32) (z : Nat → Int32) (f : Nat → FA) (F : Nat) : rnG call 3 (F + 3) 2 [some (vR 17), some (vI x1)] [] (LT u z f) = rnG call 3 F 5 [some (vR 17), some (vI x1)] [vI (z 17), vI x1] (LT u z f) := rfl
set_option maxRecDepth 100000 in
theorem bti7_3_6 (call : QC FA) (x y : Int32) (ls : List (Option PV)) (L : QH FA) (F : Nat) : rnG call 3 (F + 1) 5 ls [vI y, vI x] L = bif pcmp 3 x y then rnG call 3 F 16 ls [] L else rnG call 3 F 6 ls [] L := rfl
set_option maxRecDepth 100000 in
theorem bti7_3_7 (call : QC FA) (x1 : Int32) (z : Nat → Int32) (f : Nat → FA) (F : Nat) : rnG call 3 (F + 4) 6 [some (vR 17), some (vI x1)] [] (LT u z f) = rnG call 3 F 10 [some (vR 17), some (vI x1)] [vI (nI 12), vI x1] (LT u z f) := rfl
set_option maxRecDepth 100000 in
theorem bti7_3_8 (call : QC FA) (x y : Int32) (ls : List (Option PV)) (L : QH FA) (F : Nat) : rnG call 3 (F + 1) 10 ls [vI y, vI x] L = bif pcmp 3 x y then rnG call 3 F 16 ls [] L else rnG call 3 F 11 ls [] L := rfl
set_option maxRecDepth 100000 in
theorem bti7_3_9 (call : QC FA) (x1 : Int32) (z : Nat → Int32) (f : Nat → FA) (F : Nat) : rnG call 3 (F + 3) 11 [some (vR 17), some (vI x1)] [] (LT u z f) = rnG call 3 F 14 [some (vR 17), some (vI x1)] [vI x1, vR 18] (LT u z f) := rfl
set_option maxRecDepth 100000 in
theorem bti7_3_10 (call : QC FA) (x : Int32) (ls : List (Option PV)) (z : Nat → Int32) (f : Nat → FA) (F : Nat) : rnG call 3 (F + 1) 14 ls [vI x, vR 18] (LT u z f) = bif (Nat.beq 0 0 && pin x 12) then rnG call 3 F 15 ls [vI (f 18 (ix x))] (LT u z f) else none := rfl
set_option maxRecDepth 100000 in
theorem bti7_3_11 (call : QC FA) (x1 : Int32) (s0 : Int32) (L : QH FA) (F : Nat) : rnG call 3 (F + 1) 15 [some (vR 17), some (vI x1)] [vI s0] L = rnG call 3 F 17 [some (vR 17), some (vI x1)] [vI s0] L := rfl
theorem vcti7_3_0 (call : QC FA) (x1 : Int32) (z : Nat → Int32) (f : Nat → FA) (res : Option PV × QH FA) (H : ((I x1 < 0 → res = (some (vI 0), LT u z f)) ∧ (0 ≤ I x1 → ((I (z 17) ≤ I x1 → res = (some (vI 0), LT u z f)) ∧ (I x1 < I (z 17) → ((I (nI 12) ≤ I x1 → res = (some (vI 0), LT u z f)) ∧ (I x1 < I (nI 12) → (pin x1 12 = true ∧ res = (some (vI (f 18 (ix x1))), LT u z f))))))))) : RC call (mP 3) 0 [some (vR 17), some (vI x1)] [] (LT u z f) res := by
  refine rc_b (i' := 1) (ls' := [some (vR 17), some (vI x1)]) (st' := [vI x1]) (L' := LT u z f) 1 (bti7_3_1 call x1 _) ?_
  refine rc_if (it := 16) (ie := 2) (ls' := [some (vR 17), some (vI x1)]) (st' := []) (bti7_3_2 call x1 _ _) (fun q1 => ?_) (fun q1 => ?_)
  · have H := H.1 (cI2t q1 rfl rfl)
    refine rc_b (i' := 17) (ls' := [some (vR 17), some (vI x1)]) (st' := [vI 0]) (L' := LT u z f) 1 (bti7_3_3 call x1 _) ?_
    subst H
    exact rc_ret (bti7_3_4 call _ _ _)
  · have H := H.2 (cI2f q1 rfl rfl)
    refine rc_b (i' := 5) (ls' := [some (vR 17), some (vI x1)]) (st' := [vI (z 17), vI x1]) (L' := LT u z f) 3 (bti7_3_5 call x1 z f) ?_
    refine rc_if (it := 16) (ie := 6) (ls' := [some (vR 17), some (vI x1)]) (st' := []) (bti7_3_6 call x1 (z 17) _ _) (fun q2 => ?_) (fun q2 => ?_)
    · have H := H.1 (cI3t q2 rfl rfl)
      refine rc_b (i' := 17) (ls' := [some (vR 17), some (vI x1)]) (st' := [vI 0]) (L' := LT u z f) 1 (bti7_3_3 call x1 _) ?_
      subst H
      exact rc_ret (bti7_3_4 call _ _ _)
    · have H := H.2 (cI3f q2 rfl rfl)
      refine rc_b (i' := 10) (ls' := [some (vR 17), some (vI x1)]) (st' := [vI (nI 12), vI x1]) (L' := LT u z f) 4 (bti7_3_7 call x1 z f) ?_
      refine rc_if (it := 16) (ie := 11) (ls' := [some (vR 17), some (vI x1)]) (st' := []) (bti7_3_8 call x1 (nI 12) _ _) (fun q3 => ?_) (fun q3 => ?_)
      · have H := H.1 (cI3t q3 rfl rfl)
        refine rc_b (i' := 17) (ls' := [some (vR 17), some (vI x1)]) (st' := [vI 0]) (L' := LT u z f) 1 (bti7_3_3 call x1 _) ?_
        subst H
        exact rc_ret (bti7_3_4 call _ _ _)
      · have H := H.2 (cI3f q3 rfl rfl)
        refine rc_b (i' := 14) (ls' := [some (vR 17), some (vI x1)]) (st' := [vI x1, vR 18]) (L' := LT u z f) 3 (bti7_3_9 call x1 z f) ?_
        obtain ⟨g1, H⟩ := H
        refine rc_g (i' := 15) (ls' := [some (vR 17), some (vI x1)]) (st' := [vI (f 18 (ix x1))]) (L' := LT u z f) (bti7_3_10 call x1 _ z f) (pinG g1) ?_
        refine rc_b (i' := 17) (ls' := [some (vR 17), some (vI x1)]) (st' := [vI (f 18 (ix x1))]) (L' := LT u z f) 1 (bti7_3_11 call x1 (f 18 (ix x1)) _) ?_
        subst H
        exact rc_ret (bti7_3_4 call _ _ _)
theorem c_it7 (d : Nat) {z : Nat → Int32} {f : Nat → FA} {n k : Nat} (hz : z 17 = nI n) (hn : n ≤ 12) (hk : k < n) : mcall (d + 1) 3 [vR 17, vI (nI k)] (LT u z f) = some (some (vI (f 18 k)), LT u z f) := by
  have go : ∀ res, _ → mcall (d + 1) 3 [vR 17, vI (nI k)] (LT u z f) = some res := fun res H => mcall_i (mq3 (cu := [])).2.2 rfl (vcti7_3_0 (mcall d) (nI k) z f res H)
  rw [hz, I_nI (n := n) (by omega), I_nI (n := k) (by omega), I_nI (n := 12) (by omega), ix_nI (j := k) (by omega)] at go
  exact go _ ⟨fun q => by omega, fun _ => ⟨fun q => by omega, fun _ => ⟨fun q => by omega, fun _ => ⟨pin_nI (by omega) (by omega), rfl⟩⟩⟩⟩
set_option maxRecDepth 100000 in
theorem bti8_3_1 (call : QC FA) (x1 : Int32) (L : QH FA) (F : Nat) : rnG call 3 (F + 1) 0 [some (vR 19), some (vI x1)] [] L = rnG call 3 F 1 [some (vR 19), some (vI x1)] [vI x1] L := rfl
set_option maxRecDepth 100000 in
theorem bti8_3_2 (call : QC FA) (x : Int32) (ls : List (Option PV)) (L : QH FA) (F : Nat) : rnG call 3 (F + 1) 1 ls [vI x] L = bif pcmp 2 x 0 then rnG call 3 F 16 ls [] L else rnG call 3 F 2 ls [] L := rfl
set_option maxRecDepth 100000 in
theorem bti8_3_3 (call : QC FA) (x1 : Int32) (L : QH FA) (F : Nat) : rnG call 3 (F + 1) 16 [some (vR 19), some (vI x1)] [] L = rnG call 3 F 17 [some (vR 19), some (vI x1)] [vI 0] L := rfl
set_option maxRecDepth 100000 in
theorem bti8_3_4 (call : QC FA) (x : Int32) (ls : List (Option PV)) (L : QH FA) (F : Nat) : rnG call 3 (F + 1) 17 ls [vI x] L = some (some (vI x), L) := rfl
set_option maxRecDepth 100000 in
theorem bti8_3_5 (call : QC FA) (x1 : Int32) (z : Nat → Int32) (f : Nat → FA) (F : Nat) : rnG call 3 (F + 3) 2 [some (vR 19), some (vI x1)] [] (LT u z f) = rnG call 3 F 5 [some (vR 19), some (vI x1)] [vI (z 19), vI x1] (LT u z f) := rfl
set_option maxRecDepth 100000 in
theorem bti8_3_6 (call : QC FA) (x y : Int32) (ls : List (Option PV)) (L : QH FA) (F : Nat) : rnG call 3 (F + 1) 5 ls [vI y, vI x] L = bif pcmp 3 x y then rnG call 3 F 16 ls [] L else rnG call 3 F 6 ls [] L := rfl
set_option maxRecDepth 100000 in
theorem bti8_3_7 (call : QC FA) (x1 : Int32) (z : Nat → Int32) (f : Nat → FA) (F : Nat) : rnG call 3 (F + 4) 6 [some (vR 19), some (vI x1)] [] (LT u z f) = rnG call 3 F 10 [some (vR 19), some (vI x1)] [vI (nI 12), vI x1] (LT u z f) := rfl
set_option maxRecDepth 100000 in
theorem bti8_3_8 (call : QC FA) (x y : Int32) (ls : List (Option PV)) (L : QH FA) (F : Nat) : rnG call 3 (F + 1) 10 ls [vI y, vI x] L = bif pcmp 3 x y then rnG call 3 F 16 ls [] L else rnG call 3 F 11 ls [] L := rfl
set_option maxRecDepth 100000 in
theorem bti8_3_9 (call : QC FA) (x1 : Int32) (z : Nat → Int32) (f : Nat → FA) (F : Nat) : rnG call 3 (F + 3) 11 [some (vR 19), some (vI x1)] [] (LT u z f) = rnG call 3 F 14 [some (vR 19), some (vI x1)] [vI x1, vR 20] (LT u z f) := rfl
set_option maxRecDepth 100000 in
theorem bti8_3_10 (call : QC FA) (x : Int32) (ls : List (Option PV)) (z : Nat → Int32) (f : Nat → FA) (F : Nat) : rnG call 3 (F + 1) 14 ls [vI x, vR 20] (LT u z f) = bif (Nat.beq 0 0 && pin x 12) then rnG call 3 F 15 ls [vI (f 20 (ix x))] (LT u z f) else none := rfl
set_option maxRecDepth 100000 in
theorem bti8_3_11 (call : QC FA) (x1 : Int32) (s0 : Int32) (L : QH FA) (F : Nat) : rnG call 3 (F + 1) 15 [some (vR 19), some (vI x1)] [vI s0] L = rnG call 3 F 17 [some (vR 19), some (vI x1)] [vI s0] L := rfl
theorem vcti8_3_0 (call : QC FA) (x1 : Int32) (z : Nat → Int32) (f : Nat → FA) (res : Option PV × QH FA) (H : ((I x1 < 0 → res = (some (vI 0), LT u z f)) ∧ (0 ≤ I x1 → ((I (z 19) ≤ I x1 → res = (some (vI 0), LT u z f)) ∧ (I x1 < I (z 19) → ((I (nI 12) ≤ I x1 → res = (some (vI 0), LT u z f)) ∧ (I x1 < I (nI 12) → (pin x1 12 = true ∧ res = (some (vI (f 20 (ix x1))), LT u z f))))))))) : RC call (mP 3) 0 [some (vR 19), some (vI x1)] [] (LT u z f) res := by
  refine rc_b (i' := 1) (ls' := [some (vR 19), some (vI x1)]) (st' := [vI x1]) (L' := LT u z f) 1 (bti8_3_1 call x1 _) ?_
  refine rc_if (it := 16) (ie := 2) (ls' := [some (vR 19), some (vI x1)]) (st' := []) (bti8_3_2 call x1 _ _) (fun q1 => ?_) (fun q1 => ?_)
  · have H := H.1 (cI2t q1 rfl rfl)
    refine rc_b (i' := 17) (ls' := [some (vR 19), some (vI x1)]) (st' := [vI 0]) (L' := LT u z f) 1 (bti8_3_3 call x1 _) ?_
    subst H
    exact rc_ret (bti8_3_4 call _ _ _)
  · have H := H.2 (cI2f q1 rfl rfl)
    refine rc_b (i' := 5) (ls' := [some (vR 19), some (vI x1)]) (st' := [vI (z 19), vI x1]) (L' := LT u z f) 3 (bti8_3_5 call x1 z f) ?_
    refine rc_if (it := 16) (ie := 6) (ls' := [some (vR 19), some (vI x1)]) (st' := []) (bti8_3_6 call x1 (z 19) _ _) (fun q2 => ?_) (fun q2 => ?_)
    · have H := H.1 (cI3t q2 rfl rfl)
      refine rc_b (i' := 17) (ls' := [some (vR 19), some (vI x1)]) (st' := [vI 0]) (L' := LT u z f) 1 (bti8_3_3 call x1 _) ?_
      subst H
      exact rc_ret (bti8_3_4 call _ _ _)
    · have H := H.2 (cI3f q2 rfl rfl)
      refine rc_b (i' := 10) (ls' := [some (vR 19), some (vI x1)]) (st' := [vI (nI 12), vI x1]) (L' := LT u z f) 4 (bti8_3_7 call x1 z f) ?_
      refine rc_if (it := 16) (ie := 11) (ls' := [some (vR 19), some (vI x1)]) (st' := []) (bti8_3_8 call x1 (nI 12) _ _) (fun q3 => ?_) (fun q3 => ?_)
      · have H := H.1 (cI3t q3 rfl rfl)
        refine rc_b (i' := 17) (ls' := [some (vR 19), some (vI x1)]) (st' := [vI 0]) (L' := LT u z f) 1 (bti8_3_3 call x1 _) ?_
        subst H
        exact rc_ret (bti8_3_4 call _ _ _)
      · have H := H.2 (cI3f q3 rfl rfl)
        refine rc_b (i' := 14) (ls' := [some (vR 19), some (vI x1)]) (st' := [vI x1, vR 20]) (L' := LT u z f) 3 (bti8_3_9 call x1 z f) ?_
        obtain ⟨g1, H⟩ := H
        refine rc_g (i' := 15) (ls' := [some (vR 19), some (vI x1)]) (st' := [vI (f 20 (ix x1))]) (L' := LT u z f) (bti8_3_10 call x1 _ z f) (pinG g1) ?_
        refine rc_b (i' := 17) (ls' := [some (vR 19), some (vI x1)]) (st' := [vI (f 20 (ix x1))]) (L' := LT u z f) 1 (bti8_3_11 call x1 (f 20 (ix x1)) _) ?_
        subst H
        exact rc_ret (bti8_3_4 call _ _ _)
theorem c_it8 (d : Nat) {z : Nat → Int32} {f : Nat → FA} {n k : Nat} (hz : z 19 = nI n) (hn : n ≤ 12) (hk : k < n) : mcall (d + 1) 3 [vR 19, vI (nI k)] (LT u z f) = some (some (vI (f 20 k)), LT u z f) := by
  have go : ∀ res, _ → mcall (d + 1) 3 [vR 19, vI (nI k)] (LT u z f) = some res := fun res H => mcall_i (mq3 (cu := [])).2.2 rfl (vcti8_3_0 (mcall d) (nI k) z f res H)
  rw [hz, I_nI (n := n) (by omega), I_nI (n := k) (by omega), I_nI (n := 12) (by omega), ix_nI (j := k) (by omega)] at go
  exact go _ ⟨fun q => by omega, fun _ => ⟨fun q => by omega, fun _ => ⟨fun q => by omega, fun _ => ⟨pin_nI (by omega) (by omega), rfl⟩⟩⟩⟩
end TLs
