/-! the law in force: codes that are well formed run -/
set_option maxRecDepth 100000 in
theorem b57_1 (call : QC FA) (x1 : Int32) (x2 : Int32) (x3 : Int32) (L : QH FA) (F : Nat) : rnG call 57 (F + 2) 0 [some (vR 0), some (vI x1), some (vI x2), some (vI x3)] [] L = rnG call 57 F 2 [some (vR 0), some (vI x1), some (vI x2), some (vI x3)] [vI 2, vI x1] L := rfl
set_option maxRecDepth 100000 in
theorem b57_2 (call : QC FA) (x y : Int32) (ls : List (Option PV)) (L : QH FA) (F : Nat) : rnG call 57 (F + 1) 2 ls [vI y, vI x] L = bif pcmp 1 x y then rnG call 57 F 7 ls [] L else rnG call 57 F 3 ls [] L := rfl
set_option maxRecDepth 100000 in
theorem b57_3 (call : QC FA) (x1 : Int32) (x2 : Int32) (x3 : Int32) (L : QH FA) (F : Nat) : rnG call 57 (F + 2) 7 [some (vR 0), some (vI x1), some (vI x2), some (vI x3)] [] L = rnG call 57 F 9 [some (vR 0), some (vI x1), some (vI x2), some (vI x3)] [vI 3, vI x1] L := rfl
set_option maxRecDepth 100000 in
theorem b57_4 (call : QC FA) (x y : Int32) (ls : List (Option PV)) (L : QH FA) (F : Nat) : rnG call 57 (F + 1) 9 ls [vI y, vI x] L = bif pcmp 1 x y then rnG call 57 F 14 ls [] L else rnG call 57 F 10 ls [] L := rfl
set_option maxRecDepth 100000 in
theorem b57_5 (call : QC FA) (x1 : Int32) (x2 : Int32) (x3 : Int32) (L : QH FA) (F : Nat) : rnG call 57 (F + 2) 14 [some (vR 0), some (vI x1), some (vI x2), some (vI x3)] [] L = rnG call 57 F 16 [some (vR 0), some (vI x1), some (vI x2), some (vI x3)] [vI 4, vI x1] L := rfl
set_option maxRecDepth 100000 in
theorem b57_6 (call : QC FA) (x y : Int32) (ls : List (Option PV)) (L : QH FA) (F : Nat) : rnG call 57 (F + 1) 16 ls [vI y, vI x] L = bif pcmp 1 x y then rnG call 57 F 21 ls [] L else rnG call 57 F 17 ls [] L := rfl
set_option maxRecDepth 100000 in
theorem b57_7 (call : QC FA) (x1 : Int32) (x2 : Int32) (x3 : Int32) (L : QH FA) (F : Nat) : rnG call 57 (F + 2) 21 [some (vR 0), some (vI x1), some (vI x2), some (vI x3)] [] L = rnG call 57 F 23 [some (vR 0), some (vI x1), some (vI x2), some (vI x3)] [vI 5, vI x1] L := rfl
set_option maxRecDepth 100000 in
theorem b57_8 (call : QC FA) (x y : Int32) (ls : List (Option PV)) (L : QH FA) (F : Nat) : rnG call 57 (F + 1) 23 ls [vI y, vI x] L = bif pcmp 1 x y then rnG call 57 F 28 ls [] L else rnG call 57 F 24 ls [] L := rfl
set_option maxRecDepth 100000 in
theorem b57_9 (call : QC FA) (x1 : Int32) (x2 : Int32) (x3 : Int32) (L : QH FA) (F : Nat) : rnG call 57 (F + 2) 28 [some (vR 0), some (vI x1), some (vI x2), some (vI x3)] [] L = rnG call 57 F 30 [some (vR 0), some (vI x1), some (vI x2), some (vI x3)] [vI 6, vI x1] L := rfl
set_option maxRecDepth 100000 in
theorem b57_10 (call : QC FA) (x y : Int32) (ls : List (Option PV)) (L : QH FA) (F : Nat) : rnG call 57 (F + 1) 30 ls [vI y, vI x] L = bif pcmp 1 x y then rnG call 57 F 38 ls [] L else rnG call 57 F 31 ls [] L := rfl
set_option maxRecDepth 100000 in
theorem b57_11 (call : QC FA) (x1 : Int32) (x2 : Int32) (x3 : Int32) (L : QH FA) (F : Nat) : rnG call 57 (F + 2) 38 [some (vR 0), some (vI x1), some (vI x2), some (vI x3)] [] L = rnG call 57 F 40 [some (vR 0), some (vI x1), some (vI x2), some (vI x3)] [vI 7, vI x1] L := rfl
set_option maxRecDepth 100000 in
theorem b57_12 (call : QC FA) (x y : Int32) (ls : List (Option PV)) (L : QH FA) (F : Nat) : rnG call 57 (F + 1) 40 ls [vI y, vI x] L = bif pcmp 1 x y then rnG call 57 F 48 ls [] L else rnG call 57 F 41 ls [] L := rfl
set_option maxRecDepth 100000 in
theorem b57_13 (call : QC FA) (x1 : Int32) (x2 : Int32) (x3 : Int32) (L : QH FA) (F : Nat) : rnG call 57 (F + 2) 48 [some (vR 0), some (vI x1), some (vI x2), some (vI x3)] [] L = rnG call 57 F 50 [some (vR 0), some (vI x1), some (vI x2), some (vI x3)] [vI 8, vI x1] L := rfl
set_option maxRecDepth 100000 in
theorem b57_14 (call : QC FA) (x y : Int32) (ls : List (Option PV)) (L : QH FA) (F : Nat) : rnG call 57 (F + 1) 50 ls [vI y, vI x] L = bif pcmp 1 x y then rnG call 57 F 58 ls [] L else rnG call 57 F 51 ls [] L := rfl
set_option maxRecDepth 100000 in
theorem b57_15 (call : QC FA) (x1 : Int32) (x2 : Int32) (x3 : Int32) (L : QH FA) (F : Nat) : rnG call 57 (F + 2) 58 [some (vR 0), some (vI x1), some (vI x2), some (vI x3)] [] L = rnG call 57 F 60 [some (vR 0), some (vI x1), some (vI x2), some (vI x3)] [vI 10, vI x1] L := rfl
set_option maxRecDepth 100000 in
theorem b57_16 (call : QC FA) (x y : Int32) (ls : List (Option PV)) (L : QH FA) (F : Nat) : rnG call 57 (F + 1) 60 ls [vI y, vI x] L = bif pcmp 1 x y then rnG call 57 F 65 ls [] L else rnG call 57 F 61 ls [] L := rfl
set_option maxRecDepth 100000 in
theorem b57_17 (call : QC FA) (x1 : Int32) (x2 : Int32) (x3 : Int32) (L : QH FA) (F : Nat) : rnG call 57 (F + 3) 65 [some (vR 0), some (vI x1), some (vI x2), some (vI x3)] [] L = rnG call 57 F 68 [some (vR 0), some (vI x1), some (vI x2), some (vI x3)] [vI (x2 + x3)] L := rfl
set_option maxRecDepth 100000 in
theorem b57_18 (call : QC FA) (x : Int32) (ls : List (Option PV)) (L : QH FA) (F : Nat) : rnG call 57 (F + 1) 68 ls [vI x] L = bif pcmp 5 x 0 then rnG call 57 F 71 ls [] L else rnG call 57 F 69 ls [] L := rfl
set_option maxRecDepth 100000 in
theorem b57_19 (call : QC FA) (x1 : Int32) (x2 : Int32) (x3 : Int32) (L : QH FA) (F : Nat) : rnG call 57 (F + 1) 71 [some (vR 0), some (vI x1), some (vI x2), some (vI x3)] [] L = rnG call 57 F 72 [some (vR 0), some (vI x1), some (vI x2), some (vI x3)] [vI 0] L := rfl
set_option maxRecDepth 100000 in
theorem b57_20 (call : QC FA) (x : Int32) (ls : List (Option PV)) (L : QH FA) (F : Nat) : rnG call 57 (F + 1) 72 ls [vI x] L = some (some (vI x), L) := rfl
set_option maxRecDepth 100000 in
theorem b57_21 (call : QC FA) (x1 : Int32) (x2 : Int32) (x3 : Int32) (L : QH FA) (F : Nat) : rnG call 57 (F + 2) 69 [some (vR 0), some (vI x1), some (vI x2), some (vI x3)] [] L = rnG call 57 F 72 [some (vR 0), some (vI x1), some (vI x2), some (vI x3)] [vI 1] L := rfl
set_option maxRecDepth 100000 in
theorem b57_22 (call : QC FA) (x1 : Int32) (x2 : Int32) (x3 : Int32) (L : QH FA) (F : Nat) : rnG call 57 (F + 4) 61 [some (vR 0), some (vI x1), some (vI x2), some (vI x3)] [] L = rnG call 57 F 72 [some (vR 0), some (vI x1), some (vI x2), some (vI x3)] [vI (x2 * x3)] L := rfl
set_option maxRecDepth 100000 in
theorem b57_23 (call : QC FA) (x1 : Int32) (x2 : Int32) (x3 : Int32) (L : QH FA) (F : Nat) : rnG call 57 (F + 2) 51 [some (vR 0), some (vI x1), some (vI x2), some (vI x3)] [] L = rnG call 57 F 53 [some (vR 0), some (vI x1), some (vI x2), some (vI x3)] [vI x3, vI x2] L := rfl
set_option maxRecDepth 100000 in
theorem b57_24 (call : QC FA) (x y : Int32) (ls : List (Option PV)) (L : QH FA) (F : Nat) : rnG call 57 (F + 1) 53 ls [vI y, vI x] L = bif pcmp 5 x y then rnG call 57 F 56 ls [] L else rnG call 57 F 54 ls [] L := rfl
set_option maxRecDepth 100000 in
theorem b57_25 (call : QC FA) (x1 : Int32) (x2 : Int32) (x3 : Int32) (L : QH FA) (F : Nat) : rnG call 57 (F + 1) 56 [some (vR 0), some (vI x1), some (vI x2), some (vI x3)] [] L = rnG call 57 F 57 [some (vR 0), some (vI x1), some (vI x2), some (vI x3)] [vI 0] L := rfl
set_option maxRecDepth 100000 in
theorem b57_26 (call : QC FA) (x : Int32) (ls : List (Option PV)) (L : QH FA) (F : Nat) : rnG call 57 (F + 1) 57 ls [vI x] L = some (some (vI x), L) := rfl
set_option maxRecDepth 100000 in
theorem b57_27 (call : QC FA) (x1 : Int32) (x2 : Int32) (x3 : Int32) (L : QH FA) (F : Nat) : rnG call 57 (F + 2) 54 [some (vR 0), some (vI x1), some (vI x2), some (vI x3)] [] L = rnG call 57 F 57 [some (vR 0), some (vI x1), some (vI x2), some (vI x3)] [vI 1] L := rfl
set_option maxRecDepth 100000 in
theorem b57_28 (call : QC FA) (x1 : Int32) (x2 : Int32) (x3 : Int32) (L : QH FA) (F : Nat) : rnG call 57 (F + 2) 41 [some (vR 0), some (vI x1), some (vI x2), some (vI x3)] [] L = rnG call 57 F 43 [some (vR 0), some (vI x1), some (vI x2), some (vI x3)] [vI x3, vI x2] L := rfl
set_option maxRecDepth 100000 in
theorem b57_29 (call : QC FA) (x y : Int32) (ls : List (Option PV)) (L : QH FA) (F : Nat) : rnG call 57 (F + 1) 43 ls [vI y, vI x] L = bif pcmp 1 x y then rnG call 57 F 46 ls [] L else rnG call 57 F 44 ls [] L := rfl
set_option maxRecDepth 100000 in
theorem b57_30 (call : QC FA) (x1 : Int32) (x2 : Int32) (x3 : Int32) (L : QH FA) (F : Nat) : rnG call 57 (F + 1) 46 [some (vR 0), some (vI x1), some (vI x2), some (vI x3)] [] L = rnG call 57 F 47 [some (vR 0), some (vI x1), some (vI x2), some (vI x3)] [vI 0] L := rfl
set_option maxRecDepth 100000 in
theorem b57_31 (call : QC FA) (x : Int32) (ls : List (Option PV)) (L : QH FA) (F : Nat) : rnG call 57 (F + 1) 47 ls [vI x] L = some (some (vI x), L) := rfl
set_option maxRecDepth 100000 in
theorem b57_32 (call : QC FA) (x1 : Int32) (x2 : Int32) (x3 : Int32) (L : QH FA) (F : Nat) : rnG call 57 (F + 2) 44 [some (vR 0), some (vI x1), some (vI x2), some (vI x3)] [] L = rnG call 57 F 47 [some (vR 0), some (vI x1), some (vI x2), some (vI x3)] [vI 1] L := rfl
set_option maxRecDepth 100000 in
theorem b57_33 (call : QC FA) (x1 : Int32) (x2 : Int32) (x3 : Int32) (L : QH FA) (F : Nat) : rnG call 57 (F + 2) 31 [some (vR 0), some (vI x1), some (vI x2), some (vI x3)] [] L = rnG call 57 F 33 [some (vR 0), some (vI x1), some (vI x2), some (vI x3)] [vI x3, vI x2] L := rfl
set_option maxRecDepth 100000 in
theorem b57_34 (call : QC FA) (x y : Int32) (ls : List (Option PV)) (L : QH FA) (F : Nat) : rnG call 57 (F + 1) 33 ls [vI y, vI x] L = bif pcmp 3 x y then rnG call 57 F 36 ls [] L else rnG call 57 F 34 ls [] L := rfl
set_option maxRecDepth 100000 in
theorem b57_35 (call : QC FA) (x1 : Int32) (x2 : Int32) (x3 : Int32) (L : QH FA) (F : Nat) : rnG call 57 (F + 1) 36 [some (vR 0), some (vI x1), some (vI x2), some (vI x3)] [] L = rnG call 57 F 37 [some (vR 0), some (vI x1), some (vI x2), some (vI x3)] [vI 0] L := rfl
set_option maxRecDepth 100000 in
theorem b57_36 (call : QC FA) (x : Int32) (ls : List (Option PV)) (L : QH FA) (F : Nat) : rnG call 57 (F + 1) 37 ls [vI x] L = some (some (vI x), L) := rfl
set_option maxRecDepth 100000 in
theorem b57_37 (call : QC FA) (x1 : Int32) (x2 : Int32) (x3 : Int32) (L : QH FA) (F : Nat) : rnG call 57 (F + 2) 34 [some (vR 0), some (vI x1), some (vI x2), some (vI x3)] [] L = rnG call 57 F 37 [some (vR 0), some (vI x1), some (vI x2), some (vI x3)] [vI 1] L := rfl
set_option maxRecDepth 100000 in
theorem b57_38 (call : QC FA) (x1 : Int32) (x2 : Int32) (x3 : Int32) (L : QH FA) (F : Nat) : rnG call 57 (F + 2) 24 [some (vR 0), some (vI x1), some (vI x2), some (vI x3)] [] L = rnG call 57 F 26 [some (vR 0), some (vI x1), some (vI x2), some (vI x3)] [vI x3, vI x2] L := rfl
set_option maxRecDepth 100000 in
theorem b57_39 (call : QC FA) (x y : Int32) (ls : List (Option PV)) (L : QH FA) (F : Nat) : rnG call 57 (F + 1) 26 ls [vI y, vI x] L = bif pcmp 1 y 0 then rnG call 57 F 27 ls [vI (x / y)] L else none := rfl
set_option maxRecDepth 100000 in
theorem b57_40 (call : QC FA) (x : Int32) (ls : List (Option PV)) (L : QH FA) (F : Nat) : rnG call 57 (F + 1) 27 ls [vI x] L = some (some (vI x), L) := rfl
set_option maxRecDepth 100000 in
theorem b57_41 (call : QC FA) (x1 : Int32) (x2 : Int32) (x3 : Int32) (L : QH FA) (F : Nat) : rnG call 57 (F + 3) 17 [some (vR 0), some (vI x1), some (vI x2), some (vI x3)] [] L = rnG call 57 F 20 [some (vR 0), some (vI x1), some (vI x2), some (vI x3)] [vI (x2 * x3)] L := rfl
set_option maxRecDepth 100000 in
theorem b57_42 (call : QC FA) (x : Int32) (ls : List (Option PV)) (L : QH FA) (F : Nat) : rnG call 57 (F + 1) 20 ls [vI x] L = some (some (vI x), L) := rfl
set_option maxRecDepth 100000 in
theorem b57_43 (call : QC FA) (x1 : Int32) (x2 : Int32) (x3 : Int32) (L : QH FA) (F : Nat) : rnG call 57 (F + 3) 10 [some (vR 0), some (vI x1), some (vI x2), some (vI x3)] [] L = rnG call 57 F 13 [some (vR 0), some (vI x1), some (vI x2), some (vI x3)] [vI (x2 - x3)] L := rfl
set_option maxRecDepth 100000 in
theorem b57_44 (call : QC FA) (x : Int32) (ls : List (Option PV)) (L : QH FA) (F : Nat) : rnG call 57 (F + 1) 13 ls [vI x] L = some (some (vI x), L) := rfl
set_option maxRecDepth 100000 in
theorem b57_45 (call : QC FA) (x1 : Int32) (x2 : Int32) (x3 : Int32) (L : QH FA) (F : Nat) : rnG call 57 (F + 3) 3 [some (vR 0), some (vI x1), some (vI x2), some (vI x3)] [] L = rnG call 57 F 6 [some (vR 0), some (vI x1), some (vI x2), some (vI x3)] [vI (x2 + x3)] L := rfl
set_option maxRecDepth 100000 in
theorem b57_46 (call : QC FA) (x : Int32) (ls : List (Option PV)) (L : QH FA) (F : Nat) : rnG call 57 (F + 1) 6 ls [vI x] L = some (some (vI x), L) := rfl
theorem vc57_0 (call : QC FA) (x1 : Int32) (x2 : Int32) (x3 : Int32) (z : Nat → Int32) (f : Nat → FA) (res : Option PV × QH FA) (H : ((¬ x1 = 2 → ((¬ x1 = 3 → ((¬ x1 = 4 → ((¬ x1 = 5 → ((¬ x1 = 6 → ((¬ x1 = 7 → ((¬ x1 = 8 → ((¬ x1 = 10 → ((I (x2 + x3) ≤ 0 → res = (some (vI 0), LR z f)) ∧ (0 < I (x2 + x3) → res = (some (vI 1), LR z f)))) ∧ (x1 = 10 → res = (some (vI (x2 * x3)), LR z f)))) ∧ (x1 = 8 → ((I x2 ≤ I x3 → res = (some (vI 0), LR z f)) ∧ (I x3 < I x2 → res = (some (vI 1), LR z f)))))) ∧ (x1 = 7 → ((¬ x2 = x3 → res = (some (vI 0), LR z f)) ∧ (x2 = x3 → res = (some (vI 1), LR z f)))))) ∧ (x1 = 6 → ((I x3 ≤ I x2 → res = (some (vI 0), LR z f)) ∧ (I x2 < I x3 → res = (some (vI 1), LR z f)))))) ∧ (x1 = 5 → (¬ x3 = 0 ∧ res = (some (vI (x2 / x3)), LR z f))))) ∧ (x1 = 4 → res = (some (vI (x2 * x3)), LR z f)))) ∧ (x1 = 3 → res = (some (vI (x2 - x3)), LR z f)))) ∧ (x1 = 2 → res = (some (vI (x2 + x3)), LR z f)))) : RC call (mP 57) 0 [some (vR 0), some (vI x1), some (vI x2), some (vI x3)] [] (LR z f) res := by
  refine rc_b (i' := 2) (ls' := [some (vR 0), some (vI x1), some (vI x2), some (vI x3)]) (st' := [vI 2, vI x1]) (L' := LR z f) 2 (b57_1 call x1 x2 x3 _) ?_
  refine rc_if (it := 7) (ie := 3) (ls' := [some (vR 0), some (vI x1), some (vI x2), some (vI x3)]) (st' := []) (b57_2 call x1 2 _ _) (fun q1 => ?_) (fun q1 => ?_)
  · have H := H.1 (cI1t q1)
    refine rc_b (i' := 9) (ls' := [some (vR 0), some (vI x1), some (vI x2), some (vI x3)]) (st' := [vI 3, vI x1]) (L' := LR z f) 2 (b57_3 call x1 x2 x3 _) ?_
    refine rc_if (it := 14) (ie := 10) (ls' := [some (vR 0), some (vI x1), some (vI x2), some (vI x3)]) (st' := []) (b57_4 call x1 3 _ _) (fun q2 => ?_) (fun q2 => ?_)
    · have H := H.1 (cI1t q2)
      refine rc_b (i' := 16) (ls' := [some (vR 0), some (vI x1), some (vI x2), some (vI x3)]) (st' := [vI 4, vI x1]) (L' := LR z f) 2 (b57_5 call x1 x2 x3 _) ?_
      refine rc_if (it := 21) (ie := 17) (ls' := [some (vR 0), some (vI x1), some (vI x2), some (vI x3)]) (st' := []) (b57_6 call x1 4 _ _) (fun q3 => ?_) (fun q3 => ?_)
      · have H := H.1 (cI1t q3)
        refine rc_b (i' := 23) (ls' := [some (vR 0), some (vI x1), some (vI x2), some (vI x3)]) (st' := [vI 5, vI x1]) (L' := LR z f) 2 (b57_7 call x1 x2 x3 _) ?_
        refine rc_if (it := 28) (ie := 24) (ls' := [some (vR 0), some (vI x1), some (vI x2), some (vI x3)]) (st' := []) (b57_8 call x1 5 _ _) (fun q4 => ?_) (fun q4 => ?_)
        · have H := H.1 (cI1t q4)
          refine rc_b (i' := 30) (ls' := [some (vR 0), some (vI x1), some (vI x2), some (vI x3)]) (st' := [vI 6, vI x1]) (L' := LR z f) 2 (b57_9 call x1 x2 x3 _) ?_
          refine rc_if (it := 38) (ie := 31) (ls' := [some (vR 0), some (vI x1), some (vI x2), some (vI x3)]) (st' := []) (b57_10 call x1 6 _ _) (fun q5 => ?_) (fun q5 => ?_)
          · have H := H.1 (cI1t q5)
            refine rc_b (i' := 40) (ls' := [some (vR 0), some (vI x1), some (vI x2), some (vI x3)]) (st' := [vI 7, vI x1]) (L' := LR z f) 2 (b57_11 call x1 x2 x3 _) ?_
            refine rc_if (it := 48) (ie := 41) (ls' := [some (vR 0), some (vI x1), some (vI x2), some (vI x3)]) (st' := []) (b57_12 call x1 7 _ _) (fun q6 => ?_) (fun q6 => ?_)
            · have H := H.1 (cI1t q6)
              refine rc_b (i' := 50) (ls' := [some (vR 0), some (vI x1), some (vI x2), some (vI x3)]) (st' := [vI 8, vI x1]) (L' := LR z f) 2 (b57_13 call x1 x2 x3 _) ?_
              refine rc_if (it := 58) (ie := 51) (ls' := [some (vR 0), some (vI x1), some (vI x2), some (vI x3)]) (st' := []) (b57_14 call x1 8 _ _) (fun q7 => ?_) (fun q7 => ?_)
              · have H := H.1 (cI1t q7)
                refine rc_b (i' := 60) (ls' := [some (vR 0), some (vI x1), some (vI x2), some (vI x3)]) (st' := [vI 10, vI x1]) (L' := LR z f) 2 (b57_15 call x1 x2 x3 _) ?_
                refine rc_if (it := 65) (ie := 61) (ls' := [some (vR 0), some (vI x1), some (vI x2), some (vI x3)]) (st' := []) (b57_16 call x1 10 _ _) (fun q8 => ?_) (fun q8 => ?_)
                · have H := H.1 (cI1t q8)
                  refine rc_b (i' := 68) (ls' := [some (vR 0), some (vI x1), some (vI x2), some (vI x3)]) (st' := [vI (x2 + x3)]) (L' := LR z f) 3 (b57_17 call x1 x2 x3 _) ?_
                  refine rc_if (it := 71) (ie := 69) (ls' := [some (vR 0), some (vI x1), some (vI x2), some (vI x3)]) (st' := []) (b57_18 call (x2 + x3) _ _) (fun q9 => ?_) (fun q9 => ?_)
                  · have H := H.1 (cI5t q9 rfl rfl)
                    refine rc_b (i' := 72) (ls' := [some (vR 0), some (vI x1), some (vI x2), some (vI x3)]) (st' := [vI 0]) (L' := LR z f) 1 (b57_19 call x1 x2 x3 _) ?_
                    subst H
                    exact rc_ret (b57_20 call _ _ _)
                  · have H := H.2 (cI5f q9 rfl rfl)
                    refine rc_b (i' := 72) (ls' := [some (vR 0), some (vI x1), some (vI x2), some (vI x3)]) (st' := [vI 1]) (L' := LR z f) 2 (b57_21 call x1 x2 x3 _) ?_
                    subst H
                    exact rc_ret (b57_20 call _ _ _)
                · have H := H.2 (cI1f q8)
                  refine rc_b (i' := 72) (ls' := [some (vR 0), some (vI x1), some (vI x2), some (vI x3)]) (st' := [vI (x2 * x3)]) (L' := LR z f) 4 (b57_22 call x1 x2 x3 _) ?_
                  subst H
                  exact rc_ret (b57_20 call _ _ _)
              · have H := H.2 (cI1f q7)
                refine rc_b (i' := 53) (ls' := [some (vR 0), some (vI x1), some (vI x2), some (vI x3)]) (st' := [vI x3, vI x2]) (L' := LR z f) 2 (b57_23 call x1 x2 x3 _) ?_
                refine rc_if (it := 56) (ie := 54) (ls' := [some (vR 0), some (vI x1), some (vI x2), some (vI x3)]) (st' := []) (b57_24 call x2 x3 _ _) (fun q10 => ?_) (fun q10 => ?_)
                · have H := H.1 (cI5t q10 rfl rfl)
                  refine rc_b (i' := 57) (ls' := [some (vR 0), some (vI x1), some (vI x2), some (vI x3)]) (st' := [vI 0]) (L' := LR z f) 1 (b57_25 call x1 x2 x3 _) ?_
                  subst H
                  exact rc_ret (b57_26 call _ _ _)
                · have H := H.2 (cI5f q10 rfl rfl)
                  refine rc_b (i' := 57) (ls' := [some (vR 0), some (vI x1), some (vI x2), some (vI x3)]) (st' := [vI 1]) (L' := LR z f) 2 (b57_27 call x1 x2 x3 _) ?_
                  subst H
                  exact rc_ret (b57_26 call _ _ _)
            · have H := H.2 (cI1f q6)
              refine rc_b (i' := 43) (ls' := [some (vR 0), some (vI x1), some (vI x2), some (vI x3)]) (st' := [vI x3, vI x2]) (L' := LR z f) 2 (b57_28 call x1 x2 x3 _) ?_
              refine rc_if (it := 46) (ie := 44) (ls' := [some (vR 0), some (vI x1), some (vI x2), some (vI x3)]) (st' := []) (b57_29 call x2 x3 _ _) (fun q11 => ?_) (fun q11 => ?_)
              · have H := H.1 (cI1t q11)
                refine rc_b (i' := 47) (ls' := [some (vR 0), some (vI x1), some (vI x2), some (vI x3)]) (st' := [vI 0]) (L' := LR z f) 1 (b57_30 call x1 x2 x3 _) ?_
                subst H
                exact rc_ret (b57_31 call _ _ _)
              · have H := H.2 (cI1f q11)
                refine rc_b (i' := 47) (ls' := [some (vR 0), some (vI x1), some (vI x2), some (vI x3)]) (st' := [vI 1]) (L' := LR z f) 2 (b57_32 call x1 x2 x3 _) ?_
                subst H
                exact rc_ret (b57_31 call _ _ _)
          · have H := H.2 (cI1f q5)
            refine rc_b (i' := 33) (ls' := [some (vR 0), some (vI x1), some (vI x2), some (vI x3)]) (st' := [vI x3, vI x2]) (L' := LR z f) 2 (b57_33 call x1 x2 x3 _) ?_
            refine rc_if (it := 36) (ie := 34) (ls' := [some (vR 0), some (vI x1), some (vI x2), some (vI x3)]) (st' := []) (b57_34 call x2 x3 _ _) (fun q12 => ?_) (fun q12 => ?_)
            · have H := H.1 (cI3t q12 rfl rfl)
              refine rc_b (i' := 37) (ls' := [some (vR 0), some (vI x1), some (vI x2), some (vI x3)]) (st' := [vI 0]) (L' := LR z f) 1 (b57_35 call x1 x2 x3 _) ?_
              subst H
              exact rc_ret (b57_36 call _ _ _)
            · have H := H.2 (cI3f q12 rfl rfl)
              refine rc_b (i' := 37) (ls' := [some (vR 0), some (vI x1), some (vI x2), some (vI x3)]) (st' := [vI 1]) (L' := LR z f) 2 (b57_37 call x1 x2 x3 _) ?_
              subst H
              exact rc_ret (b57_36 call _ _ _)
        · have H := H.2 (cI1f q4)
          refine rc_b (i' := 26) (ls' := [some (vR 0), some (vI x1), some (vI x2), some (vI x3)]) (st' := [vI x3, vI x2]) (L' := LR z f) 2 (b57_38 call x1 x2 x3 _) ?_
          obtain ⟨g1, H⟩ := H
          refine rc_g (i' := 27) (ls' := [some (vR 0), some (vI x1), some (vI x2), some (vI x3)]) (st' := [vI (x2 / x3)]) (L' := LR z f) (b57_39 call x2 x3 _ _) (cmp_ne.trans (decide_eq_true g1)) ?_
          subst H
          exact rc_ret (b57_40 call _ _ _)
      · have H := H.2 (cI1f q3)
        refine rc_b (i' := 20) (ls' := [some (vR 0), some (vI x1), some (vI x2), some (vI x3)]) (st' := [vI (x2 * x3)]) (L' := LR z f) 3 (b57_41 call x1 x2 x3 _) ?_
        subst H
        exact rc_ret (b57_42 call _ _ _)
    · have H := H.2 (cI1f q2)
      refine rc_b (i' := 13) (ls' := [some (vR 0), some (vI x1), some (vI x2), some (vI x3)]) (st' := [vI (x2 - x3)]) (L' := LR z f) 3 (b57_43 call x1 x2 x3 _) ?_
      subst H
      exact rc_ret (b57_44 call _ _ _)
  · have H := H.2 (cI1f q1)
    refine rc_b (i' := 6) (ls' := [some (vR 0), some (vI x1), some (vI x2), some (vI x3)]) (st' := [vI (x2 + x3)]) (L' := LR z f) 3 (b57_45 call x1 x2 x3 _) ?_
    subst H
    exact rc_ret (b57_46 call _ _ _)
theorem twoOf_r (d : Nat) (w x y : Int32) (z : Nat → Int32) (f : Nat → FA) (hy : w = 5 → ¬ y = 0) : ∃ v, mcall (d + 1) 57 [vR 0, vI w, vI x, vI y] (LR z f) = some (some (vI v), LR z f) := by
  have go : ∀ res, _ → mcall (d + 1) 57 [vR 0, vI w, vI x, vI y] (LR z f) = some res := fun res H => mcall_i (mq57 (cu := [])).2.2 rfl (vc57_0 (mcall d) w x y z f res H)
  by_cases h2 : w = 2
  · exact ⟨x + y, go _ ⟨fun h => absurd h2 h, fun _ => rfl⟩⟩
  by_cases h3 : w = 3
  · exact ⟨x - y, go _ ⟨fun _ => ⟨fun h => absurd h3 h, fun _ => rfl⟩, fun h => absurd h h2⟩⟩
  by_cases h4 : w = 4
  · exact ⟨x * y, go _ ⟨fun _ => ⟨fun _ => ⟨fun h => absurd h4 h, fun _ => rfl⟩, fun h => absurd h h3⟩, fun h => absurd h h2⟩⟩
  by_cases h5 : w = 5
  · exact ⟨x / y, go _ ⟨fun _ => ⟨fun _ => ⟨fun _ => ⟨fun h => absurd h5 h, fun _ => ⟨hy h5, rfl⟩⟩, fun h => absurd h h4⟩, fun h => absurd h h3⟩, fun h => absurd h h2⟩⟩
  by_cases h6 : w = 6
  · by_cases e : I x < I y
    · exact ⟨1, go _ ⟨fun _ => ⟨fun _ => ⟨fun _ => ⟨fun _ => ⟨fun h => absurd h6 h, fun _ => ⟨fun h => by omega, fun _ => rfl⟩⟩, fun h => absurd h h5⟩, fun h => absurd h h4⟩, fun h => absurd h h3⟩, fun h => absurd h h2⟩⟩
    · exact ⟨0, go _ ⟨fun _ => ⟨fun _ => ⟨fun _ => ⟨fun _ => ⟨fun h => absurd h6 h, fun _ => ⟨fun _ => rfl, fun h => absurd h e⟩⟩, fun h => absurd h h5⟩, fun h => absurd h h4⟩, fun h => absurd h h3⟩, fun h => absurd h h2⟩⟩
  by_cases h7 : w = 7
  · by_cases e : x = y
    · exact ⟨1, go _ ⟨fun _ => ⟨fun _ => ⟨fun _ => ⟨fun _ => ⟨fun _ => ⟨fun h => absurd h7 h, fun _ => ⟨fun h => absurd e h, fun _ => rfl⟩⟩, fun h => absurd h h6⟩, fun h => absurd h h5⟩, fun h => absurd h h4⟩, fun h => absurd h h3⟩, fun h => absurd h h2⟩⟩
    · exact ⟨0, go _ ⟨fun _ => ⟨fun _ => ⟨fun _ => ⟨fun _ => ⟨fun _ => ⟨fun h => absurd h7 h, fun _ => ⟨fun _ => rfl, fun h => absurd h e⟩⟩, fun h => absurd h h6⟩, fun h => absurd h h5⟩, fun h => absurd h h4⟩, fun h => absurd h h3⟩, fun h => absurd h h2⟩⟩
  by_cases h8 : w = 8
  · by_cases e : I y < I x
    · exact ⟨1, go _ ⟨fun _ => ⟨fun _ => ⟨fun _ => ⟨fun _ => ⟨fun _ => ⟨fun _ => ⟨fun h => absurd h8 h, fun _ => ⟨fun h => by omega, fun _ => rfl⟩⟩, fun h => absurd h h7⟩, fun h => absurd h h6⟩, fun h => absurd h h5⟩, fun h => absurd h h4⟩, fun h => absurd h h3⟩, fun h => absurd h h2⟩⟩
    · exact ⟨0, go _ ⟨fun _ => ⟨fun _ => ⟨fun _ => ⟨fun _ => ⟨fun _ => ⟨fun _ => ⟨fun h => absurd h8 h, fun _ => ⟨fun _ => rfl, fun h => absurd h e⟩⟩, fun h => absurd h h7⟩, fun h => absurd h h6⟩, fun h => absurd h h5⟩, fun h => absurd h h4⟩, fun h => absurd h h3⟩, fun h => absurd h h2⟩⟩
  by_cases h10 : w = 10
  · exact ⟨x * y, go _ ⟨fun _ => ⟨fun _ => ⟨fun _ => ⟨fun _ => ⟨fun _ => ⟨fun _ => ⟨fun _ => ⟨fun h => absurd h10 h, fun _ => rfl⟩, fun h => absurd h h8⟩, fun h => absurd h h7⟩, fun h => absurd h h6⟩, fun h => absurd h h5⟩, fun h => absurd h h4⟩, fun h => absurd h h3⟩, fun h => absurd h h2⟩⟩
  by_cases e : 0 < I (x + y)
  · exact ⟨1, go _ ⟨fun _ => ⟨fun _ => ⟨fun _ => ⟨fun _ => ⟨fun _ => ⟨fun _ => ⟨fun _ => ⟨fun _ => ⟨fun h => by omega, fun _ => rfl⟩, fun h => absurd h h10⟩, fun h => absurd h h8⟩, fun h => absurd h h7⟩, fun h => absurd h h6⟩, fun h => absurd h h5⟩, fun h => absurd h h4⟩, fun h => absurd h h3⟩, fun h => absurd h h2⟩⟩
  · exact ⟨0, go _ ⟨fun _ => ⟨fun _ => ⟨fun _ => ⟨fun _ => ⟨fun _ => ⟨fun _ => ⟨fun _ => ⟨fun _ => ⟨fun _ => rfl, fun h => absurd h e⟩, fun h => absurd h h10⟩, fun h => absurd h h8⟩, fun h => absurd h h7⟩, fun h => absurd h h6⟩, fun h => absurd h h5⟩, fun h => absurd h h4⟩, fun h => absurd h h3⟩, fun h => absurd h h2⟩⟩
/-- one code: what depth comes of it -/
def stpC (o a : FA) (i j d : Nat) : Option Nat := if o j = 0 then some (d + 1) else if o j = 1 then (if ix (a j) < 10 then some (d + 1) else none) else if o j = 9 then (if 1 ≤ d then some d else none) else if 2 ≤ d ∧ (o j = 5 → i < j ∧ o (j - 1) = 0 ∧ ¬ a (j - 1) = 0) then some (d - 1) else none
/-- the depth behind n codes from i on -/
def DP (o a : FA) (i : Nat) : Nat → Option Nat
  | 0 => some 0
  | n + 1 => (DP o a i n).bind (stpC o a i (i + n))
theorem stpC_le {o a : FA} {i j d d' : Nat} (h : stpC o a i j d = some d') : d' ≤ d + 1 := by
  unfold stpC at h
  split at h
  · cases h; omega
  · split at h
    · split at h
      · cases h; omega
      · cases h
    · split at h
      · split at h
        · cases h; omega
        · cases h
      · split at h
        · cases h; omega
        · cases h
theorem DP_s {o a : FA} {i n d : Nat} (h : DP o a i (n + 1) = some d) : ∃ e, DP o a i n = some e ∧ stpC o a i (i + n) e = some d := by
  have h : (DP o a i n).bind (stpC o a i (i + n)) = some d := h
  cases e : DP o a i n with
  | none => rw [e] at h; cases h
  | some e' => rw [e] at h; exact ⟨e', rfl, h⟩
theorem DP_le {o a : FA} {i : Nat} : ∀ n d, DP o a i n = some d → d ≤ n := by
  intro n
  induction n with
  | zero => intro d h; cases h; exact Nat.le_refl _
  | succ n ih =>
    intro d h
    obtain ⟨e, h1, h2⟩ := DP_s h
    have := ih e h1
    have := stpC_le h2
    omega
theorem DP_lo {o a : FA} {i : Nat} : ∀ n m d, m ≤ n → DP o a i n = some d → ∃ e, DP o a i m = some e := by
  intro n
  induction n with
  | zero =>
    intro m d hm h
    obtain rfl : m = 0 := by omega
    exact ⟨d, h⟩
  | succ n ih =>
    intro m d hm h
    by_cases c : m = n + 1
    · subst c; exact ⟨d, h⟩
    · obtain ⟨e, h1, h2⟩ := DP_s h
      exact ih m e (by omega) h1
theorem DP_eq {o a o' a' : FA} {i : Nat} : ∀ n, (∀ j, i ≤ j → j < i + n → o' j = o j ∧ a' j = a j) → DP o' a' i n = DP o a i n := by
  intro n
  induction n with
  | zero => intro _; rfl
  | succ n ih =>
    intro h
    show (DP o' a' i n).bind (stpC o' a' i (i + n)) = (DP o a i n).bind (stpC o a i (i + n))
    rw [ih (fun j h1 h2 => h j h1 (by omega))]
    congr 1
    funext d
    obtain ⟨h1, h2⟩ := h (i + n) (by omega) (by omega)
    unfold stpC
    rw [h1, h2]
    by_cases c : n = 0
    · subst c
      have e1 : (o (i + 0) = 5 → i < i + 0 ∧ o' (i + 0 - 1) = 0 ∧ ¬ a' (i + 0 - 1) = 0) ↔ (o (i + 0) = 5 → i < i + 0 ∧ o (i + 0 - 1) = 0 ∧ ¬ a (i + 0 - 1) = 0) := ⟨fun q h => absurd (q h).1 (by omega), fun q h => absurd (q h).1 (by omega)⟩
      simp only [e1]
    · obtain ⟨h3, h4⟩ := h (i + n - 1) (by omega) (by omega)
      rw [h3, h4]
/-- codes from base s on -/
def sh (s : Nat) (g : FA) : FA := fun j => g (s + j)
def LSr (q : Option PV) (b e k : Nat) : List (Option PV) := [some (vR 0), some (vI 0), q, some (vI (nI b)), some (vI (nI e)), some (vI (nI k))]
set_option maxRecDepth 100000 in
theorem b56_1 (call : QC FA) (x1 : Int32) (x2 : Int32) (x3 : Int32) (o4 : Option PV) (o5 : Option PV) (L : QH FA) (F : Nat) : rnG call 56 (F + 8) 0 [some (vR 0), some (vI x1), some (vI x2), some (vI x3), o4, o5] [] L = rnG call 56 F 8 [some (vR 0), some (vI x1), some (vI x2), some (vI x3), some (vI 0), some (vI ((400 * x1) + x2))] [] L := rfl
theorem vc56_0 (d : Nat) (x1 : Int32) (x2 : Int32) (x3 : Int32) (o4 : Option PV) (o5 : Option PV) (z : Nat → Int32) (f : Nat → FA) (res : Option PV × QH FA) (H : RC (mcall (d + 1)) (mP 56) 8 [some (vR 0), some (vI x1), some (vI x2), some (vI x3), some (vI 0), some (vI ((400 * x1) + x2))] [] (LR z f) res) : RC (mcall (d + 1)) (mP 56) 0 [some (vR 0), some (vI x1), some (vI x2), some (vI x3), o4, o5] [] (LR z f) res := by
  refine rc_b (i' := 8) (ls' := [some (vR 0), some (vI x1), some (vI x2), some (vI x3), some (vI 0), some (vI ((400 * x1) + x2))]) (st' := []) (L' := LR z f) 8 (b56_1 (mcall (d + 1)) x1 x2 x3 o4 o5 _) ?_
  exact H
set_option maxRecDepth 100000 in
theorem bc8_56_1 (call : QC FA) (x1 : Int32) (o2 : Option PV) (x3 : Int32) (x4 : Int32) (x5 : Int32) (L : QH FA) (F : Nat) : rnG call 56 (F + 6) 8 [some (vR 0), some (vI x1), o2, some (vI x3), some (vI x4), some (vI x5)] [] L = rnG call 56 F 14 [some (vR 0), some (vI x1), o2, some (vI x3), some (vI x4), some (vI x5)] [vI ((400 * x1) + x3), vI x5] L := rfl
set_option maxRecDepth 100000 in
theorem bc8_56_2 (call : QC FA) (x y : Int32) (ls : List (Option PV)) (L : QH FA) (F : Nat) : rnG call 56 (F + 1) 14 ls [vI y, vI x] L = bif pcmp 3 x y then rnG call 56 F 101 ls [] L else rnG call 56 F 15 ls [] L := rfl
set_option maxRecDepth 100000 in
theorem bc8_56_3 (call : QC FA) (x1 : Int32) (o2 : Option PV) (x3 : Int32) (x4 : Int32) (x5 : Int32) (z : Nat → Int32) (f : Nat → FA) (F : Nat) : rnG call 56 (F + 3) 101 [some (vR 0), some (vI x1), o2, some (vI x3), some (vI x4), some (vI x5)] [] (LR z f) = rnG call 56 F 104 [some (vR 0), some (vI x1), o2, some (vI x3), some (vI x4), some (vI x5)] [vI 0, vR 22] (LR z f) := rfl
set_option maxRecDepth 100000 in
theorem bc8_56_4 (call : QC FA) (x : Int32) (ls : List (Option PV)) (z : Nat → Int32) (f : Nat → FA) (F : Nat) : rnG call 56 (F + 1) 104 ls [vI x, vR 22] (LR z f) = bif (Nat.beq 0 0 && pin x 420) then rnG call 56 F 105 ls [vI (f 22 (ix x))] (LR z f) else none := rfl
set_option maxRecDepth 100000 in
theorem bc8_56_5 (call : QC FA) (x : Int32) (ls : List (Option PV)) (L : QH FA) (F : Nat) : rnG call 56 (F + 1) 105 ls [vI x] L = some (some (vI x), L) := rfl
set_option maxRecDepth 100000 in
theorem bc8_56_6 (call : QC FA) (x1 : Int32) (o2 : Option PV) (x3 : Int32) (x4 : Int32) (x5 : Int32) (z : Nat → Int32) (f : Nat → FA) (F : Nat) : rnG call 56 (F + 3) 15 [some (vR 0), some (vI x1), o2, some (vI x3), some (vI x4), some (vI x5)] [] (LR z f) = rnG call 56 F 18 [some (vR 0), some (vI x1), o2, some (vI x3), some (vI x4), some (vI x5)] [vI x5, vR 15] (LR z f) := rfl
set_option maxRecDepth 100000 in
theorem bc8_56_7 (call : QC FA) (x : Int32) (ls : List (Option PV)) (z : Nat → Int32) (f : Nat → FA) (F : Nat) : rnG call 56 (F + 1) 18 ls [vI x, vR 15] (LR z f) = bif (Nat.beq 0 0 && pin x 1200) then rnG call 56 F 19 ls [vI (f 15 (ix x))] (LR z f) else none := rfl
set_option maxRecDepth 100000 in
theorem bc8_56_8 (call : QC FA) (x : Int32) (ls : List (Option PV)) (L : QH FA) (F : Nat) : rnG call 56 (F + 1) 19 ls [vI x] L = bif pcmp 0 x 0 then rnG call 56 F 26 ls [] L else rnG call 56 F 20 ls [] L := rfl
set_option maxRecDepth 100000 in
theorem bc8_56_9 (call : QC FA) (x1 : Int32) (o2 : Option PV) (x3 : Int32) (x4 : Int32) (x5 : Int32) (z : Nat → Int32) (f : Nat → FA) (F : Nat) : rnG call 56 (F + 6) 26 [some (vR 0), some (vI x1), o2, some (vI x3), some (vI x4), some (vI x5)] [] (LR z f) = rnG call 56 F 32 [some (vR 0), some (vI x1), o2, some (vI x3), some (vI x4), some (vI x5)] [vI x5, vR 15, vI x4, vR 22] (LR z f) := rfl
set_option maxRecDepth 100000 in
theorem bc8_56_10 (call : QC FA) (x : Int32) (s0 : Int32) (ls : List (Option PV)) (z : Nat → Int32) (f : Nat → FA) (F : Nat) : rnG call 56 (F + 1) 32 ls [vI x, vR 15, vI s0, vR 22] (LR z f) = bif (Nat.beq 0 0 && pin x 1200) then rnG call 56 F 33 ls [vI (f 15 (ix x)), vI s0, vR 22] (LR z f) else none := rfl
set_option maxRecDepth 100000 in
theorem bc8_56_11 (call : QC FA) (x : Int32) (s0 : Int32) (ls : List (Option PV)) (L : QH FA) (F : Nat) : rnG call 56 (F + 1) 33 ls [vI x, vI s0, vR 22] L = bif pcmp 1 x 0 then rnG call 56 F 39 ls [vI s0, vR 22] L else rnG call 56 F 34 ls [vI s0, vR 22] L := rfl
set_option maxRecDepth 100000 in
theorem bc8_56_12 (call : QC FA) (x1 : Int32) (o2 : Option PV) (x3 : Int32) (x4 : Int32) (x5 : Int32) (s0 : Int32) (z : Nat → Int32) (f : Nat → FA) (F : Nat) : rnG call 56 (F + 3) 34 [some (vR 0), some (vI x1), o2, some (vI x3), some (vI x4), some (vI x5)] [vI s0, vR 22] (LR z f) = rnG call 56 F 37 [some (vR 0), some (vI x1), o2, some (vI x3), some (vI x4), some (vI x5)] [vI x5, vR 16, vI s0, vR 22] (LR z f) := rfl
set_option maxRecDepth 100000 in
theorem bc8_56_13 (call : QC FA) (x : Int32) (s0 : Int32) (ls : List (Option PV)) (z : Nat → Int32) (f : Nat → FA) (F : Nat) : rnG call 56 (F + 1) 37 ls [vI x, vR 16, vI s0, vR 22] (LR z f) = bif (Nat.beq 0 0 && pin x 1200) then rnG call 56 F 38 ls [vI (f 16 (ix x)), vI s0, vR 22] (LR z f) else none := rfl
set_option maxRecDepth 100000 in
theorem bc8_56_14 (call : QC FA) (x1 : Int32) (o2 : Option PV) (x3 : Int32) (x4 : Int32) (x5 : Int32) (s0 : Int32) (s1 : Int32) (L : QH FA) (F : Nat) : rnG call 56 (F + 1) 38 [some (vR 0), some (vI x1), o2, some (vI x3), some (vI x4), some (vI x5)] [vI s0, vI s1, vR 22] L = rnG call 56 F 46 [some (vR 0), some (vI x1), o2, some (vI x3), some (vI x4), some (vI x5)] [vI s0, vI s1, vR 22] L := rfl
set_option maxRecDepth 100000 in
theorem bc8_56_15 (call : QC FA) (x y : Int32) (ls : List (Option PV)) (z : Nat → Int32) (f : Nat → FA) (F : Nat) : rnG call 56 (F + 1) 46 ls [vI y, vI x, vR 22] (LR z f) = bif (Nat.beq 0 0 && pin x 420) then rnG call 56 F 47 ls [] (LR z (uA f 22 (upd (f 22) (ix x) y))) else none := rfl
set_option maxRecDepth 100000 in
theorem bc8_56_16 (call : QC FA) (x1 : Int32) (o2 : Option PV) (x3 : Int32) (x4 : Int32) (x5 : Int32) (L : QH FA) (F : Nat) : rnG call 56 (F + 5) 47 [some (vR 0), some (vI x1), o2, some (vI x3), some (vI x4), some (vI x5)] [] L = rnG call 56 F 99 [some (vR 0), some (vI x1), o2, some (vI x3), some (vI (x4 + 1)), some (vI x5)] [] L := rfl
set_option maxRecDepth 100000 in
theorem bc8_56_17 (call : QC FA) (x1 : Int32) (o2 : Option PV) (x3 : Int32) (x4 : Int32) (x5 : Int32) (L : QH FA) (F : Nat) : rnG call 56 (F + 1) 99 [some (vR 0), some (vI x1), o2, some (vI x3), some (vI x4), some (vI x5)] [] L = rnG call 56 F 100 [some (vR 0), some (vI x1), o2, some (vI x3), some (vI x4), some (vI (x5 + 1))] [] L := rfl
set_option maxRecDepth 100000 in
theorem bc8_56_18 (call : QC FA) (x1 : Int32) (o2 : Option PV) (x3 : Int32) (x4 : Int32) (x5 : Int32) (L : QH FA) (F : Nat) : rnG call 56 (F + 1) 100 [some (vR 0), some (vI x1), o2, some (vI x3), some (vI x4), some (vI x5)] [] L = rnG call 56 F 8 [some (vR 0), some (vI x1), o2, some (vI x3), some (vI x4), some (vI x5)] [] L := rfl
set_option maxRecDepth 100000 in
theorem bc8_56_19 (call : QC FA) (x1 : Int32) (o2 : Option PV) (x3 : Int32) (x4 : Int32) (x5 : Int32) (z : Nat → Int32) (f : Nat → FA) (F : Nat) : rnG call 56 (F + 3) 20 [some (vR 0), some (vI x1), o2, some (vI x3), some (vI x4), some (vI x5)] [] (LR z f) = rnG call 56 F 23 [some (vR 0), some (vI x1), o2, some (vI x3), some (vI x4), some (vI x5)] [vI x5, vR 15] (LR z f) := rfl
set_option maxRecDepth 100000 in
theorem bc8_56_20 (call : QC FA) (x : Int32) (ls : List (Option PV)) (z : Nat → Int32) (f : Nat → FA) (F : Nat) : rnG call 56 (F + 1) 23 ls [vI x, vR 15] (LR z f) = bif (Nat.beq 0 0 && pin x 1200) then rnG call 56 F 24 ls [vI (f 15 (ix x))] (LR z f) else none := rfl
set_option maxRecDepth 100000 in
theorem bc8_56_21 (call : QC FA) (x1 : Int32) (o2 : Option PV) (x3 : Int32) (x4 : Int32) (x5 : Int32) (s0 : Int32) (L : QH FA) (F : Nat) : rnG call 56 (F + 1) 24 [some (vR 0), some (vI x1), o2, some (vI x3), some (vI x4), some (vI x5)] [vI s0] L = rnG call 56 F 25 [some (vR 0), some (vI x1), o2, some (vI x3), some (vI x4), some (vI x5)] [vI 1, vI s0] L := rfl
set_option maxRecDepth 100000 in
theorem bc8_56_22 (call : QC FA) (x y : Int32) (ls : List (Option PV)) (L : QH FA) (F : Nat) : rnG call 56 (F + 1) 25 ls [vI y, vI x] L = bif pcmp 1 x y then rnG call 56 F 52 ls [] L else rnG call 56 F 26 ls [] L := rfl
set_option maxRecDepth 100000 in
theorem bc8_56_23 (call : QC FA) (x1 : Int32) (o2 : Option PV) (x3 : Int32) (x4 : Int32) (x5 : Int32) (z : Nat → Int32) (f : Nat → FA) (F : Nat) : rnG call 56 (F + 3) 52 [some (vR 0), some (vI x1), o2, some (vI x3), some (vI x4), some (vI x5)] [] (LR z f) = rnG call 56 F 55 [some (vR 0), some (vI x1), o2, some (vI x3), some (vI x4), some (vI x5)] [vI x5, vR 15] (LR z f) := rfl
set_option maxRecDepth 100000 in
theorem bc8_56_24 (call : QC FA) (x : Int32) (ls : List (Option PV)) (z : Nat → Int32) (f : Nat → FA) (F : Nat) : rnG call 56 (F + 1) 55 ls [vI x, vR 15] (LR z f) = bif (Nat.beq 0 0 && pin x 1200) then rnG call 56 F 56 ls [vI (f 15 (ix x))] (LR z f) else none := rfl
set_option maxRecDepth 100000 in
theorem bc8_56_25 (call : QC FA) (x1 : Int32) (o2 : Option PV) (x3 : Int32) (x4 : Int32) (x5 : Int32) (s0 : Int32) (L : QH FA) (F : Nat) : rnG call 56 (F + 1) 56 [some (vR 0), some (vI x1), o2, some (vI x3), some (vI x4), some (vI x5)] [vI s0] L = rnG call 56 F 57 [some (vR 0), some (vI x1), o2, some (vI x3), some (vI x4), some (vI x5)] [vI 9, vI s0] L := rfl
set_option maxRecDepth 100000 in
theorem bc8_56_26 (call : QC FA) (x y : Int32) (ls : List (Option PV)) (L : QH FA) (F : Nat) : rnG call 56 (F + 1) 57 ls [vI y, vI x] L = bif pcmp 1 x y then rnG call 56 F 73 ls [] L else rnG call 56 F 58 ls [] L := rfl
set_option maxRecDepth 100000 in
theorem bc8_56_27 (call : QC FA) (x1 : Int32) (o2 : Option PV) (x3 : Int32) (x4 : Int32) (x5 : Int32) (z : Nat → Int32) (f : Nat → FA) (F : Nat) : rnG call 56 (F + 13) 73 [some (vR 0), some (vI x1), o2, some (vI x3), some (vI x4), some (vI x5)] [] (LR z f) = rnG call 56 F 86 [some (vR 0), some (vI x1), o2, some (vI x3), some (vI (x4 - 1)), some (vI x5)] [vI x5, vR 15, vR 0, vI ((x4 - 1) - 1), vR 22] (LR z f) := rfl
set_option maxRecDepth 100000 in
theorem bc8_56_28 (call : QC FA) (x : Int32) (s1 : Int32) (ls : List (Option PV)) (z : Nat → Int32) (f : Nat → FA) (F : Nat) : rnG call 56 (F + 1) 86 ls [vI x, vR 15, vR 0, vI s1, vR 22] (LR z f) = bif (Nat.beq 0 0 && pin x 1200) then rnG call 56 F 87 ls [vI (f 15 (ix x)), vR 0, vI s1, vR 22] (LR z f) else none := rfl
set_option maxRecDepth 100000 in
theorem bc8_56_29 (call : QC FA) (x1 : Int32) (o2 : Option PV) (x3 : Int32) (x4 : Int32) (x5 : Int32) (s0 : Int32) (s2 : Int32) (z : Nat → Int32) (f : Nat → FA) (F : Nat) : rnG call 56 (F + 5) 87 [some (vR 0), some (vI x1), o2, some (vI x3), some (vI x4), some (vI x5)] [vI s0, vR 0, vI s2, vR 22] (LR z f) = rnG call 56 F 92 [some (vR 0), some (vI x1), o2, some (vI x3), some (vI x4), some (vI x5)] [vI (x4 - 1), vR 22, vI s0, vR 0, vI s2, vR 22] (LR z f) := rfl
set_option maxRecDepth 100000 in
theorem bc8_56_30 (call : QC FA) (x : Int32) (s0 : Int32) (s2 : Int32) (ls : List (Option PV)) (z : Nat → Int32) (f : Nat → FA) (F : Nat) : rnG call 56 (F + 1) 92 ls [vI x, vR 22, vI s0, vR 0, vI s2, vR 22] (LR z f) = bif (Nat.beq 0 0 && pin x 420) then rnG call 56 F 93 ls [vI (f 22 (ix x)), vI s0, vR 0, vI s2, vR 22] (LR z f) else none := rfl
set_option maxRecDepth 100000 in
theorem bc8_56_31 (call : QC FA) (x1 : Int32) (o2 : Option PV) (x3 : Int32) (x4 : Int32) (x5 : Int32) (s0 : Int32) (s1 : Int32) (s3 : Int32) (z : Nat → Int32) (f : Nat → FA) (F : Nat) : rnG call 56 (F + 3) 93 [some (vR 0), some (vI x1), o2, some (vI x3), some (vI x4), some (vI x5)] [vI s0, vI s1, vR 0, vI s3, vR 22] (LR z f) = rnG call 56 F 96 [some (vR 0), some (vI x1), o2, some (vI x3), some (vI x4), some (vI x5)] [vI x4, vR 22, vI s0, vI s1, vR 0, vI s3, vR 22] (LR z f) := rfl
set_option maxRecDepth 100000 in
theorem bc8_56_32 (call : QC FA) (x : Int32) (s0 : Int32) (s1 : Int32) (s3 : Int32) (ls : List (Option PV)) (z : Nat → Int32) (f : Nat → FA) (F : Nat) : rnG call 56 (F + 1) 96 ls [vI x, vR 22, vI s0, vI s1, vR 0, vI s3, vR 22] (LR z f) = bif (Nat.beq 0 0 && pin x 420) then rnG call 56 F 97 ls [vI (f 22 (ix x)), vI s0, vI s1, vR 0, vI s3, vR 22] (LR z f) else none := rfl
set_option maxRecDepth 100000 in
theorem bc8_56_33 (call : QC FA) (a0 : Int32) (a1 : Int32) (a2 : Int32) (s0 : Int32) (ls : List (Option PV)) (z : Nat → Int32) (f : Nat → FA) (F : Nat) : rnG call 56 (F + 1) 97 ls [vI a2, vI a1, vI a0, vR 0, vI s0, vR 22] (LR z f) = cbd (call 57 [vR 0, vI a0, vI a1, vI a2] (LR z f)) (fun r L' => rnG call 56 F 98 ls (r.toList ++ [vI s0, vR 22]) L') := pcY (ih := rnG call 56 F) (call := call) (a := 57) (b := 3) (v := 12) (t := 98) (x := 0) (ls := ls) (As := [vI a0, vI a1, vI a2]) (st' := [vI s0, vR 22]) (L := LR z f) rfl rfl rfl
set_option maxRecDepth 100000 in
theorem bc8_56_34 (call : QC FA) (x y : Int32) (ls : List (Option PV)) (z : Nat → Int32) (f : Nat → FA) (F : Nat) : rnG call 56 (F + 1) 98 ls [vI y, vI x, vR 22] (LR z f) = bif (Nat.beq 0 0 && pin x 420) then rnG call 56 F 99 ls [] (LR z (uA f 22 (upd (f 22) (ix x) y))) else none := rfl
set_option maxRecDepth 100000 in
theorem bc8_56_35 (call : QC FA) (x1 : Int32) (o2 : Option PV) (x3 : Int32) (x4 : Int32) (x5 : Int32) (z : Nat → Int32) (f : Nat → FA) (F : Nat) : rnG call 56 (F + 11) 58 [some (vR 0), some (vI x1), o2, some (vI x3), some (vI x4), some (vI x5)] [] (LR z f) = rnG call 56 F 69 [some (vR 0), some (vI x1), o2, some (vI x3), some (vI x4), some (vI x5)] [vI (x4 - 1), vR 22, vI 1, vI (x4 - 1), vR 22] (LR z f) := rfl
set_option maxRecDepth 100000 in
theorem bc8_56_36 (call : QC FA) (x : Int32) (s0 : Int32) (s1 : Int32) (ls : List (Option PV)) (z : Nat → Int32) (f : Nat → FA) (F : Nat) : rnG call 56 (F + 1) 69 ls [vI x, vR 22, vI s0, vI s1, vR 22] (LR z f) = bif (Nat.beq 0 0 && pin x 420) then rnG call 56 F 70 ls [vI (f 22 (ix x)), vI s0, vI s1, vR 22] (LR z f) else none := rfl
set_option maxRecDepth 100000 in
theorem bc8_56_37 (call : QC FA) (x1 : Int32) (o2 : Option PV) (x3 : Int32) (x4 : Int32) (x5 : Int32) (s0 : Int32) (s1 : Int32) (s2 : Int32) (L : QH FA) (F : Nat) : rnG call 56 (F + 1) 70 [some (vR 0), some (vI x1), o2, some (vI x3), some (vI x4), some (vI x5)] [vI s0, vI s1, vI s2, vR 22] L = rnG call 56 F 71 [some (vR 0), some (vI x1), o2, some (vI x3), some (vI x4), some (vI x5)] [vI (s1 - s0), vI s2, vR 22] L := rfl
set_option maxRecDepth 100000 in
theorem bc8_56_38 (call : QC FA) (x y : Int32) (ls : List (Option PV)) (z : Nat → Int32) (f : Nat → FA) (F : Nat) : rnG call 56 (F + 1) 71 ls [vI y, vI x, vR 22] (LR z f) = bif (Nat.beq 0 0 && pin x 420) then rnG call 56 F 72 ls [] (LR z (uA f 22 (upd (f 22) (ix x) y))) else none := rfl
set_option maxRecDepth 100000 in
theorem bc8_56_39 (call : QC FA) (x1 : Int32) (o2 : Option PV) (x3 : Int32) (x4 : Int32) (x5 : Int32) (L : QH FA) (F : Nat) : rnG call 56 (F + 1) 72 [some (vR 0), some (vI x1), o2, some (vI x3), some (vI x4), some (vI x5)] [] L = rnG call 56 F 99 [some (vR 0), some (vI x1), o2, some (vI x3), some (vI x4), some (vI x5)] [] L := rfl
set_option maxRecDepth 100000 in
theorem bc8_56_40 (call : QC FA) (x1 : Int32) (o2 : Option PV) (x3 : Int32) (x4 : Int32) (x5 : Int32) (s0 : Int32) (z : Nat → Int32) (f : Nat → FA) (F : Nat) : rnG call 56 (F + 5) 39 [some (vR 0), some (vI x1), o2, some (vI x3), some (vI x4), some (vI x5)] [vI s0, vR 22] (LR z f) = rnG call 56 F 44 [some (vR 0), some (vI x1), o2, some (vI x3), some (vI x4), some (vI x5)] [vI x5, vR 16, vR 21, vI s0, vR 22] (LR z f) := rfl
set_option maxRecDepth 100000 in
theorem bc8_56_41 (call : QC FA) (x : Int32) (s1 : Int32) (ls : List (Option PV)) (z : Nat → Int32) (f : Nat → FA) (F : Nat) : rnG call 56 (F + 1) 44 ls [vI x, vR 16, vR 21, vI s1, vR 22] (LR z f) = bif (Nat.beq 0 0 && pin x 1200) then rnG call 56 F 45 ls [vI (f 16 (ix x)), vR 21, vI s1, vR 22] (LR z f) else none := rfl
set_option maxRecDepth 100000 in
theorem bc8_56_42 (call : QC FA) (x : Int32) (s0 : Int32) (ls : List (Option PV)) (z : Nat → Int32) (f : Nat → FA) (F : Nat) : rnG call 56 (F + 1) 45 ls [vI x, vR 21, vI s0, vR 22] (LR z f) = bif (Nat.beq 0 0 && pin x 10) then rnG call 56 F 46 ls [vI (f 21 (ix x)), vI s0, vR 22] (LR z f) else none := rfl
theorem vcc8_56_8 (d : Nat) (x1 : Int32) (o2 : Option PV) (x3 : Int32) (x4 : Int32) (x5 : Int32) (z : Nat → Int32) (f : Nat → FA) (res : Option PV × QH FA) (H : ((I ((400 * x1) + x3) ≤ I x5 → (pin 0 420 = true ∧ res = (some (vI (f 22 (ix 0))), LR z f))) ∧ (I x5 < I ((400 * x1) + x3) → (pin x5 1200 = true ∧ ((f 15 (ix x5) = 0 → (pin x5 1200 = true ∧ (pin x5 1200 = true ∧ (pin x4 420 = true ∧ RC (mcall (d + 1)) (mP 56) 8 [some (vR 0), some (vI x1), o2, some (vI x3), some (vI (x4 + 1)), some (vI (x5 + 1))] [] (LR z (uA f 22 (upd (f 22) (ix x4) (f 16 (ix x5))))) res)))) ∧ (¬ f 15 (ix x5) = 0 → (pin x5 1200 = true ∧ ((¬ f 15 (ix x5) = 1 → (pin x5 1200 = true ∧ ((¬ f 15 (ix x5) = 9 → (pin x5 1200 = true ∧ (pin ((x4 - 1) - 1) 420 = true ∧ (pin (x4 - 1) 420 = true ∧ (∃ (r1 : Int32) (z1 : Nat → Int32) (f1 : Nat → FA), (mcall (d + 1)) 57 [vR 0, vI (f 15 (ix x5)), vI (f 22 (ix ((x4 - 1) - 1))), vI (f 22 (ix (x4 - 1)))] (LR z f) = some (some (vI r1), LR z1 f1) ∧ (pin ((x4 - 1) - 1) 420 = true ∧ RC (mcall (d + 1)) (mP 56) 8 [some (vR 0), some (vI x1), o2, some (vI x3), some (vI (x4 - 1)), some (vI (x5 + 1))] [] (LR z1 (uA f1 22 (upd (f1 22) (ix ((x4 - 1) - 1)) r1))) res)))))) ∧ (f 15 (ix x5) = 9 → (pin (x4 - 1) 420 = true ∧ (pin (x4 - 1) 420 = true ∧ RC (mcall (d + 1)) (mP 56) 8 [some (vR 0), some (vI x1), o2, some (vI x3), some (vI x4), some (vI (x5 + 1))] [] (LR z (uA f 22 (upd (f 22) (ix (x4 - 1)) (1 - (f 22 (ix (x4 - 1))))))) res)))))) ∧ (f 15 (ix x5) = 1 → (pin x5 1200 = true ∧ (pin x5 1200 = true ∧ (pin (f 16 (ix x5)) 10 = true ∧ (pin x4 420 = true ∧ RC (mcall (d + 1)) (mP 56) 8 [some (vR 0), some (vI x1), o2, some (vI x3), some (vI (x4 + 1)), some (vI (x5 + 1))] [] (LR z (uA f 22 (upd (f 22) (ix x4) (f 21 (ix (f 16 (ix x5))))))) res))))))))))))) : RC (mcall (d + 1)) (mP 56) 8 [some (vR 0), some (vI x1), o2, some (vI x3), some (vI x4), some (vI x5)] [] (LR z f) res := by
  refine rc_b (i' := 14) (ls' := [some (vR 0), some (vI x1), o2, some (vI x3), some (vI x4), some (vI x5)]) (st' := [vI ((400 * x1) + x3), vI x5]) (L' := LR z f) 6 (bc8_56_1 (mcall (d + 1)) x1 o2 x3 x4 x5 _) ?_
  refine rc_if (it := 101) (ie := 15) (ls' := [some (vR 0), some (vI x1), o2, some (vI x3), some (vI x4), some (vI x5)]) (st' := []) (bc8_56_2 (mcall (d + 1)) x5 ((400 * x1) + x3) _ _) (fun q1 => ?_) (fun q1 => ?_)
  · have H := H.1 (cI3t q1 rfl rfl)
    refine rc_b (i' := 104) (ls' := [some (vR 0), some (vI x1), o2, some (vI x3), some (vI x4), some (vI x5)]) (st' := [vI 0, vR 22]) (L' := LR z f) 3 (bc8_56_3 (mcall (d + 1)) x1 o2 x3 x4 x5 z f) ?_
    obtain ⟨g1, H⟩ := H
    refine rc_g (i' := 105) (ls' := [some (vR 0), some (vI x1), o2, some (vI x3), some (vI x4), some (vI x5)]) (st' := [vI (f 22 (ix 0))]) (L' := LR z f) (bc8_56_4 (mcall (d + 1)) 0 _ z f) (pinG g1) ?_
    subst H
    exact rc_ret (bc8_56_5 (mcall (d + 1)) _ _ _)
  · have H := H.2 (cI3f q1 rfl rfl)
    refine rc_b (i' := 18) (ls' := [some (vR 0), some (vI x1), o2, some (vI x3), some (vI x4), some (vI x5)]) (st' := [vI x5, vR 15]) (L' := LR z f) 3 (bc8_56_6 (mcall (d + 1)) x1 o2 x3 x4 x5 z f) ?_
    obtain ⟨g1, H⟩ := H
    refine rc_g (i' := 19) (ls' := [some (vR 0), some (vI x1), o2, some (vI x3), some (vI x4), some (vI x5)]) (st' := [vI (f 15 (ix x5))]) (L' := LR z f) (bc8_56_7 (mcall (d + 1)) x5 _ z f) (pinG g1) ?_
    refine rc_if (it := 26) (ie := 20) (ls' := [some (vR 0), some (vI x1), o2, some (vI x3), some (vI x4), some (vI x5)]) (st' := []) (bc8_56_8 (mcall (d + 1)) (f 15 (ix x5)) _ _) (fun q2 => ?_) (fun q2 => ?_)
    · have H := H.1 (cI0t q2)
      refine rc_b (i' := 32) (ls' := [some (vR 0), some (vI x1), o2, some (vI x3), some (vI x4), some (vI x5)]) (st' := [vI x5, vR 15, vI x4, vR 22]) (L' := LR z f) 6 (bc8_56_9 (mcall (d + 1)) x1 o2 x3 x4 x5 z f) ?_
      obtain ⟨g1, H⟩ := H
      refine rc_g (i' := 33) (ls' := [some (vR 0), some (vI x1), o2, some (vI x3), some (vI x4), some (vI x5)]) (st' := [vI (f 15 (ix x5)), vI x4, vR 22]) (L' := LR z f) (bc8_56_10 (mcall (d + 1)) x5 x4 _ z f) (pinG g1) ?_
      refine rc_f (it := 39) (ie := 34) (ls' := [some (vR 0), some (vI x1), o2, some (vI x3), some (vI x4), some (vI x5)]) (st' := [vI x4, vR 22]) (bc8_56_11 (mcall (d + 1)) (f 15 (ix x5)) x4 _ _) (pNf (cI0t q2)) ?_
      refine rc_b (i' := 37) (ls' := [some (vR 0), some (vI x1), o2, some (vI x3), some (vI x4), some (vI x5)]) (st' := [vI x5, vR 16, vI x4, vR 22]) (L' := LR z f) 3 (bc8_56_12 (mcall (d + 1)) x1 o2 x3 x4 x5 x4 z f) ?_
      obtain ⟨g1, H⟩ := H
      refine rc_g (i' := 38) (ls' := [some (vR 0), some (vI x1), o2, some (vI x3), some (vI x4), some (vI x5)]) (st' := [vI (f 16 (ix x5)), vI x4, vR 22]) (L' := LR z f) (bc8_56_13 (mcall (d + 1)) x5 x4 _ z f) (pinG g1) ?_
      refine rc_b (i' := 46) (ls' := [some (vR 0), some (vI x1), o2, some (vI x3), some (vI x4), some (vI x5)]) (st' := [vI (f 16 (ix x5)), vI x4, vR 22]) (L' := LR z f) 1 (bc8_56_14 (mcall (d + 1)) x1 o2 x3 x4 x5 (f 16 (ix x5)) x4 _) ?_
      obtain ⟨g1, H⟩ := H
      refine rc_g (i' := 47) (ls' := [some (vR 0), some (vI x1), o2, some (vI x3), some (vI x4), some (vI x5)]) (st' := []) (L' := LR z (uA f 22 (upd (f 22) (ix x4) (f 16 (ix x5))))) (bc8_56_15 (mcall (d + 1)) x4 (f 16 (ix x5)) _ z f) (pinG g1) ?_
      refine rc_b (i' := 99) (ls' := [some (vR 0), some (vI x1), o2, some (vI x3), some (vI (x4 + 1)), some (vI x5)]) (st' := []) (L' := LR z (uA f 22 (upd (f 22) (ix x4) (f 16 (ix x5))))) 5 (bc8_56_16 (mcall (d + 1)) x1 o2 x3 x4 x5 _) ?_
      refine rc_b (i' := 100) (ls' := [some (vR 0), some (vI x1), o2, some (vI x3), some (vI (x4 + 1)), some (vI (x5 + 1))]) (st' := []) (L' := LR z (uA f 22 (upd (f 22) (ix x4) (f 16 (ix x5))))) 1 (bc8_56_17 (mcall (d + 1)) x1 o2 x3 (x4 + 1) x5 _) ?_
      refine rc_b (i' := 8) (ls' := [some (vR 0), some (vI x1), o2, some (vI x3), some (vI (x4 + 1)), some (vI (x5 + 1))]) (st' := []) (L' := LR z (uA f 22 (upd (f 22) (ix x4) (f 16 (ix x5))))) 1 (bc8_56_18 (mcall (d + 1)) x1 o2 x3 (x4 + 1) (x5 + 1) _) ?_
      exact H
    · have H := H.2 (cI0f q2)
      refine rc_b (i' := 23) (ls' := [some (vR 0), some (vI x1), o2, some (vI x3), some (vI x4), some (vI x5)]) (st' := [vI x5, vR 15]) (L' := LR z f) 3 (bc8_56_19 (mcall (d + 1)) x1 o2 x3 x4 x5 z f) ?_
      obtain ⟨g1, H⟩ := H
      refine rc_g (i' := 24) (ls' := [some (vR 0), some (vI x1), o2, some (vI x3), some (vI x4), some (vI x5)]) (st' := [vI (f 15 (ix x5))]) (L' := LR z f) (bc8_56_20 (mcall (d + 1)) x5 _ z f) (pinG g1) ?_
      refine rc_b (i' := 25) (ls' := [some (vR 0), some (vI x1), o2, some (vI x3), some (vI x4), some (vI x5)]) (st' := [vI 1, vI (f 15 (ix x5))]) (L' := LR z f) 1 (bc8_56_21 (mcall (d + 1)) x1 o2 x3 x4 x5 (f 15 (ix x5)) _) ?_
      refine rc_if (it := 52) (ie := 26) (ls' := [some (vR 0), some (vI x1), o2, some (vI x3), some (vI x4), some (vI x5)]) (st' := []) (bc8_56_22 (mcall (d + 1)) (f 15 (ix x5)) 1 _ _) (fun q3 => ?_) (fun q3 => ?_)
      · have H := H.1 (cI1t q3)
        refine rc_b (i' := 55) (ls' := [some (vR 0), some (vI x1), o2, some (vI x3), some (vI x4), some (vI x5)]) (st' := [vI x5, vR 15]) (L' := LR z f) 3 (bc8_56_23 (mcall (d + 1)) x1 o2 x3 x4 x5 z f) ?_
        obtain ⟨g1, H⟩ := H
        refine rc_g (i' := 56) (ls' := [some (vR 0), some (vI x1), o2, some (vI x3), some (vI x4), some (vI x5)]) (st' := [vI (f 15 (ix x5))]) (L' := LR z f) (bc8_56_24 (mcall (d + 1)) x5 _ z f) (pinG g1) ?_
        refine rc_b (i' := 57) (ls' := [some (vR 0), some (vI x1), o2, some (vI x3), some (vI x4), some (vI x5)]) (st' := [vI 9, vI (f 15 (ix x5))]) (L' := LR z f) 1 (bc8_56_25 (mcall (d + 1)) x1 o2 x3 x4 x5 (f 15 (ix x5)) _) ?_
        refine rc_if (it := 73) (ie := 58) (ls' := [some (vR 0), some (vI x1), o2, some (vI x3), some (vI x4), some (vI x5)]) (st' := []) (bc8_56_26 (mcall (d + 1)) (f 15 (ix x5)) 9 _ _) (fun q4 => ?_) (fun q4 => ?_)
        · have H := H.1 (cI1t q4)
          refine rc_b (i' := 86) (ls' := [some (vR 0), some (vI x1), o2, some (vI x3), some (vI (x4 - 1)), some (vI x5)]) (st' := [vI x5, vR 15, vR 0, vI ((x4 - 1) - 1), vR 22]) (L' := LR z f) 13 (bc8_56_27 (mcall (d + 1)) x1 o2 x3 x4 x5 z f) ?_
          obtain ⟨g1, H⟩ := H
          refine rc_g (i' := 87) (ls' := [some (vR 0), some (vI x1), o2, some (vI x3), some (vI (x4 - 1)), some (vI x5)]) (st' := [vI (f 15 (ix x5)), vR 0, vI ((x4 - 1) - 1), vR 22]) (L' := LR z f) (bc8_56_28 (mcall (d + 1)) x5 ((x4 - 1) - 1) _ z f) (pinG g1) ?_
          refine rc_b (i' := 92) (ls' := [some (vR 0), some (vI x1), o2, some (vI x3), some (vI (x4 - 1)), some (vI x5)]) (st' := [vI ((x4 - 1) - 1), vR 22, vI (f 15 (ix x5)), vR 0, vI ((x4 - 1) - 1), vR 22]) (L' := LR z f) 5 (bc8_56_29 (mcall (d + 1)) x1 o2 x3 (x4 - 1) x5 (f 15 (ix x5)) ((x4 - 1) - 1) z f) ?_
          obtain ⟨g1, H⟩ := H
          refine rc_g (i' := 93) (ls' := [some (vR 0), some (vI x1), o2, some (vI x3), some (vI (x4 - 1)), some (vI x5)]) (st' := [vI (f 22 (ix ((x4 - 1) - 1))), vI (f 15 (ix x5)), vR 0, vI ((x4 - 1) - 1), vR 22]) (L' := LR z f) (bc8_56_30 (mcall (d + 1)) ((x4 - 1) - 1) (f 15 (ix x5)) ((x4 - 1) - 1) _ z f) (pinG g1) ?_
          refine rc_b (i' := 96) (ls' := [some (vR 0), some (vI x1), o2, some (vI x3), some (vI (x4 - 1)), some (vI x5)]) (st' := [vI (x4 - 1), vR 22, vI (f 22 (ix ((x4 - 1) - 1))), vI (f 15 (ix x5)), vR 0, vI ((x4 - 1) - 1), vR 22]) (L' := LR z f) 3 (bc8_56_31 (mcall (d + 1)) x1 o2 x3 (x4 - 1) x5 (f 22 (ix ((x4 - 1) - 1))) (f 15 (ix x5)) ((x4 - 1) - 1) z f) ?_
          obtain ⟨g1, H⟩ := H
          refine rc_g (i' := 97) (ls' := [some (vR 0), some (vI x1), o2, some (vI x3), some (vI (x4 - 1)), some (vI x5)]) (st' := [vI (f 22 (ix (x4 - 1))), vI (f 22 (ix ((x4 - 1) - 1))), vI (f 15 (ix x5)), vR 0, vI ((x4 - 1) - 1), vR 22]) (L' := LR z f) (bc8_56_32 (mcall (d + 1)) (x4 - 1) (f 22 (ix ((x4 - 1) - 1))) (f 15 (ix x5)) ((x4 - 1) - 1) _ z f) (pinG g1) ?_
          obtain ⟨r1, z1, f1, hc, H⟩ := H
          refine rc_call (t := 98) (ls' := [some (vR 0), some (vI x1), o2, some (vI x3), some (vI (x4 - 1)), some (vI x5)]) (st' := [vI ((x4 - 1) - 1), vR 22]) (bc8_56_33 (mcall (d + 1)) (f 15 (ix x5)) (f 22 (ix ((x4 - 1) - 1))) (f 22 (ix (x4 - 1))) ((x4 - 1) - 1) _ z f) hc ?_
          show RC (mcall (d + 1)) (mP 56) 98 [some (vR 0), some (vI x1), o2, some (vI x3), some (vI (x4 - 1)), some (vI x5)] [vI r1, vI ((x4 - 1) - 1), vR 22] (LR z1 f1) res
          obtain ⟨g1, H⟩ := H
          refine rc_g (i' := 99) (ls' := [some (vR 0), some (vI x1), o2, some (vI x3), some (vI (x4 - 1)), some (vI x5)]) (st' := []) (L' := LR z1 (uA f1 22 (upd (f1 22) (ix ((x4 - 1) - 1)) r1))) (bc8_56_34 (mcall (d + 1)) ((x4 - 1) - 1) r1 _ z1 f1) (pinG g1) ?_
          refine rc_b (i' := 100) (ls' := [some (vR 0), some (vI x1), o2, some (vI x3), some (vI (x4 - 1)), some (vI (x5 + 1))]) (st' := []) (L' := LR z1 (uA f1 22 (upd (f1 22) (ix ((x4 - 1) - 1)) r1))) 1 (bc8_56_17 (mcall (d + 1)) x1 o2 x3 (x4 - 1) x5 _) ?_
          refine rc_b (i' := 8) (ls' := [some (vR 0), some (vI x1), o2, some (vI x3), some (vI (x4 - 1)), some (vI (x5 + 1))]) (st' := []) (L' := LR z1 (uA f1 22 (upd (f1 22) (ix ((x4 - 1) - 1)) r1))) 1 (bc8_56_18 (mcall (d + 1)) x1 o2 x3 (x4 - 1) (x5 + 1) _) ?_
          exact H
        · have H := H.2 (cI1f q4)
          refine rc_b (i' := 69) (ls' := [some (vR 0), some (vI x1), o2, some (vI x3), some (vI x4), some (vI x5)]) (st' := [vI (x4 - 1), vR 22, vI 1, vI (x4 - 1), vR 22]) (L' := LR z f) 11 (bc8_56_35 (mcall (d + 1)) x1 o2 x3 x4 x5 z f) ?_
          obtain ⟨g1, H⟩ := H
          refine rc_g (i' := 70) (ls' := [some (vR 0), some (vI x1), o2, some (vI x3), some (vI x4), some (vI x5)]) (st' := [vI (f 22 (ix (x4 - 1))), vI 1, vI (x4 - 1), vR 22]) (L' := LR z f) (bc8_56_36 (mcall (d + 1)) (x4 - 1) 1 (x4 - 1) _ z f) (pinG g1) ?_
          refine rc_b (i' := 71) (ls' := [some (vR 0), some (vI x1), o2, some (vI x3), some (vI x4), some (vI x5)]) (st' := [vI (1 - (f 22 (ix (x4 - 1)))), vI (x4 - 1), vR 22]) (L' := LR z f) 1 (bc8_56_37 (mcall (d + 1)) x1 o2 x3 x4 x5 (f 22 (ix (x4 - 1))) 1 (x4 - 1) _) ?_
          obtain ⟨g1, H⟩ := H
          refine rc_g (i' := 72) (ls' := [some (vR 0), some (vI x1), o2, some (vI x3), some (vI x4), some (vI x5)]) (st' := []) (L' := LR z (uA f 22 (upd (f 22) (ix (x4 - 1)) (1 - (f 22 (ix (x4 - 1))))))) (bc8_56_38 (mcall (d + 1)) (x4 - 1) (1 - (f 22 (ix (x4 - 1)))) _ z f) (pinG g1) ?_
          refine rc_b (i' := 99) (ls' := [some (vR 0), some (vI x1), o2, some (vI x3), some (vI x4), some (vI x5)]) (st' := []) (L' := LR z (uA f 22 (upd (f 22) (ix (x4 - 1)) (1 - (f 22 (ix (x4 - 1))))))) 1 (bc8_56_39 (mcall (d + 1)) x1 o2 x3 x4 x5 _) ?_
          refine rc_b (i' := 100) (ls' := [some (vR 0), some (vI x1), o2, some (vI x3), some (vI x4), some (vI (x5 + 1))]) (st' := []) (L' := LR z (uA f 22 (upd (f 22) (ix (x4 - 1)) (1 - (f 22 (ix (x4 - 1))))))) 1 (bc8_56_17 (mcall (d + 1)) x1 o2 x3 x4 x5 _) ?_
          refine rc_b (i' := 8) (ls' := [some (vR 0), some (vI x1), o2, some (vI x3), some (vI x4), some (vI (x5 + 1))]) (st' := []) (L' := LR z (uA f 22 (upd (f 22) (ix (x4 - 1)) (1 - (f 22 (ix (x4 - 1))))))) 1 (bc8_56_18 (mcall (d + 1)) x1 o2 x3 x4 (x5 + 1) _) ?_
          exact H
      · have H := H.2 (cI1f q3)
        refine rc_b (i' := 32) (ls' := [some (vR 0), some (vI x1), o2, some (vI x3), some (vI x4), some (vI x5)]) (st' := [vI x5, vR 15, vI x4, vR 22]) (L' := LR z f) 6 (bc8_56_9 (mcall (d + 1)) x1 o2 x3 x4 x5 z f) ?_
        obtain ⟨g1, H⟩ := H
        refine rc_g (i' := 33) (ls' := [some (vR 0), some (vI x1), o2, some (vI x3), some (vI x4), some (vI x5)]) (st' := [vI (f 15 (ix x5)), vI x4, vR 22]) (L' := LR z f) (bc8_56_10 (mcall (d + 1)) x5 x4 _ z f) (pinG g1) ?_
        refine rc_t (it := 39) (ie := 34) (ls' := [some (vR 0), some (vI x1), o2, some (vI x3), some (vI x4), some (vI x5)]) (st' := [vI x4, vR 22]) (bc8_56_11 (mcall (d + 1)) (f 15 (ix x5)) x4 _ _) (pNt (cI0f q2)) ?_
        refine rc_b (i' := 44) (ls' := [some (vR 0), some (vI x1), o2, some (vI x3), some (vI x4), some (vI x5)]) (st' := [vI x5, vR 16, vR 21, vI x4, vR 22]) (L' := LR z f) 5 (bc8_56_40 (mcall (d + 1)) x1 o2 x3 x4 x5 x4 z f) ?_
        obtain ⟨g1, H⟩ := H
        refine rc_g (i' := 45) (ls' := [some (vR 0), some (vI x1), o2, some (vI x3), some (vI x4), some (vI x5)]) (st' := [vI (f 16 (ix x5)), vR 21, vI x4, vR 22]) (L' := LR z f) (bc8_56_41 (mcall (d + 1)) x5 x4 _ z f) (pinG g1) ?_
        obtain ⟨g1, H⟩ := H
        refine rc_g (i' := 46) (ls' := [some (vR 0), some (vI x1), o2, some (vI x3), some (vI x4), some (vI x5)]) (st' := [vI (f 21 (ix (f 16 (ix x5)))), vI x4, vR 22]) (L' := LR z f) (bc8_56_42 (mcall (d + 1)) (f 16 (ix x5)) x4 _ z f) (pinG g1) ?_
        obtain ⟨g1, H⟩ := H
        refine rc_g (i' := 47) (ls' := [some (vR 0), some (vI x1), o2, some (vI x3), some (vI x4), some (vI x5)]) (st' := []) (L' := LR z (uA f 22 (upd (f 22) (ix x4) (f 21 (ix (f 16 (ix x5))))))) (bc8_56_15 (mcall (d + 1)) x4 (f 21 (ix (f 16 (ix x5)))) _ z f) (pinG g1) ?_
        refine rc_b (i' := 99) (ls' := [some (vR 0), some (vI x1), o2, some (vI x3), some (vI (x4 + 1)), some (vI x5)]) (st' := []) (L' := LR z (uA f 22 (upd (f 22) (ix x4) (f 21 (ix (f 16 (ix x5))))))) 5 (bc8_56_16 (mcall (d + 1)) x1 o2 x3 x4 x5 _) ?_
        refine rc_b (i' := 100) (ls' := [some (vR 0), some (vI x1), o2, some (vI x3), some (vI (x4 + 1)), some (vI (x5 + 1))]) (st' := []) (L' := LR z (uA f 22 (upd (f 22) (ix x4) (f 21 (ix (f 16 (ix x5))))))) 1 (bc8_56_17 (mcall (d + 1)) x1 o2 x3 (x4 + 1) x5 _) ?_
        refine rc_b (i' := 8) (ls' := [some (vR 0), some (vI x1), o2, some (vI x3), some (vI (x4 + 1)), some (vI (x5 + 1))]) (st' := []) (L' := LR z (uA f 22 (upd (f 22) (ix x4) (f 21 (ix (f 16 (ix x5))))))) 1 (bc8_56_18 (mcall (d + 1)) x1 o2 x3 (x4 + 1) (x5 + 1) _) ?_
        exact H
theorem rn8 (d i n : Nat) (o a : FA) (z : Nat → Int32) (q : Option PV) (hn : i + n ≤ 400) (hD : ∃ e, DP o a i n = some e) : ∀ t m, m + t = n → ∀ f : Nat → FA, f 15 = o → f 16 = a → ∀ e, DP o a i m = some e → (0 < m → o (i + m - 1) = 0 → 0 < e ∧ f 22 (e - 1) = a (i + m - 1)) → ∃ v g, RC (mcall (d + 1)) (mP 56) 8 (LSr q (i + n) e (i + m)) [] (LR z f) (some (vI v), LR z (uA f 22 g)) := by
  have e0 : ∀ b : Nat, (400 * 0 : Int32) + nI b = nI b := fun b => by
    rw [show (400 * 0 : Int32) = nI 0 from rfl, nI_add 0 b, Nat.zero_add]
  have ib := I_nI (n := i + n) (by omega)
  intro t
  induction t with
  | zero =>
    intro m hm f h15 h16 e he hp
    obtain rfl : m = n := by omega
    refine ⟨f 22 0, f 22, vcc8_56_8 _ _ _ _ _ _ _ _ _ ?_⟩
    rw [e0, ib]
    refine ⟨fun _ => ⟨by decide, ?_⟩, fun h => by omega⟩
    rw [uA_id rfl]
    rfl
  | succ t ih =>
    intro m hm f h15 h16 e he hp
    have ik := I_nI (n := i + m) (by omega)
    have xk := ix_nI (j := i + m) (by omega)
    have pk : pin (nI (i + m)) 1200 = true := pin_nI (by omega) (by omega)
    have ek : nI (i + m) + 1 = nI (i + (m + 1)) := nI_add (i + m) 1
    have hle := DP_le _ _ he
    have xe := ix_nI (j := e) (by omega)
    obtain ⟨dd, hdd⟩ := hD
    obtain ⟨e', he'⟩ := DP_lo n (m + 1) dd (by omega) hdd
    obtain ⟨e'', h1, h2⟩ := DP_s he'
    rw [he] at h1
    cases h1
    have go : ∀ (f' : Nat → FA) e', f' 15 = o → f' 16 = a → DP o a i (m + 1) = some e' → (o (i + m) = 0 → 0 < e' ∧ f' 22 (e' - 1) = a (i + m)) → ∃ v g, RC (mcall (d + 1)) (mP 56) 8 (LSr q (i + n) e' (i + (m + 1))) [] (LR z f') (some (vI v), LR z (uA f' 22 g)) := fun f' e' g1 g2 g3 g4 => ih (m + 1) (by omega) f' g1 g2 e' g3 (fun _ g5 => g4 g5)
    by_cases c0 : o (i + m) = 0
    · have hs : stpC o a i (i + m) e = some (e + 1) := by unfold stpC; rw [if_pos c0]
      rw [hs] at h2
      cases h2
      obtain ⟨v, g, hv⟩ := go (uA f 22 (upd (f 22) e (a (i + m)))) (e + 1) h15 h16 he' (fun _ => ⟨by omega, by
        show upd (f 22) e (a (i + m)) (e + 1 - 1) = _
        rw [Nat.add_sub_cancel, pk_us]⟩)
      refine ⟨v, g, vcc8_56_8 _ _ _ _ _ _ _ _ _ ?_⟩
      rw [e0, ib, ik, xk, xe, h15, h16, ek, show nI e + 1 = nI (e + 1) from nI_add e 1]
      rw [uA_uA] at hv
      exact ⟨fun h => by omega, fun _ => ⟨pk, fun _ => ⟨pk, pk, pin_nI (by omega) (by omega), hv⟩, fun h => absurd c0 h⟩⟩
    · by_cases c1 : o (i + m) = 1
      · have hs : ix (a (i + m)) < 10 ∧ e' = e + 1 := by
          unfold stpC at h2
          rw [if_neg c0, if_pos c1] at h2
          split at h2
          · rename_i c; cases h2; exact ⟨c, rfl⟩
          · cases h2
        obtain ⟨c2, rfl⟩ := hs
        obtain ⟨v, g, hv⟩ := go (uA f 22 (upd (f 22) e (f 21 (ix (a (i + m)))))) (e + 1) h15 h16 he' (fun h => absurd h c0)
        refine ⟨v, g, vcc8_56_8 _ _ _ _ _ _ _ _ _ ?_⟩
        rw [e0, ib, ik, xk, xe, h15, h16, ek, show nI e + 1 = nI (e + 1) from nI_add e 1]
        rw [uA_uA] at hv
        have p1 : pin (a (i + m)) 10 = true := by
          simp only [pin, Bool.and_eq_true, Nat.blt_eq]
          exact ⟨by omega, c2⟩
        exact ⟨fun h => by omega, fun _ => ⟨pk, fun h => absurd h c0, fun _ => ⟨pk, fun h => absurd c1 h, fun _ => ⟨pk, pk, p1, pin_nI (by omega) (by omega), hv⟩⟩⟩⟩
      · by_cases c9 : o (i + m) = 9
        · have hs : 1 ≤ e ∧ e' = e := by
            unfold stpC at h2
            rw [if_neg c0, if_neg c1, if_pos c9] at h2
            split at h2
            · rename_i c; cases h2; exact ⟨c, rfl⟩
            · cases h2
          obtain ⟨c2, rfl⟩ := hs
          have en : nI e' - 1 = nI (e' - 1) := nsub (a := e' - 1) (c := 1) (by rw [show e' - 1 + 1 = e' by omega]) rfl
          obtain ⟨v, g, hv⟩ := go (uA f 22 (upd (f 22) (e' - 1) (1 - f 22 (e' - 1)))) e' h15 h16 he' (fun h => absurd h c0)
          refine ⟨v, g, vcc8_56_8 _ _ _ _ _ _ _ _ _ ?_⟩
          rw [e0, ib, ik, xk, h15, h16, ek, en, ix_nI (j := e' - 1) (by omega)]
          rw [uA_uA] at hv
          exact ⟨fun h => by omega, fun _ => ⟨pk, fun h => absurd h c0, fun _ => ⟨pk, fun _ => ⟨pk, fun h => absurd c9 h, fun _ => ⟨pin_nI (by omega) (by omega), pin_nI (by omega) (by omega), hv⟩⟩, fun h => absurd h c1⟩⟩⟩
        · have hs : (2 ≤ e ∧ (o (i + m) = 5 → i < i + m ∧ o (i + m - 1) = 0 ∧ ¬ a (i + m - 1) = 0)) ∧ e' = e - 1 := by
            unfold stpC at h2
            rw [if_neg c0, if_neg c1, if_neg c9] at h2
            split at h2
            · rename_i c; cases h2; exact ⟨c, rfl⟩
            · cases h2
          obtain ⟨⟨c2, c5⟩, rfl⟩ := hs
          have en : nI e - 1 = nI (e - 1) := nsub (a := e - 1) (c := 1) (by rw [show e - 1 + 1 = e by omega]) rfl
          have en2 : nI (e - 1) - 1 = nI (e - 2) := nsub (a := e - 2) (c := 1) (by rw [show e - 2 + 1 = e - 1 by omega]) rfl
          obtain ⟨w, hw⟩ := twoOf_r d (o (i + m)) (f 22 (e - 2)) (f 22 (e - 1)) z f (fun h5 => by
            obtain ⟨g1, g2, g3⟩ := c5 h5
            obtain ⟨-, g4⟩ := hp (by omega) g2
            rw [g4]
            exact g3)
          obtain ⟨v, g, hv⟩ := go (uA f 22 (upd (f 22) (e - 2) w)) (e - 1) h15 h16 he' (fun h => absurd h c0)
          refine ⟨v, g, vcc8_56_8 _ _ _ _ _ _ _ _ _ ?_⟩
          rw [e0, ib, ik, xk, h15, h16, ek, en, en2, ix_nI (j := e - 2) (by omega), ix_nI (j := e - 1) (by omega)]
          rw [uA_uA] at hv
          exact ⟨fun h => by omega, fun _ => ⟨pk, fun h => absurd h c0, fun _ => ⟨pk, fun _ => ⟨pk, fun _ => ⟨pk, pin_nI (by omega) (by omega), pin_nI (by omega) (by omega), w, z, f, hw, pin_nI (by omega) (by omega), hv⟩, fun h => absurd h c9⟩, fun h => absurd h c1⟩⟩⟩
theorem runs_r (d i n : Nat) (z : Nat → Int32) (f : Nat → FA) (hn : i + n ≤ 400) (hD : ∃ e, DP (f 15) (f 16) i n = some e) : ∃ v g, mcall (d + 2) 56 [vR 0, vI 0, vI (nI i), vI (nI (i + n))] (LR z f) = some (some (vI v), LR z (uA f 22 g)) := by
  obtain ⟨v, g, hv⟩ := rn8 d i n (f 15) (f 16) z (some (vI (nI i))) hn hD n 0 (by omega) f rfl rfl 0 rfl (fun h => absurd h (by omega))
  refine ⟨v, g, mcall_i (mq56 (cu := [])).2.2 rfl (vc56_0 _ _ _ _ _ _ _ _ _ ?_)⟩
  rw [show (400 * 0 : Int32) = nI 0 from rfl, nI_add 0 i, Nat.zero_add]
  exact hv
set_option maxRecDepth 100000 in
theorem b55_1 (call : QC FA) (x1 : Int32) (o2 : Option PV) (L : QH FA) (F : Nat) : rnG call 55 (F + 2) 0 [some (vR 0), some (vI x1), o2] [] L = rnG call 55 F 2 [some (vR 0), some (vI x1), some (vI 0)] [] L := rfl
theorem vc55_0 (d : Nat) (x1 : Int32) (o2 : Option PV) (z : Nat → Int32) (f : Nat → FA) (res : Option PV × QH FA) (H : RC (mcall (d + 2)) (mP 55) 2 [some (vR 0), some (vI x1), some (vI 0)] [] (LR z f) res) : RC (mcall (d + 2)) (mP 55) 0 [some (vR 0), some (vI x1), o2] [] (LR z f) res := by
  refine rc_b (i' := 2) (ls' := [some (vR 0), some (vI x1), some (vI 0)]) (st' := []) (L' := LR z f) 2 (b55_1 (mcall (d + 2)) x1 o2 _) ?_
  exact H
set_option maxRecDepth 100000 in
theorem bc2_55_1 (call : QC FA) (x1 : Int32) (x2 : Int32) (z : Nat → Int32) (f : Nat → FA) (F : Nat) : rnG call 55 (F + 4) 2 [some (vR 0), some (vI x1), some (vI x2)] [] (LR z f) = rnG call 55 F 6 [some (vR 0), some (vI x1), some (vI x2)] [vI 0, vR 10, vI x2] (LR z f) := rfl
set_option maxRecDepth 100000 in
theorem bc2_55_2 (call : QC FA) (x : Int32) (s0 : Int32) (ls : List (Option PV)) (z : Nat → Int32) (f : Nat → FA) (F : Nat) : rnG call 55 (F + 1) 6 ls [vI x, vR 10, vI s0] (LR z f) = bif (Nat.beq 0 0 && pin x 2) then rnG call 55 F 7 ls [vI (f 10 (ix x)), vI s0] (LR z f) else none := rfl
set_option maxRecDepth 100000 in
theorem bc2_55_3 (call : QC FA) (x y : Int32) (ls : List (Option PV)) (L : QH FA) (F : Nat) : rnG call 55 (F + 1) 7 ls [vI y, vI x] L = bif pcmp 3 x y then rnG call 55 F 39 ls [] L else rnG call 55 F 8 ls [] L := rfl
set_option maxRecDepth 100000 in
theorem bc2_55_4 (call : QC FA) (x1 : Int32) (x2 : Int32) (L : QH FA) (F : Nat) : rnG call 55 (F + 1) 39 [some (vR 0), some (vI x1), some (vI x2)] [] L = rnG call 55 F 40 [some (vR 0), some (vI x1), some (vI x2)] [vI ((-1))] L := rfl
set_option maxRecDepth 100000 in
theorem bc2_55_5 (call : QC FA) (x : Int32) (ls : List (Option PV)) (L : QH FA) (F : Nat) : rnG call 55 (F + 1) 40 ls [vI x] L = some (some (vI x), L) := rfl
set_option maxRecDepth 100000 in
theorem bc2_55_6 (call : QC FA) (x1 : Int32) (x2 : Int32) (z : Nat → Int32) (f : Nat → FA) (F : Nat) : rnG call 55 (F + 3) 8 [some (vR 0), some (vI x1), some (vI x2)] [] (LR z f) = rnG call 55 F 11 [some (vR 0), some (vI x1), some (vI x2)] [vI x2, vR 11] (LR z f) := rfl
set_option maxRecDepth 100000 in
theorem bc2_55_7 (call : QC FA) (x : Int32) (ls : List (Option PV)) (z : Nat → Int32) (f : Nat → FA) (F : Nat) : rnG call 55 (F + 1) 11 ls [vI x, vR 11] (LR z f) = bif (Nat.beq 0 0 && pin x 48) then rnG call 55 F 12 ls [vI (f 11 (ix x))] (LR z f) else none := rfl
set_option maxRecDepth 100000 in
theorem bc2_55_8 (call : QC FA) (x1 : Int32) (x2 : Int32) (s0 : Int32) (L : QH FA) (F : Nat) : rnG call 55 (F + 1) 12 [some (vR 0), some (vI x1), some (vI x2)] [vI s0] L = rnG call 55 F 13 [some (vR 0), some (vI x1), some (vI x2)] [vI x1, vI s0] L := rfl
set_option maxRecDepth 100000 in
theorem bc2_55_9 (call : QC FA) (x y : Int32) (ls : List (Option PV)) (L : QH FA) (F : Nat) : rnG call 55 (F + 1) 13 ls [vI y, vI x] L = bif pcmp 1 x y then rnG call 55 F 37 ls [] L else rnG call 55 F 14 ls [] L := rfl
set_option maxRecDepth 100000 in
theorem bc2_55_10 (call : QC FA) (x1 : Int32) (x2 : Int32) (L : QH FA) (F : Nat) : rnG call 55 (F + 1) 37 [some (vR 0), some (vI x1), some (vI x2)] [] L = rnG call 55 F 38 [some (vR 0), some (vI x1), some (vI (x2 + 1))] [] L := rfl
set_option maxRecDepth 100000 in
theorem bc2_55_11 (call : QC FA) (x1 : Int32) (x2 : Int32) (L : QH FA) (F : Nat) : rnG call 55 (F + 1) 38 [some (vR 0), some (vI x1), some (vI x2)] [] L = rnG call 55 F 2 [some (vR 0), some (vI x1), some (vI x2)] [] L := rfl
set_option maxRecDepth 100000 in
theorem bc2_55_12 (call : QC FA) (x1 : Int32) (x2 : Int32) (z : Nat → Int32) (f : Nat → FA) (F : Nat) : rnG call 55 (F + 3) 14 [some (vR 0), some (vI x1), some (vI x2)] [] (LR z f) = rnG call 55 F 17 [some (vR 0), some (vI x1), some (vI x2)] [vI x2, vR 13] (LR z f) := rfl
set_option maxRecDepth 100000 in
theorem bc2_55_13 (call : QC FA) (x : Int32) (ls : List (Option PV)) (z : Nat → Int32) (f : Nat → FA) (F : Nat) : rnG call 55 (F + 1) 17 ls [vI x, vR 13] (LR z f) = bif (Nat.beq 0 0 && pin x 48) then rnG call 55 F 18 ls [vI (f 13 (ix x))] (LR z f) else none := rfl
set_option maxRecDepth 100000 in
theorem bc2_55_14 (call : QC FA) (x1 : Int32) (x2 : Int32) (s0 : Int32) (z : Nat → Int32) (f : Nat → FA) (F : Nat) : rnG call 55 (F + 3) 18 [some (vR 0), some (vI x1), some (vI x2)] [vI s0] (LR z f) = rnG call 55 F 21 [some (vR 0), some (vI x1), some (vI x2)] [vI x2, vR 14, vI s0] (LR z f) := rfl
set_option maxRecDepth 100000 in
theorem bc2_55_15 (call : QC FA) (x : Int32) (s0 : Int32) (ls : List (Option PV)) (z : Nat → Int32) (f : Nat → FA) (F : Nat) : rnG call 55 (F + 1) 21 ls [vI x, vR 14, vI s0] (LR z f) = bif (Nat.beq 0 0 && pin x 48) then rnG call 55 F 22 ls [vI (f 14 (ix x)), vI s0] (LR z f) else none := rfl
set_option maxRecDepth 100000 in
theorem bc2_55_16 (call : QC FA) (x y : Int32) (ls : List (Option PV)) (L : QH FA) (F : Nat) : rnG call 55 (F + 1) 22 ls [vI y, vI x] L = bif pcmp 0 x y then rnG call 55 F 35 ls [] L else rnG call 55 F 23 ls [] L := rfl
set_option maxRecDepth 100000 in
theorem bc2_55_17 (call : QC FA) (x1 : Int32) (x2 : Int32) (L : QH FA) (F : Nat) : rnG call 55 (F + 1) 35 [some (vR 0), some (vI x1), some (vI x2)] [] L = rnG call 55 F 36 [some (vR 0), some (vI x1), some (vI x2)] [vI x2] L := rfl
set_option maxRecDepth 100000 in
theorem bc2_55_18 (call : QC FA) (x : Int32) (ls : List (Option PV)) (L : QH FA) (F : Nat) : rnG call 55 (F + 1) 36 ls [vI x] L = some (some (vI x), L) := rfl
set_option maxRecDepth 100000 in
theorem bc2_55_19 (call : QC FA) (x1 : Int32) (x2 : Int32) (z : Nat → Int32) (f : Nat → FA) (F : Nat) : rnG call 55 (F + 5) 23 [some (vR 0), some (vI x1), some (vI x2)] [] (LR z f) = rnG call 55 F 28 [some (vR 0), some (vI x1), some (vI x2)] [vI x2, vR 13, vI 0, vR 0] (LR z f) := rfl
set_option maxRecDepth 100000 in
theorem bc2_55_20 (call : QC FA) (x : Int32) (s0 : Int32) (ls : List (Option PV)) (z : Nat → Int32) (f : Nat → FA) (F : Nat) : rnG call 55 (F + 1) 28 ls [vI x, vR 13, vI s0, vR 0] (LR z f) = bif (Nat.beq 0 0 && pin x 48) then rnG call 55 F 29 ls [vI (f 13 (ix x)), vI s0, vR 0] (LR z f) else none := rfl
set_option maxRecDepth 100000 in
theorem bc2_55_21 (call : QC FA) (x1 : Int32) (x2 : Int32) (s0 : Int32) (s1 : Int32) (z : Nat → Int32) (f : Nat → FA) (F : Nat) : rnG call 55 (F + 3) 29 [some (vR 0), some (vI x1), some (vI x2)] [vI s0, vI s1, vR 0] (LR z f) = rnG call 55 F 32 [some (vR 0), some (vI x1), some (vI x2)] [vI x2, vR 14, vI s0, vI s1, vR 0] (LR z f) := rfl
set_option maxRecDepth 100000 in
theorem bc2_55_22 (call : QC FA) (x : Int32) (s0 : Int32) (s1 : Int32) (ls : List (Option PV)) (z : Nat → Int32) (f : Nat → FA) (F : Nat) : rnG call 55 (F + 1) 32 ls [vI x, vR 14, vI s0, vI s1, vR 0] (LR z f) = bif (Nat.beq 0 0 && pin x 48) then rnG call 55 F 33 ls [vI (f 14 (ix x)), vI s0, vI s1, vR 0] (LR z f) else none := rfl
set_option maxRecDepth 100000 in
theorem bc2_55_23 (call : QC FA) (a0 : Int32) (a1 : Int32) (a2 : Int32) (ls : List (Option PV)) (z : Nat → Int32) (f : Nat → FA) (F : Nat) : rnG call 55 (F + 1) 33 ls [vI a2, vI a1, vI a0, vR 0] (LR z f) = cbd (call 56 [vR 0, vI a0, vI a1, vI a2] (LR z f)) (fun r L' => rnG call 55 F 34 ls (r.toList ++ []) L') := pcY (ih := rnG call 55 F) (call := call) (a := 56) (b := 3) (v := 12) (t := 34) (x := 0) (ls := ls) (As := [vI a0, vI a1, vI a2]) (st' := []) (L := LR z f) rfl rfl rfl
set_option maxRecDepth 100000 in
theorem bc2_55_24 (call : QC FA) (x : Int32) (ls : List (Option PV)) (L : QH FA) (F : Nat) : rnG call 55 (F + 1) 34 ls [vI x] L = bif pcmp 0 x 0 then rnG call 55 F 37 ls [] L else rnG call 55 F 35 ls [] L := rfl
theorem vcc2_55_2 (d : Nat) (x1 : Int32) (x2 : Int32) (z : Nat → Int32) (f : Nat → FA) (res : Option PV × QH FA) (H : (pin 0 2 = true ∧ ((I (f 10 (ix 0)) ≤ I x2 → res = (some (vI ((-1))), LR z f)) ∧ (I x2 < I (f 10 (ix 0)) → (pin x2 48 = true ∧ ((¬ f 11 (ix x2) = x1 → RC (mcall (d + 2)) (mP 55) 2 [some (vR 0), some (vI x1), some (vI (x2 + 1))] [] (LR z f) res) ∧ (f 11 (ix x2) = x1 → (pin x2 48 = true ∧ (pin x2 48 = true ∧ ((f 13 (ix x2) = f 14 (ix x2) → res = (some (vI x2), LR z f)) ∧ (¬ f 13 (ix x2) = f 14 (ix x2) → (pin x2 48 = true ∧ (pin x2 48 = true ∧ (∃ (r1 : Int32) (z1 : Nat → Int32) (f1 : Nat → FA), (mcall (d + 2)) 56 [vR 0, vI 0, vI (f 13 (ix x2)), vI (f 14 (ix x2))] (LR z f) = some (some (vI r1), LR z1 f1) ∧ ((r1 = 0 → RC (mcall (d + 2)) (mP 55) 2 [some (vR 0), some (vI x1), some (vI (x2 + 1))] [] (LR z1 f1) res) ∧ (¬ r1 = 0 → res = (some (vI x2), LR z1 f1))))))))))))))))) : RC (mcall (d + 2)) (mP 55) 2 [some (vR 0), some (vI x1), some (vI x2)] [] (LR z f) res := by
  refine rc_b (i' := 6) (ls' := [some (vR 0), some (vI x1), some (vI x2)]) (st' := [vI 0, vR 10, vI x2]) (L' := LR z f) 4 (bc2_55_1 (mcall (d + 2)) x1 x2 z f) ?_
  obtain ⟨g1, H⟩ := H
  refine rc_g (i' := 7) (ls' := [some (vR 0), some (vI x1), some (vI x2)]) (st' := [vI (f 10 (ix 0)), vI x2]) (L' := LR z f) (bc2_55_2 (mcall (d + 2)) 0 x2 _ z f) (pinG g1) ?_
  refine rc_if (it := 39) (ie := 8) (ls' := [some (vR 0), some (vI x1), some (vI x2)]) (st' := []) (bc2_55_3 (mcall (d + 2)) x2 (f 10 (ix 0)) _ _) (fun q1 => ?_) (fun q1 => ?_)
  · have H := H.1 (cI3t q1 rfl rfl)
    refine rc_b (i' := 40) (ls' := [some (vR 0), some (vI x1), some (vI x2)]) (st' := [vI ((-1))]) (L' := LR z f) 1 (bc2_55_4 (mcall (d + 2)) x1 x2 _) ?_
    subst H
    exact rc_ret (bc2_55_5 (mcall (d + 2)) _ _ _)
  · have H := H.2 (cI3f q1 rfl rfl)
    refine rc_b (i' := 11) (ls' := [some (vR 0), some (vI x1), some (vI x2)]) (st' := [vI x2, vR 11]) (L' := LR z f) 3 (bc2_55_6 (mcall (d + 2)) x1 x2 z f) ?_
    obtain ⟨g1, H⟩ := H
    refine rc_g (i' := 12) (ls' := [some (vR 0), some (vI x1), some (vI x2)]) (st' := [vI (f 11 (ix x2))]) (L' := LR z f) (bc2_55_7 (mcall (d + 2)) x2 _ z f) (pinG g1) ?_
    refine rc_b (i' := 13) (ls' := [some (vR 0), some (vI x1), some (vI x2)]) (st' := [vI x1, vI (f 11 (ix x2))]) (L' := LR z f) 1 (bc2_55_8 (mcall (d + 2)) x1 x2 (f 11 (ix x2)) _) ?_
    refine rc_if (it := 37) (ie := 14) (ls' := [some (vR 0), some (vI x1), some (vI x2)]) (st' := []) (bc2_55_9 (mcall (d + 2)) (f 11 (ix x2)) x1 _ _) (fun q2 => ?_) (fun q2 => ?_)
    · have H := H.1 (cI1t q2)
      refine rc_b (i' := 38) (ls' := [some (vR 0), some (vI x1), some (vI (x2 + 1))]) (st' := []) (L' := LR z f) 1 (bc2_55_10 (mcall (d + 2)) x1 x2 _) ?_
      refine rc_b (i' := 2) (ls' := [some (vR 0), some (vI x1), some (vI (x2 + 1))]) (st' := []) (L' := LR z f) 1 (bc2_55_11 (mcall (d + 2)) x1 (x2 + 1) _) ?_
      exact H
    · have H := H.2 (cI1f q2)
      refine rc_b (i' := 17) (ls' := [some (vR 0), some (vI x1), some (vI x2)]) (st' := [vI x2, vR 13]) (L' := LR z f) 3 (bc2_55_12 (mcall (d + 2)) x1 x2 z f) ?_
      obtain ⟨g1, H⟩ := H
      refine rc_g (i' := 18) (ls' := [some (vR 0), some (vI x1), some (vI x2)]) (st' := [vI (f 13 (ix x2))]) (L' := LR z f) (bc2_55_13 (mcall (d + 2)) x2 _ z f) (pinG g1) ?_
      refine rc_b (i' := 21) (ls' := [some (vR 0), some (vI x1), some (vI x2)]) (st' := [vI x2, vR 14, vI (f 13 (ix x2))]) (L' := LR z f) 3 (bc2_55_14 (mcall (d + 2)) x1 x2 (f 13 (ix x2)) z f) ?_
      obtain ⟨g1, H⟩ := H
      refine rc_g (i' := 22) (ls' := [some (vR 0), some (vI x1), some (vI x2)]) (st' := [vI (f 14 (ix x2)), vI (f 13 (ix x2))]) (L' := LR z f) (bc2_55_15 (mcall (d + 2)) x2 (f 13 (ix x2)) _ z f) (pinG g1) ?_
      refine rc_if (it := 35) (ie := 23) (ls' := [some (vR 0), some (vI x1), some (vI x2)]) (st' := []) (bc2_55_16 (mcall (d + 2)) (f 13 (ix x2)) (f 14 (ix x2)) _ _) (fun q3 => ?_) (fun q3 => ?_)
      · have H := H.1 (cI0t q3)
        refine rc_b (i' := 36) (ls' := [some (vR 0), some (vI x1), some (vI x2)]) (st' := [vI x2]) (L' := LR z f) 1 (bc2_55_17 (mcall (d + 2)) x1 x2 _) ?_
        subst H
        exact rc_ret (bc2_55_18 (mcall (d + 2)) _ _ _)
      · have H := H.2 (cI0f q3)
        refine rc_b (i' := 28) (ls' := [some (vR 0), some (vI x1), some (vI x2)]) (st' := [vI x2, vR 13, vI 0, vR 0]) (L' := LR z f) 5 (bc2_55_19 (mcall (d + 2)) x1 x2 z f) ?_
        obtain ⟨g1, H⟩ := H
        refine rc_g (i' := 29) (ls' := [some (vR 0), some (vI x1), some (vI x2)]) (st' := [vI (f 13 (ix x2)), vI 0, vR 0]) (L' := LR z f) (bc2_55_20 (mcall (d + 2)) x2 0 _ z f) (pinG g1) ?_
        refine rc_b (i' := 32) (ls' := [some (vR 0), some (vI x1), some (vI x2)]) (st' := [vI x2, vR 14, vI (f 13 (ix x2)), vI 0, vR 0]) (L' := LR z f) 3 (bc2_55_21 (mcall (d + 2)) x1 x2 (f 13 (ix x2)) 0 z f) ?_
        obtain ⟨g1, H⟩ := H
        refine rc_g (i' := 33) (ls' := [some (vR 0), some (vI x1), some (vI x2)]) (st' := [vI (f 14 (ix x2)), vI (f 13 (ix x2)), vI 0, vR 0]) (L' := LR z f) (bc2_55_22 (mcall (d + 2)) x2 (f 13 (ix x2)) 0 _ z f) (pinG g1) ?_
        obtain ⟨r1, z1, f1, hc, H⟩ := H
        refine rc_call (t := 34) (ls' := [some (vR 0), some (vI x1), some (vI x2)]) (st' := []) (bc2_55_23 (mcall (d + 2)) 0 (f 13 (ix x2)) (f 14 (ix x2)) _ z f) hc ?_
        show RC (mcall (d + 2)) (mP 55) 34 [some (vR 0), some (vI x1), some (vI x2)] [vI r1] (LR z1 f1) res
        refine rc_if (it := 37) (ie := 35) (ls' := [some (vR 0), some (vI x1), some (vI x2)]) (st' := []) (bc2_55_24 (mcall (d + 2)) r1 _ _) (fun q4 => ?_) (fun q4 => ?_)
        · have H := H.1 (cI0t q4)
          refine rc_b (i' := 38) (ls' := [some (vR 0), some (vI x1), some (vI (x2 + 1))]) (st' := []) (L' := LR z1 f1) 1 (bc2_55_10 (mcall (d + 2)) x1 x2 _) ?_
          refine rc_b (i' := 2) (ls' := [some (vR 0), some (vI x1), some (vI (x2 + 1))]) (st' := []) (L' := LR z1 f1) 1 (bc2_55_11 (mcall (d + 2)) x1 (x2 + 1) _) ?_
          exact H
        · have H := H.2 (cI0f q4)
          refine rc_b (i' := 36) (ls' := [some (vR 0), some (vI x1), some (vI x2)]) (st' := [vI x2]) (L' := LR z1 f1) 1 (bc2_55_17 (mcall (d + 2)) x1 x2 _) ?_
          subst H
          exact rc_ret (bc2_55_18 (mcall (d + 2)) _ _ _)
/-- the law at base w is well formed -/
def LWm (w m : Nat) (f : Nat → FA) : Prop := ∀ l, l < m → ∃ a b c, f 12 (16 * w + l) = nI a ∧ f 13 (16 * w + l) = nI b ∧ f 14 (16 * w + l) = nI c ∧ a ≤ b ∧ b ≤ c ∧ c ≤ 400 ∧ (∃ e, DP (sh (400 * w) (f 15)) (sh (400 * w) (f 16)) a (b - a) = some e) ∧ (∃ e, DP (sh (400 * w) (f 15)) (sh (400 * w) (f 16)) b (c - b) = some e)
theorem sh0 (g : FA) : sh (400 * 0) g = g := by
  funext j
  show g (400 * 0 + j) = g j
  rw [Nat.mul_zero, Nat.zero_add]
theorem LWm_22 {w m : Nat} {f : Nat → FA} {g : FA} (h : LWm w m f) : LWm w m (uA f 22 g) := h
theorem ln2 (d m : Nat) (w : Int32) (z : Nat → Int32) (hm : m ≤ 16) : ∀ t l, l + t = m → ∀ f : Nat → FA, f 10 0 = nI m → LWm 0 m f → ∃ r g, RC (mcall (d + 2)) (mP 55) 2 [some (vR 0), some (vI w), some (vI (nI l))] [] (LR z f) (some (vI r), LR z (uA f 22 g)) ∧ (r = -1 ∨ ∃ l, l < m ∧ r = nI l) := by
  have im := I_nI (n := m) (by omega)
  intro t
  induction t with
  | zero =>
    intro l hl f h10 hW
    obtain rfl : l = m := by omega
    refine ⟨-1, f 22, vcc2_55_2 _ _ _ _ _ _ ⟨by decide, ?_⟩, Or.inl rfl⟩
    rw [show ix 0 = 0 from rfl, h10, im, uA_id rfl]
    exact ⟨fun _ => rfl, fun h => by omega⟩
  | succ t ih =>
    intro l hl f h10 hW
    have il := I_nI (n := l) (by omega)
    have xl := ix_nI (j := l) (by omega)
    have pl : pin (nI l) 48 = true := pin_nI (by omega) (by omega)
    obtain ⟨a, b, c, h12, h13, h14, q1, q2, q3, q4, q5⟩ := hW l (by omega)
    rw [Nat.mul_zero, Nat.zero_add] at h12 h13 h14
    rw [sh0, sh0] at q4 q5
    have en : nI l + 1 = nI (l + 1) := nI_add l 1
    by_cases c1 : f 11 l = w
    · by_cases c2 : b = c
      · refine ⟨nI l, f 22, vcc2_55_2 _ _ _ _ _ _ ⟨by decide, ?_⟩, Or.inr ⟨l, by omega, rfl⟩⟩
        rw [show ix 0 = 0 from rfl, h10, im, il, xl, h13, h14, uA_id rfl]
        exact ⟨fun h => by omega, fun _ => ⟨pl, fun h => absurd c1 h, fun _ => ⟨pl, pl, fun _ => rfl, fun h => absurd (by rw [c2]) h⟩⟩⟩
      · obtain ⟨v, g, hv⟩ := runs_r d b (c - b) z f (by omega) q5
        rw [show b + (c - b) = c by omega] at hv
        have hne : ¬ nI b = nI c := fun h => c2 (nI_inj (by omega) (by omega) h)
        by_cases c3 : v = 0
        · obtain ⟨r, g', hr, hq⟩ := ih (l + 1) (by omega) (uA f 22 g) h10 (LWm_22 hW)
          rw [uA_uA] at hr
          refine ⟨r, g', vcc2_55_2 _ _ _ _ _ _ ⟨by decide, ?_⟩, hq⟩
          rw [show ix 0 = 0 from rfl, h10, im, il, xl, h13, h14, en]
          exact ⟨fun h => by omega, fun _ => ⟨pl, fun h => absurd c1 h, fun _ => ⟨pl, pl, fun h => absurd h hne, fun _ => ⟨pl, pl, v, z, uA f 22 g, hv, fun _ => hr, fun h => absurd c3 h⟩⟩⟩⟩
        · refine ⟨nI l, g, vcc2_55_2 _ _ _ _ _ _ ⟨by decide, ?_⟩, Or.inr ⟨l, by omega, rfl⟩⟩
          rw [show ix 0 = 0 from rfl, h10, im, il, xl, h13, h14]
          exact ⟨fun h => by omega, fun _ => ⟨pl, fun h => absurd c1 h, fun _ => ⟨pl, pl, fun h => absurd h hne, fun _ => ⟨pl, pl, v, z, uA f 22 g, hv, fun h => absurd h c3, fun _ => rfl⟩⟩⟩⟩
    · obtain ⟨r, g', hr, hq⟩ := ih (l + 1) (by omega) f h10 hW
      refine ⟨r, g', vcc2_55_2 _ _ _ _ _ _ ⟨by decide, ?_⟩, hq⟩
      rw [show ix 0 = 0 from rfl, h10, im, il, xl, en]
      exact ⟨fun h => by omega, fun _ => ⟨pl, fun _ => hr, fun h => absurd h c1⟩⟩
theorem lineOf_r (d m : Nat) (w : Int32) (z : Nat → Int32) (f : Nat → FA) (hm : m ≤ 16) (h10 : f 10 0 = nI m) (hW : LWm 0 m f) : ∃ r g, mcall (d + 3) 55 [vR 0, vI w] (LR z f) = some (some (vI r), LR z (uA f 22 g)) ∧ (r = -1 ∨ ∃ l, l < m ∧ r = nI l) := by
  obtain ⟨r, g, hr, hq⟩ := ln2 d m w z hm m 0 (by omega) f h10 hW
  exact ⟨r, g, mcall_i (mq55 (cu := [])).2.2 rfl (vc55_0 _ _ _ _ _ _ hr), hq⟩
set_option maxRecDepth 100000 in
theorem b54_1 (call : QC FA) (x1 : Int32) (x2 : Int32) (x3 : Int32) (o4 : Option PV) (L : QH FA) (F : Nat) : rnG call 54 (F + 2) 0 [some (vR 0), some (vI x1), some (vI x2), some (vI x3), o4] [] L = rnG call 54 F 2 [some (vR 0), some (vI x1), some (vI x2), some (vI x3), o4] [vI x1, vR 0] L := rfl
set_option maxRecDepth 100000 in
theorem b54_2 (call : QC FA) (a0 : Int32) (ls : List (Option PV)) (z : Nat → Int32) (f : Nat → FA) (F : Nat) : rnG call 54 (F + 1) 2 ls [vI a0, vR 0] (LR z f) = cbd (call 55 [vR 0, vI a0] (LR z f)) (fun r L' => rnG call 54 F 3 ls (r.toList ++ []) L') := pcY (ih := rnG call 54 F) (call := call) (a := 55) (b := 1) (v := 12) (t := 3) (x := 0) (ls := ls) (As := [vI a0]) (st' := []) (L := LR z f) rfl rfl rfl
set_option maxRecDepth 100000 in
theorem b54_3 (call : QC FA) (x1 : Int32) (x2 : Int32) (x3 : Int32) (o4 : Option PV) (s0 : Int32) (L : QH FA) (F : Nat) : rnG call 54 (F + 4) 3 [some (vR 0), some (vI x1), some (vI x2), some (vI x3), o4] [vI s0] L = rnG call 54 F 7 [some (vR 0), some (vI x1), some (vI x2), some (vI x3), some (vI s0)] [vI ((-1)), vI s0, vR 0] L := rfl
set_option maxRecDepth 100000 in
theorem b54_4 (call : QC FA) (x y : Int32) (ls : List (Option PV)) (L : QH FA) (F : Nat) : rnG call 54 (F + 1) 7 ls [vI y, vI x, vR 0] L = bif pcmp 1 x y then rnG call 54 F 10 ls [vR 0] L else rnG call 54 F 8 ls [vR 0] L := rfl
set_option maxRecDepth 100000 in
theorem b54_5 (call : QC FA) (x1 : Int32) (x2 : Int32) (x3 : Int32) (x4 : Int32) (z : Nat → Int32) (f : Nat → FA) (F : Nat) : rnG call 54 (F + 5) 10 [some (vR 0), some (vI x1), some (vI x2), some (vI x3), some (vI x4)] [vR 0] (LR z f) = rnG call 54 F 15 [some (vR 0), some (vI x1), some (vI x2), some (vI x3), some (vI x4)] [vI x4, vR 12, vI 0, vR 0, vR 0] (LR z f) := rfl
set_option maxRecDepth 100000 in
theorem b54_6 (call : QC FA) (x : Int32) (s0 : Int32) (ls : List (Option PV)) (z : Nat → Int32) (f : Nat → FA) (F : Nat) : rnG call 54 (F + 1) 15 ls [vI x, vR 12, vI s0, vR 0, vR 0] (LR z f) = bif (Nat.beq 0 0 && pin x 48) then rnG call 54 F 16 ls [vI (f 12 (ix x)), vI s0, vR 0, vR 0] (LR z f) else none := rfl
set_option maxRecDepth 100000 in
theorem b54_7 (call : QC FA) (x1 : Int32) (x2 : Int32) (x3 : Int32) (x4 : Int32) (s0 : Int32) (s1 : Int32) (z : Nat → Int32) (f : Nat → FA) (F : Nat) : rnG call 54 (F + 3) 16 [some (vR 0), some (vI x1), some (vI x2), some (vI x3), some (vI x4)] [vI s0, vI s1, vR 0, vR 0] (LR z f) = rnG call 54 F 19 [some (vR 0), some (vI x1), some (vI x2), some (vI x3), some (vI x4)] [vI x4, vR 13, vI s0, vI s1, vR 0, vR 0] (LR z f) := rfl
set_option maxRecDepth 100000 in
theorem b54_8 (call : QC FA) (x : Int32) (s0 : Int32) (s1 : Int32) (ls : List (Option PV)) (z : Nat → Int32) (f : Nat → FA) (F : Nat) : rnG call 54 (F + 1) 19 ls [vI x, vR 13, vI s0, vI s1, vR 0, vR 0] (LR z f) = bif (Nat.beq 0 0 && pin x 48) then rnG call 54 F 20 ls [vI (f 13 (ix x)), vI s0, vI s1, vR 0, vR 0] (LR z f) else none := rfl
set_option maxRecDepth 100000 in
theorem b54_9 (call : QC FA) (a0 : Int32) (a1 : Int32) (a2 : Int32) (ls : List (Option PV)) (z : Nat → Int32) (f : Nat → FA) (F : Nat) : rnG call 54 (F + 1) 20 ls [vI a2, vI a1, vI a0, vR 0, vR 0] (LR z f) = cbd (call 56 [vR 0, vI a0, vI a1, vI a2] (LR z f)) (fun r L' => rnG call 54 F 21 ls (r.toList ++ [vR 0]) L') := pcY (ih := rnG call 54 F) (call := call) (a := 56) (b := 3) (v := 12) (t := 21) (x := 0) (ls := ls) (As := [vI a0, vI a1, vI a2]) (st' := [vR 0]) (L := LR z f) rfl rfl rfl
set_option maxRecDepth 100000 in
theorem b54_10 (call : QC FA) (x1 : Int32) (x2 : Int32) (x3 : Int32) (x4 : Int32) (s0 : Int32) (L : QH FA) (F : Nat) : rnG call 54 (F + 2) 21 [some (vR 0), some (vI x1), some (vI x2), some (vI x3), some (vI x4)] [vI s0, vR 0] L = rnG call 54 F 23 [some (vR 0), some (vI x1), some (vI x2), some (vI x3), some (vI x4)] [vI x3, vI 0, vI s0, vR 0] L := rfl
set_option maxRecDepth 100000 in
theorem b54_11 (call : QC FA) (a0 : Int32) (a1 : Int32) (a2 : Int32) (ls : List (Option PV)) (z : Nat → Int32) (f : Nat → FA) (F : Nat) : rnG call 54 (F + 1) 23 ls [vI a2, vI a1, vI a0, vR 0] (LR z f) = cbd (call 58 [vR 0, vI a0, vI a1, vI a2] (LR z f)) (fun r L' => rnG call 54 F 24 ls (r.toList ++ []) L') := pcY (ih := rnG call 54 F) (call := call) (a := 58) (b := 3) (v := 12) (t := 24) (x := 0) (ls := ls) (As := [vI a0, vI a1, vI a2]) (st' := []) (L := LR z f) rfl rfl rfl
set_option maxRecDepth 100000 in
theorem b54_12 (call : QC FA) (x : Int32) (ls : List (Option PV)) (L : QH FA) (F : Nat) : rnG call 54 (F + 1) 24 ls [vI x] L = some (some (vI x), L) := rfl
set_option maxRecDepth 100000 in
theorem b54_13 (call : QC FA) (x1 : Int32) (x2 : Int32) (x3 : Int32) (x4 : Int32) (L : QH FA) (F : Nat) : rnG call 54 (F + 4) 8 [some (vR 0), some (vI x1), some (vI x2), some (vI x3), some (vI x4)] [vR 0] L = rnG call 54 F 23 [some (vR 0), some (vI x1), some (vI x2), some (vI x3), some (vI x4)] [vI x3, vI 0, vI x2, vR 0] L := rfl
theorem vc54_0 (d : Nat) (x1 : Int32) (x2 : Int32) (x3 : Int32) (o4 : Option PV) (z : Nat → Int32) (f : Nat → FA) (res : Option PV × QH FA) (H : (∃ (r1 : Int32) (z1 : Nat → Int32) (f1 : Nat → FA), (mcall (d + 3)) 55 [vR 0, vI x1] (LR z f) = some (some (vI r1), LR z1 f1) ∧ ((¬ r1 = (-1) → (pin r1 48 = true ∧ (pin r1 48 = true ∧ (∃ (r2 : Int32) (z2 : Nat → Int32) (f2 : Nat → FA), (mcall (d + 3)) 56 [vR 0, vI 0, vI (f1 12 (ix r1)), vI (f1 13 (ix r1))] (LR z1 f1) = some (some (vI r2), LR z2 f2) ∧ (∃ (r3 : Int32) (z3 : Nat → Int32) (f3 : Nat → FA), (mcall (d + 3)) 58 [vR 0, vI r2, vI 0, vI x3] (LR z2 f2) = some (some (vI r3), LR z3 f3) ∧ res = (some (vI r3), LR z3 f3)))))) ∧ (r1 = (-1) → (∃ (r4 : Int32) (z4 : Nat → Int32) (f4 : Nat → FA), (mcall (d + 3)) 58 [vR 0, vI x2, vI 0, vI x3] (LR z1 f1) = some (some (vI r4), LR z4 f4) ∧ res = (some (vI r4), LR z4 f4)))))) : RC (mcall (d + 3)) (mP 54) 0 [some (vR 0), some (vI x1), some (vI x2), some (vI x3), o4] [] (LR z f) res := by
  refine rc_b (i' := 2) (ls' := [some (vR 0), some (vI x1), some (vI x2), some (vI x3), o4]) (st' := [vI x1, vR 0]) (L' := LR z f) 2 (b54_1 (mcall (d + 3)) x1 x2 x3 o4 _) ?_
  obtain ⟨r1, z1, f1, hc, H⟩ := H
  refine rc_call (t := 3) (ls' := [some (vR 0), some (vI x1), some (vI x2), some (vI x3), o4]) (st' := []) (b54_2 (mcall (d + 3)) x1 _ z f) hc ?_
  show RC (mcall (d + 3)) (mP 54) 3 [some (vR 0), some (vI x1), some (vI x2), some (vI x3), o4] [vI r1] (LR z1 f1) res
  refine rc_b (i' := 7) (ls' := [some (vR 0), some (vI x1), some (vI x2), some (vI x3), some (vI r1)]) (st' := [vI ((-1)), vI r1, vR 0]) (L' := LR z1 f1) 4 (b54_3 (mcall (d + 3)) x1 x2 x3 o4 r1 _) ?_
  refine rc_if (it := 10) (ie := 8) (ls' := [some (vR 0), some (vI x1), some (vI x2), some (vI x3), some (vI r1)]) (st' := [vR 0]) (b54_4 (mcall (d + 3)) r1 ((-1)) _ _) (fun q1 => ?_) (fun q1 => ?_)
  · have H := H.1 (cI1t q1)
    refine rc_b (i' := 15) (ls' := [some (vR 0), some (vI x1), some (vI x2), some (vI x3), some (vI r1)]) (st' := [vI r1, vR 12, vI 0, vR 0, vR 0]) (L' := LR z1 f1) 5 (b54_5 (mcall (d + 3)) x1 x2 x3 r1 z1 f1) ?_
    obtain ⟨g1, H⟩ := H
    refine rc_g (i' := 16) (ls' := [some (vR 0), some (vI x1), some (vI x2), some (vI x3), some (vI r1)]) (st' := [vI (f1 12 (ix r1)), vI 0, vR 0, vR 0]) (L' := LR z1 f1) (b54_6 (mcall (d + 3)) r1 0 _ z1 f1) (pinG g1) ?_
    refine rc_b (i' := 19) (ls' := [some (vR 0), some (vI x1), some (vI x2), some (vI x3), some (vI r1)]) (st' := [vI r1, vR 13, vI (f1 12 (ix r1)), vI 0, vR 0, vR 0]) (L' := LR z1 f1) 3 (b54_7 (mcall (d + 3)) x1 x2 x3 r1 (f1 12 (ix r1)) 0 z1 f1) ?_
    obtain ⟨g1, H⟩ := H
    refine rc_g (i' := 20) (ls' := [some (vR 0), some (vI x1), some (vI x2), some (vI x3), some (vI r1)]) (st' := [vI (f1 13 (ix r1)), vI (f1 12 (ix r1)), vI 0, vR 0, vR 0]) (L' := LR z1 f1) (b54_8 (mcall (d + 3)) r1 (f1 12 (ix r1)) 0 _ z1 f1) (pinG g1) ?_
    obtain ⟨r2, z2, f2, hc, H⟩ := H
    refine rc_call (t := 21) (ls' := [some (vR 0), some (vI x1), some (vI x2), some (vI x3), some (vI r1)]) (st' := [vR 0]) (b54_9 (mcall (d + 3)) 0 (f1 12 (ix r1)) (f1 13 (ix r1)) _ z1 f1) hc ?_
    show RC (mcall (d + 3)) (mP 54) 21 [some (vR 0), some (vI x1), some (vI x2), some (vI x3), some (vI r1)] [vI r2, vR 0] (LR z2 f2) res
    refine rc_b (i' := 23) (ls' := [some (vR 0), some (vI x1), some (vI x2), some (vI x3), some (vI r1)]) (st' := [vI x3, vI 0, vI r2, vR 0]) (L' := LR z2 f2) 2 (b54_10 (mcall (d + 3)) x1 x2 x3 r1 r2 _) ?_
    obtain ⟨r3, z3, f3, hc, H⟩ := H
    refine rc_call (t := 24) (ls' := [some (vR 0), some (vI x1), some (vI x2), some (vI x3), some (vI r1)]) (st' := []) (b54_11 (mcall (d + 3)) r2 0 x3 _ z2 f2) hc ?_
    show RC (mcall (d + 3)) (mP 54) 24 [some (vR 0), some (vI x1), some (vI x2), some (vI x3), some (vI r1)] [vI r3] (LR z3 f3) res
    subst H
    exact rc_ret (b54_12 (mcall (d + 3)) _ _ _)
  · have H := H.2 (cI1f q1)
    refine rc_b (i' := 23) (ls' := [some (vR 0), some (vI x1), some (vI x2), some (vI x3), some (vI r1)]) (st' := [vI x3, vI 0, vI x2, vR 0]) (L' := LR z1 f1) 4 (b54_13 (mcall (d + 3)) x1 x2 x3 r1 _) ?_
    obtain ⟨r4, z4, f4, hc, H⟩ := H
    refine rc_call (t := 24) (ls' := [some (vR 0), some (vI x1), some (vI x2), some (vI x3), some (vI r1)]) (st' := []) (b54_11 (mcall (d + 3)) x2 0 x3 _ z1 f1) hc ?_
    show RC (mcall (d + 3)) (mP 54) 24 [some (vR 0), some (vI x1), some (vI x2), some (vI x3), some (vI r1)] [vI r4] (LR z4 f4) res
    subst H
    exact rc_ret (b54_12 (mcall (d + 3)) _ _ _)
theorem lawTells_r (d m : Nat) (w u x : Int32) (z : Nat → Int32) (f : Nat → FA) (hx : 0 ≤ I x) (hm : m ≤ 16) (h10 : f 10 0 = nI m) (hW : LWm 0 m f) : ∃ r g, mcall (d + 4) 54 [vR 0, vI w, vI u, vI x] (LR z f) = some (some (vI r), LR z (uA f 22 g)) ∧ 0 ≤ I r ∧ I r ≤ I x := by
  obtain ⟨r, g, hr, hq⟩ := lineOf_r d m w z f hm h10 hW
  by_cases c : r = -1
  · obtain ⟨v, h1, h2⟩ := held_r (d + 2) u 0 x z (uA f 22 g) hx
    exact ⟨v, g, mcall_i (mq54 (cu := [])).2.2 rfl (vc54_0 _ _ _ _ _ _ _ _ ⟨r, z, uA f 22 g, hr, fun h => absurd c h, fun _ => ⟨v, z, uA f 22 g, h2, rfl⟩⟩), h1.1, h1.2⟩
  · obtain ⟨l, hl, rfl⟩ := hq.resolve_left c
    obtain ⟨a, b, e, h12, h13, h14, q1, q2, q3, q4, q5⟩ := hW l hl
    rw [Nat.mul_zero, Nat.zero_add] at h12 h13 h14
    rw [sh0, sh0] at q4 q5
    obtain ⟨v, g', hv⟩ := runs_r (d + 1) a (b - a) z (uA f 22 g) (by omega) q4
    rw [show a + (b - a) = b by omega, uA_uA] at hv
    obtain ⟨y, h1, h2⟩ := held_r (d + 2) v 0 x z (uA f 22 g') hx
    have pl : pin (nI l) 48 = true := pin_nI (by omega) (by omega)
    refine ⟨y, g', mcall_i (mq54 (cu := [])).2.2 rfl (vc54_0 _ _ _ _ _ _ _ _ ⟨nI l, z, uA f 22 g, hr, fun _ => ⟨pl, pl, v, z, uA f 22 g', ?_, y, z, uA f 22 g', h2, rfl⟩, fun h => absurd h c⟩), h1.1, h1.2⟩
    rw [ix_nI (by omega), show (uA f 22 g) 12 l = nI a from h12, show (uA f 22 g) 13 l = nI b from h13]
    exact hv
