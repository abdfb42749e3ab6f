/-! marks of both sides; what the reference asks -/
set_option maxRecDepth 100000 in
theorem b49_1 (call : QC FA) (x1 : Int32) (z : Nat → Int32) (f : Nat → FA) (F : Nat) : rnG call 49 (F + 5) 0 [some (vR 0), some (vI x1)] [] (LR z f) = rnG call 49 F 5 [some (vR 0), some (vI x1)] [vI (67 + x1), vR 1] (LR z f) := rfl
set_option maxRecDepth 100000 in
theorem b49_2 (call : QC FA) (x : Int32) (ls : List (Option PV)) (z : Nat → Int32) (f : Nat → FA) (F : Nat) : rnG call 49 (F + 1) 5 ls [vI x, vR 1] (LR z f) = bif (Nat.beq 0 0 && pin x 499) then rnG call 49 F 6 ls [vI (f 1 (ix x))] (LR z f) else none := rfl
set_option maxRecDepth 100000 in
theorem b49_3 (call : QC FA) (x : Int32) (ls : List (Option PV)) (L : QH FA) (F : Nat) : rnG call 49 (F + 1) 6 ls [vI x] L = bif pcmp 5 x 0 then rnG call 49 F 9 ls [] L else rnG call 49 F 7 ls [] L := rfl
set_option maxRecDepth 100000 in
theorem b49_4 (call : QC FA) (x1 : Int32) (L : QH FA) (F : Nat) : rnG call 49 (F + 1) 9 [some (vR 0), some (vI x1)] [] L = rnG call 49 F 10 [some (vR 0), some (vI x1)] [vI 0] L := rfl
set_option maxRecDepth 100000 in
theorem b49_5 (call : QC FA) (ls : List (Option PV)) (L : QH FA) (F : Nat) : rnG call 49 (F + 1) 10 ls [vI 0] L = some (some (vI 0), L) := rfl
set_option maxRecDepth 100000 in
theorem b49_6 (call : QC FA) (x1 : Int32) (L : QH FA) (F : Nat) : rnG call 49 (F + 2) 7 [some (vR 0), some (vI x1)] [] L = rnG call 49 F 10 [some (vR 0), some (vI x1)] [vI 1] L := rfl
set_option maxRecDepth 100000 in
theorem b49_7 (call : QC FA) (ls : List (Option PV)) (L : QH FA) (F : Nat) : rnG call 49 (F + 1) 10 ls [vI 1] L = some (some (vI 1), L) := rfl
theorem vc49_0 (call : QC FA) (x1 : Int32) (z : Nat → Int32) (f : Nat → FA) (res : Option PV × QH FA) (H : (pin (67 + x1) 499 = true ∧ ((I (f 1 (ix (67 + x1))) ≤ 0 → res = (some (vI 0), LR z f)) ∧ (0 < I (f 1 (ix (67 + x1))) → res = (some (vI 1), LR z f))))) : RC call (mP 49) 0 [some (vR 0), some (vI x1)] [] (LR z f) res := by
  refine rc_b (i' := 5) (ls' := [some (vR 0), some (vI x1)]) (st' := [vI (67 + x1), vR 1]) (L' := LR z f) 5 (b49_1 call x1 z f) ?_
  obtain ⟨g1, H⟩ := H
  refine rc_g (i' := 6) (ls' := [some (vR 0), some (vI x1)]) (st' := [vI (f 1 (ix (67 + x1)))]) (L' := LR z f) (b49_2 call (67 + x1) _ z f) (pinG g1) ?_
  refine rc_if (it := 9) (ie := 7) (ls' := [some (vR 0), some (vI x1)]) (st' := []) (b49_3 call (f 1 (ix (67 + x1))) _ _) (fun q1 => ?_) (fun q1 => ?_)
  · have H := H.1 (cI5t q1 rfl rfl)
    refine rc_b (i' := 10) (ls' := [some (vR 0), some (vI x1)]) (st' := [vI 0]) (L' := LR z f) 1 (b49_4 call x1 _) ?_
    subst H
    exact rc_ret (b49_5 call _ _)
  · have H := H.2 (cI5f q1 rfl rfl)
    refine rc_b (i' := 10) (ls' := [some (vR 0), some (vI x1)]) (st' := [vI 1]) (L' := LR z f) 2 (b49_6 call x1 _) ?_
    subst H
    exact rc_ret (b49_7 call _ _)
/-- one cell's mark: the class's code, the reference's whose, way, depth -/
def MR (nv : Nat) (m wu wy dp : Int32) : Prop := (m = 0 ∧ wu = 0 ∧ wy = 0 ∧ dp = 0) ∨ ∃ v e, v < nv ∧ 1 ≤ e ∧ e ≤ 9 ∧ wu = nI (v + 1) ∧ dp = nI e ∧ ((wy = 1 ∧ m = nI (16 * v + e)) ∨ (wy = -1 ∧ m = -nI (16 * v + e)))
theorem mk_up : ∀ v, v < 20 → ∀ e, e < 10 → 1 ≤ e → (mkW (nI (16 * v + e)) = 1 ∧ mkD (nI (16 * v + e)) = nI e ∧ mkO (nI (16 * v + e)) = nI v ∧ ¬ nI (16 * v + e) = 0) := by decide +kernel
theorem mk_dn : ∀ v, v < 20 → ∀ e, e < 10 → 1 ≤ e → (mkW (-nI (16 * v + e)) = -1 ∧ mkD (-nI (16 * v + e)) = nI e ∧ mkO (-nI (16 * v + e)) = nI v ∧ ¬ -nI (16 * v + e) = 0) := by decide +kernel
theorem MR.val {nv : Nat} {m wu wy dp : Int32} (hn : nv ≤ 20) (h : MR nv m wu wy dp) : mkW m = wy ∧ mkD m = dp ∧ ((m = 0 ∧ mkO m = -1 ∧ wu = 0) ∨ (¬ m = 0 ∧ ∃ v, v < nv ∧ mkO m = nI v ∧ wu = nI (v + 1) ∧ (wy = 1 ∨ wy = -1) ∧ ∃ e, 1 ≤ e ∧ e ≤ 9 ∧ dp = nI e)) := by
  rcases h with ⟨rfl, rfl, rfl, rfl⟩ | ⟨v, e, hv, h1, h2, rfl, rfl, ⟨rfl, rfl⟩ | ⟨rfl, rfl⟩⟩
  · exact ⟨by decide, by decide, Or.inl ⟨rfl, by decide, rfl⟩⟩
  · obtain ⟨k1, k2, k3, k4⟩ := mk_up v (by omega) e (by omega) h1
    exact ⟨k1, k2, Or.inr ⟨k4, v, hv, k3, rfl, Or.inl rfl, e, h1, h2, rfl⟩⟩
  · obtain ⟨k1, k2, k3, k4⟩ := mk_dn v (by omega) e (by omega) h1
    exact ⟨k1, k2, Or.inr ⟨k4, v, hv, k3, rfl, Or.inr rfl, e, h1, h2, rfl⟩⟩
theorem MR.iff {nv : Nat} {m wu wy dp : Int32} (hn : nv ≤ 20) (h : MR nv m wu wy dp) : ¬ m = 0 ↔ 0 < I wu := by
  obtain ⟨-, -, h⟩ := h.val hn
  rcases h with ⟨h1, -, h2⟩ | ⟨h1, v, hv, -, h2, -⟩
  · rw [h1, h2]
    decide
  · rw [h2, I_nI (by omega)]
    exact ⟨fun _ => by omega, fun _ => h1⟩
/-- marks on all cells -/
def MRS (nv : Nat) (m g : FA) : Prop := ∀ i, i < 144 → MR nv (m i) (g (67 + i)) (g (211 + i)) (g (355 + i))
theorem mIs (d : Nat) {i : Nat} (hi : i < 144) {z : Nat → Int32} {f : Nat → FA} : mcall (d + 1) 49 [vR 0, vI (nI i)] (LR z f) = some (some (vI (mk1 (0 < I (f 1 (67 + i))))), LR z f) := by
  have e : 67 + nI i = nI (67 + i) := by rw [show (67 : Int32) = nI 67 from rfl, nI_add]
  have go : ∀ res, _ → mcall (d + 1) 49 [vR 0, vI (nI i)] (LR z f) = some res := fun res H => mcall_i (mq49 (cu := [])).2.2 rfl (vc49_0 (mcall d) (nI i) z f res H)
  rw [e, ix_nI (j := 67 + i) (by omega)] at go
  refine go _ ⟨pin_nI (by omega) (by omega), fun q => ?_, fun q => ?_⟩
  · rw [mk1_f (by omega)]
  · rw [mk1_t q]
set_option maxRecDepth 100000 in
theorem b53_1 (call : QC FA) (x1 : Int32) (o2 : Option PV) (L : QH FA) (F : Nat) : rnG call 53 (F + 4) 0 [some (vR 0), some (vI x1), o2] [] L = rnG call 53 F 4 [some (vR 0), some (vI x1), some (vI 0)] [vI 12, vI x1] L := rfl
set_option maxRecDepth 100000 in
theorem b53_2 (call : QC FA) (x y : Int32) (ls : List (Option PV)) (L : QH FA) (F : Nat) : rnG call 53 (F + 1) 4 ls [vI y, vI x] L = bif pcmp 2 x y then rnG call 53 F 15 ls [] L else rnG call 53 F 5 ls [] L := rfl
set_option maxRecDepth 100000 in
theorem b53_3 (call : QC FA) (x1 : Int32) (x2 : Int32) (L : QH FA) (F : Nat) : rnG call 53 (F + 2) 15 [some (vR 0), some (vI x1), some (vI x2)] [] L = rnG call 53 F 17 [some (vR 0), some (vI x1), some (vI x2)] [vI 132, vI x1] L := rfl
set_option maxRecDepth 100000 in
theorem b53_4 (call : QC FA) (x y : Int32) (ls : List (Option PV)) (L : QH FA) (F : Nat) : rnG call 53 (F + 1) 17 ls [vI y, vI x] L = bif pcmp 3 x y then rnG call 53 F 28 ls [] L else rnG call 53 F 18 ls [] L := rfl
set_option maxRecDepth 100000 in
theorem b53_5 (call : QC FA) (x1 : Int32) (x2 : Int32) (L : QH FA) (F : Nat) : rnG call 53 (F + 2) 28 [some (vR 0), some (vI x1), some (vI x2)] [] L = rnG call 53 F 30 [some (vR 0), some (vI x1), some (vI x2)] [vI 12, vI x1] L := rfl
set_option maxRecDepth 100000 in
theorem b53_6 (call : QC FA) (x y : Int32) (ls : List (Option PV)) (L : QH FA) (F : Nat) : rnG call 53 (F + 1) 30 ls [vI y, vI x] L = bif pcmp 1 y 0 then rnG call 53 F 31 ls [vI (x - x / y * y)] L else none := rfl
set_option maxRecDepth 100000 in
theorem b53_7 (call : QC FA) (x : Int32) (ls : List (Option PV)) (L : QH FA) (F : Nat) : rnG call 53 (F + 1) 31 ls [vI x] L = bif pcmp 5 x 0 then rnG call 53 F 42 ls [] L else rnG call 53 F 32 ls [] L := rfl
set_option maxRecDepth 100000 in
theorem b53_8 (call : QC FA) (x1 : Int32) (x2 : Int32) (L : QH FA) (F : Nat) : rnG call 53 (F + 2) 42 [some (vR 0), some (vI x1), some (vI x2)] [] L = rnG call 53 F 44 [some (vR 0), some (vI x1), some (vI x2)] [vI 12, vI x1] L := rfl
set_option maxRecDepth 100000 in
theorem b53_9 (call : QC FA) (x y : Int32) (ls : List (Option PV)) (L : QH FA) (F : Nat) : rnG call 53 (F + 1) 44 ls [vI y, vI x] L = bif pcmp 1 y 0 then rnG call 53 F 45 ls [vI (x - x / y * y)] L else none := rfl
set_option maxRecDepth 100000 in
theorem b53_10 (call : QC FA) (x1 : Int32) (x2 : Int32) (s0 : Int32) (L : QH FA) (F : Nat) : rnG call 53 (F + 1) 45 [some (vR 0), some (vI x1), some (vI x2)] [vI s0] L = rnG call 53 F 46 [some (vR 0), some (vI x1), some (vI x2)] [vI 11, vI s0] L := rfl
set_option maxRecDepth 100000 in
theorem b53_11 (call : QC FA) (x y : Int32) (ls : List (Option PV)) (L : QH FA) (F : Nat) : rnG call 53 (F + 1) 46 ls [vI y, vI x] L = bif pcmp 3 x y then rnG call 53 F 57 ls [] L else rnG call 53 F 47 ls [] L := rfl
set_option maxRecDepth 100000 in
theorem b53_12 (call : QC FA) (x1 : Int32) (x2 : Int32) (L : QH FA) (F : Nat) : rnG call 53 (F + 1) 57 [some (vR 0), some (vI x1), some (vI x2)] [] L = rnG call 53 F 58 [some (vR 0), some (vI x1), some (vI x2)] [vI x2] L := rfl
set_option maxRecDepth 100000 in
theorem b53_13 (call : QC FA) (x : Int32) (ls : List (Option PV)) (L : QH FA) (F : Nat) : rnG call 53 (F + 1) 58 ls [vI x] L = some (some (vI x), L) := rfl
set_option maxRecDepth 100000 in
theorem b53_14 (call : QC FA) (x1 : Int32) (x2 : Int32) (L : QH FA) (F : Nat) : rnG call 53 (F + 4) 47 [some (vR 0), some (vI x1), some (vI x2)] [] L = rnG call 53 F 51 [some (vR 0), some (vI x1), some (vI x2)] [vI (x1 + 1), vR 0] L := rfl
set_option maxRecDepth 100000 in
theorem b53_15 (call : QC FA) (a0 : Int32) (ls : List (Option PV)) (z : Nat → Int32) (f : Nat → FA) (F : Nat) : rnG call 53 (F + 1) 51 ls [vI a0, vR 0] (LR z f) = cbd (call 49 [vR 0, vI a0] (LR z f)) (fun r L' => rnG call 53 F 52 ls (r.toList ++ []) L') := pcY (ih := rnG call 53 F) (call := call) (a := 49) (b := 1) (v := 12) (t := 52) (x := 0) (ls := ls) (As := [vI a0]) (st' := []) (L := LR z f) rfl rfl rfl
set_option maxRecDepth 100000 in
theorem b53_16 (call : QC FA) (x : Int32) (ls : List (Option PV)) (L : QH FA) (F : Nat) : rnG call 53 (F + 1) 52 ls [vI x] L = bif pcmp 0 x 0 then rnG call 53 F 57 ls [] L else rnG call 53 F 53 ls [] L := rfl
set_option maxRecDepth 100000 in
theorem b53_17 (call : QC FA) (x1 : Int32) (x2 : Int32) (L : QH FA) (F : Nat) : rnG call 53 (F + 5) 53 [some (vR 0), some (vI x1), some (vI x2)] [] L = rnG call 53 F 58 [some (vR 0), some (vI x1), some (vI (x2 + 1))] [vI (x2 + 1)] L := rfl
set_option maxRecDepth 100000 in
theorem b53_18 (call : QC FA) (x1 : Int32) (x2 : Int32) (L : QH FA) (F : Nat) : rnG call 53 (F + 4) 32 [some (vR 0), some (vI x1), some (vI x2)] [] L = rnG call 53 F 36 [some (vR 0), some (vI x1), some (vI x2)] [vI (x1 - 1), vR 0] L := rfl
set_option maxRecDepth 100000 in
theorem b53_19 (call : QC FA) (a0 : Int32) (ls : List (Option PV)) (z : Nat → Int32) (f : Nat → FA) (F : Nat) : rnG call 53 (F + 1) 36 ls [vI a0, vR 0] (LR z f) = cbd (call 49 [vR 0, vI a0] (LR z f)) (fun r L' => rnG call 53 F 37 ls (r.toList ++ []) L') := pcY (ih := rnG call 53 F) (call := call) (a := 49) (b := 1) (v := 12) (t := 37) (x := 0) (ls := ls) (As := [vI a0]) (st' := []) (L := LR z f) rfl rfl rfl
set_option maxRecDepth 100000 in
theorem b53_20 (call : QC FA) (x : Int32) (ls : List (Option PV)) (L : QH FA) (F : Nat) : rnG call 53 (F + 1) 37 ls [vI x] L = bif pcmp 0 x 0 then rnG call 53 F 42 ls [] L else rnG call 53 F 38 ls [] L := rfl
set_option maxRecDepth 100000 in
theorem b53_21 (call : QC FA) (x1 : Int32) (x2 : Int32) (L : QH FA) (F : Nat) : rnG call 53 (F + 6) 38 [some (vR 0), some (vI x1), some (vI x2)] [] L = rnG call 53 F 44 [some (vR 0), some (vI x1), some (vI (x2 + 1))] [vI 12, vI x1] L := rfl
set_option maxRecDepth 100000 in
theorem b53_22 (call : QC FA) (x1 : Int32) (x2 : Int32) (L : QH FA) (F : Nat) : rnG call 53 (F + 4) 18 [some (vR 0), some (vI x1), some (vI x2)] [] L = rnG call 53 F 22 [some (vR 0), some (vI x1), some (vI x2)] [vI (x1 + 12), vR 0] L := rfl
set_option maxRecDepth 100000 in
theorem b53_23 (call : QC FA) (a0 : Int32) (ls : List (Option PV)) (z : Nat → Int32) (f : Nat → FA) (F : Nat) : rnG call 53 (F + 1) 22 ls [vI a0, vR 0] (LR z f) = cbd (call 49 [vR 0, vI a0] (LR z f)) (fun r L' => rnG call 53 F 23 ls (r.toList ++ []) L') := pcY (ih := rnG call 53 F) (call := call) (a := 49) (b := 1) (v := 12) (t := 23) (x := 0) (ls := ls) (As := [vI a0]) (st' := []) (L := LR z f) rfl rfl rfl
set_option maxRecDepth 100000 in
theorem b53_24 (call : QC FA) (x : Int32) (ls : List (Option PV)) (L : QH FA) (F : Nat) : rnG call 53 (F + 1) 23 ls [vI x] L = bif pcmp 0 x 0 then rnG call 53 F 28 ls [] L else rnG call 53 F 24 ls [] L := rfl
set_option maxRecDepth 100000 in
theorem b53_25 (call : QC FA) (x1 : Int32) (x2 : Int32) (L : QH FA) (F : Nat) : rnG call 53 (F + 6) 24 [some (vR 0), some (vI x1), some (vI x2)] [] L = rnG call 53 F 30 [some (vR 0), some (vI x1), some (vI (x2 + 1))] [vI 12, vI x1] L := rfl
set_option maxRecDepth 100000 in
theorem b53_26 (call : QC FA) (x1 : Int32) (x2 : Int32) (L : QH FA) (F : Nat) : rnG call 53 (F + 4) 5 [some (vR 0), some (vI x1), some (vI x2)] [] L = rnG call 53 F 9 [some (vR 0), some (vI x1), some (vI x2)] [vI (x1 - 12), vR 0] L := rfl
set_option maxRecDepth 100000 in
theorem b53_27 (call : QC FA) (a0 : Int32) (ls : List (Option PV)) (z : Nat → Int32) (f : Nat → FA) (F : Nat) : rnG call 53 (F + 1) 9 ls [vI a0, vR 0] (LR z f) = cbd (call 49 [vR 0, vI a0] (LR z f)) (fun r L' => rnG call 53 F 10 ls (r.toList ++ []) L') := pcY (ih := rnG call 53 F) (call := call) (a := 49) (b := 1) (v := 12) (t := 10) (x := 0) (ls := ls) (As := [vI a0]) (st' := []) (L := LR z f) rfl rfl rfl
set_option maxRecDepth 100000 in
theorem b53_28 (call : QC FA) (x : Int32) (ls : List (Option PV)) (L : QH FA) (F : Nat) : rnG call 53 (F + 1) 10 ls [vI x] L = bif pcmp 0 x 0 then rnG call 53 F 15 ls [] L else rnG call 53 F 11 ls [] L := rfl
set_option maxRecDepth 100000 in
theorem b53_29 (call : QC FA) (x1 : Int32) (x2 : Int32) (L : QH FA) (F : Nat) : rnG call 53 (F + 6) 11 [some (vR 0), some (vI x1), some (vI x2)] [] L = rnG call 53 F 17 [some (vR 0), some (vI x1), some (vI (x2 + 1))] [vI 132, vI x1] L := rfl
theorem vc53_0 (d : Nat) (x1 : Int32) (o2 : Option PV) (z : Nat → Int32) (f : Nat → FA) (res : Option PV × QH FA) (H : ((I x1 < 12 → ((132 ≤ I x1 → (¬ (12 : Int32) = 0 ∧ ((I (x1 - x1 / 12 * 12) ≤ 0 → (¬ (12 : Int32) = 0 ∧ ((11 ≤ I (x1 - x1 / 12 * 12) → res = (some (vI 0), LR z f)) ∧ (I (x1 - x1 / 12 * 12) < 11 → (∃ (r1 : Int32) (z1 : Nat → Int32) (f1 : Nat → FA), (mcall (d + 1)) 49 [vR 0, vI (x1 + 1)] (LR z f) = some (some (vI r1), LR z1 f1) ∧ ((r1 = 0 → res = (some (vI 0), LR z1 f1)) ∧ (¬ r1 = 0 → res = (some (vI (0 + 1)), LR z1 f1)))))))) ∧ (0 < I (x1 - x1 / 12 * 12) → (∃ (r2 : Int32) (z2 : Nat → Int32) (f2 : Nat → FA), (mcall (d + 1)) 49 [vR 0, vI (x1 - 1)] (LR z f) = some (some (vI r2), LR z2 f2) ∧ ((r2 = 0 → (¬ (12 : Int32) = 0 ∧ ((11 ≤ I (x1 - x1 / 12 * 12) → res = (some (vI 0), LR z2 f2)) ∧ (I (x1 - x1 / 12 * 12) < 11 → (∃ (r3 : Int32) (z3 : Nat → Int32) (f3 : Nat → FA), (mcall (d + 1)) 49 [vR 0, vI (x1 + 1)] (LR z2 f2) = some (some (vI r3), LR z3 f3) ∧ ((r3 = 0 → res = (some (vI 0), LR z3 f3)) ∧ (¬ r3 = 0 → res = (some (vI (0 + 1)), LR z3 f3)))))))) ∧ (¬ r2 = 0 → (¬ (12 : Int32) = 0 ∧ ((11 ≤ I (x1 - x1 / 12 * 12) → res = (some (vI (0 + 1)), LR z2 f2)) ∧ (I (x1 - x1 / 12 * 12) < 11 → (∃ (r4 : Int32) (z4 : Nat → Int32) (f4 : Nat → FA), (mcall (d + 1)) 49 [vR 0, vI (x1 + 1)] (LR z2 f2) = some (some (vI r4), LR z4 f4) ∧ ((r4 = 0 → res = (some (vI (0 + 1)), LR z4 f4)) ∧ (¬ r4 = 0 → res = (some (vI ((0 + 1) + 1)), LR z4 f4)))))))))))))) ∧ (I x1 < 132 → (∃ (r5 : Int32) (z5 : Nat → Int32) (f5 : Nat → FA), (mcall (d + 1)) 49 [vR 0, vI (x1 + 12)] (LR z f) = some (some (vI r5), LR z5 f5) ∧ ((r5 = 0 → (¬ (12 : Int32) = 0 ∧ ((I (x1 - x1 / 12 * 12) ≤ 0 → (¬ (12 : Int32) = 0 ∧ ((11 ≤ I (x1 - x1 / 12 * 12) → res = (some (vI 0), LR z5 f5)) ∧ (I (x1 - x1 / 12 * 12) < 11 → (∃ (r6 : Int32) (z6 : Nat → Int32) (f6 : Nat → FA), (mcall (d + 1)) 49 [vR 0, vI (x1 + 1)] (LR z5 f5) = some (some (vI r6), LR z6 f6) ∧ ((r6 = 0 → res = (some (vI 0), LR z6 f6)) ∧ (¬ r6 = 0 → res = (some (vI (0 + 1)), LR z6 f6)))))))) ∧ (0 < I (x1 - x1 / 12 * 12) → (∃ (r7 : Int32) (z7 : Nat → Int32) (f7 : Nat → FA), (mcall (d + 1)) 49 [vR 0, vI (x1 - 1)] (LR z5 f5) = some (some (vI r7), LR z7 f7) ∧ ((r7 = 0 → (¬ (12 : Int32) = 0 ∧ ((11 ≤ I (x1 - x1 / 12 * 12) → res = (some (vI 0), LR z7 f7)) ∧ (I (x1 - x1 / 12 * 12) < 11 → (∃ (r8 : Int32) (z8 : Nat → Int32) (f8 : Nat → FA), (mcall (d + 1)) 49 [vR 0, vI (x1 + 1)] (LR z7 f7) = some (some (vI r8), LR z8 f8) ∧ ((r8 = 0 → res = (some (vI 0), LR z8 f8)) ∧ (¬ r8 = 0 → res = (some (vI (0 + 1)), LR z8 f8)))))))) ∧ (¬ r7 = 0 → (¬ (12 : Int32) = 0 ∧ ((11 ≤ I (x1 - x1 / 12 * 12) → res = (some (vI (0 + 1)), LR z7 f7)) ∧ (I (x1 - x1 / 12 * 12) < 11 → (∃ (r9 : Int32) (z9 : Nat → Int32) (f9 : Nat → FA), (mcall (d + 1)) 49 [vR 0, vI (x1 + 1)] (LR z7 f7) = some (some (vI r9), LR z9 f9) ∧ ((r9 = 0 → res = (some (vI (0 + 1)), LR z9 f9)) ∧ (¬ r9 = 0 → res = (some (vI ((0 + 1) + 1)), LR z9 f9)))))))))))))) ∧ (¬ r5 = 0 → (¬ (12 : Int32) = 0 ∧ ((I (x1 - x1 / 12 * 12) ≤ 0 → (¬ (12 : Int32) = 0 ∧ ((11 ≤ I (x1 - x1 / 12 * 12) → res = (some (vI (0 + 1)), LR z5 f5)) ∧ (I (x1 - x1 / 12 * 12) < 11 → (∃ (r10 : Int32) (z10 : Nat → Int32) (f10 : Nat → FA), (mcall (d + 1)) 49 [vR 0, vI (x1 + 1)] (LR z5 f5) = some (some (vI r10), LR z10 f10) ∧ ((r10 = 0 → res = (some (vI (0 + 1)), LR z10 f10)) ∧ (¬ r10 = 0 → res = (some (vI ((0 + 1) + 1)), LR z10 f10)))))))) ∧ (0 < I (x1 - x1 / 12 * 12) → (∃ (r11 : Int32) (z11 : Nat → Int32) (f11 : Nat → FA), (mcall (d + 1)) 49 [vR 0, vI (x1 - 1)] (LR z5 f5) = some (some (vI r11), LR z11 f11) ∧ ((r11 = 0 → (¬ (12 : Int32) = 0 ∧ ((11 ≤ I (x1 - x1 / 12 * 12) → res = (some (vI (0 + 1)), LR z11 f11)) ∧ (I (x1 - x1 / 12 * 12) < 11 → (∃ (r12 : Int32) (z12 : Nat → Int32) (f12 : Nat → FA), (mcall (d + 1)) 49 [vR 0, vI (x1 + 1)] (LR z11 f11) = some (some (vI r12), LR z12 f12) ∧ ((r12 = 0 → res = (some (vI (0 + 1)), LR z12 f12)) ∧ (¬ r12 = 0 → res = (some (vI ((0 + 1) + 1)), LR z12 f12)))))))) ∧ (¬ r11 = 0 → (¬ (12 : Int32) = 0 ∧ ((11 ≤ I (x1 - x1 / 12 * 12) → res = (some (vI ((0 + 1) + 1)), LR z11 f11)) ∧ (I (x1 - x1 / 12 * 12) < 11 → (∃ (r13 : Int32) (z13 : Nat → Int32) (f13 : Nat → FA), (mcall (d + 1)) 49 [vR 0, vI (x1 + 1)] (LR z11 f11) = some (some (vI r13), LR z13 f13) ∧ ((r13 = 0 → res = (some (vI ((0 + 1) + 1)), LR z13 f13)) ∧ (¬ r13 = 0 → res = (some (vI (((0 + 1) + 1) + 1)), LR z13 f13))))))))))))))))))) ∧ (12 ≤ I x1 → (∃ (r14 : Int32) (z14 : Nat → Int32) (f14 : Nat → FA), (mcall (d + 1)) 49 [vR 0, vI (x1 - 12)] (LR z f) = some (some (vI r14), LR z14 f14) ∧ ((r14 = 0 → ((132 ≤ I x1 → (¬ (12 : Int32) = 0 ∧ ((I (x1 - x1 / 12 * 12) ≤ 0 → (¬ (12 : Int32) = 0 ∧ ((11 ≤ I (x1 - x1 / 12 * 12) → res = (some (vI 0), LR z14 f14)) ∧ (I (x1 - x1 / 12 * 12) < 11 → (∃ (r15 : Int32) (z15 : Nat → Int32) (f15 : Nat → FA), (mcall (d + 1)) 49 [vR 0, vI (x1 + 1)] (LR z14 f14) = some (some (vI r15), LR z15 f15) ∧ ((r15 = 0 → res = (some (vI 0), LR z15 f15)) ∧ (¬ r15 = 0 → res = (some (vI (0 + 1)), LR z15 f15)))))))) ∧ (0 < I (x1 - x1 / 12 * 12) → (∃ (r16 : Int32) (z16 : Nat → Int32) (f16 : Nat → FA), (mcall (d + 1)) 49 [vR 0, vI (x1 - 1)] (LR z14 f14) = some (some (vI r16), LR z16 f16) ∧ ((r16 = 0 → (¬ (12 : Int32) = 0 ∧ ((11 ≤ I (x1 - x1 / 12 * 12) → res = (some (vI 0), LR z16 f16)) ∧ (I (x1 - x1 / 12 * 12) < 11 → (∃ (r17 : Int32) (z17 : Nat → Int32) (f17 : Nat → FA), (mcall (d + 1)) 49 [vR 0, vI (x1 + 1)] (LR z16 f16) = some (some (vI r17), LR z17 f17) ∧ ((r17 = 0 → res = (some (vI 0), LR z17 f17)) ∧ (¬ r17 = 0 → res = (some (vI (0 + 1)), LR z17 f17)))))))) ∧ (¬ r16 = 0 → (¬ (12 : Int32) = 0 ∧ ((11 ≤ I (x1 - x1 / 12 * 12) → res = (some (vI (0 + 1)), LR z16 f16)) ∧ (I (x1 - x1 / 12 * 12) < 11 → (∃ (r18 : Int32) (z18 : Nat → Int32) (f18 : Nat → FA), (mcall (d + 1)) 49 [vR 0, vI (x1 + 1)] (LR z16 f16) = some (some (vI r18), LR z18 f18) ∧ ((r18 = 0 → res = (some (vI (0 + 1)), LR z18 f18)) ∧ (¬ r18 = 0 → res = (some (vI ((0 + 1) + 1)), LR z18 f18)))))))))))))) ∧ (I x1 < 132 → (∃ (r19 : Int32) (z19 : Nat → Int32) (f19 : Nat → FA), (mcall (d + 1)) 49 [vR 0, vI (x1 + 12)] (LR z14 f14) = some (some (vI r19), LR z19 f19) ∧ ((r19 = 0 → (¬ (12 : Int32) = 0 ∧ ((I (x1 - x1 / 12 * 12) ≤ 0 → (¬ (12 : Int32) = 0 ∧ ((11 ≤ I (x1 - x1 / 12 * 12) → res = (some (vI 0), LR z19 f19)) ∧ (I (x1 - x1 / 12 * 12) < 11 → (∃ (r20 : Int32) (z20 : Nat → Int32) (f20 : Nat → FA), (mcall (d + 1)) 49 [vR 0, vI (x1 + 1)] (LR z19 f19) = some (some (vI r20), LR z20 f20) ∧ ((r20 = 0 → res = (some (vI 0), LR z20 f20)) ∧ (¬ r20 = 0 → res = (some (vI (0 + 1)), LR z20 f20)))))))) ∧ (0 < I (x1 - x1 / 12 * 12) → (∃ (r21 : Int32) (z21 : Nat → Int32) (f21 : Nat → FA), (mcall (d + 1)) 49 [vR 0, vI (x1 - 1)] (LR z19 f19) = some (some (vI r21), LR z21 f21) ∧ ((r21 = 0 → (¬ (12 : Int32) = 0 ∧ ((11 ≤ I (x1 - x1 / 12 * 12) → res = (some (vI 0), LR z21 f21)) ∧ (I (x1 - x1 / 12 * 12) < 11 → (∃ (r22 : Int32) (z22 : Nat → Int32) (f22 : Nat → FA), (mcall (d + 1)) 49 [vR 0, vI (x1 + 1)] (LR z21 f21) = some (some (vI r22), LR z22 f22) ∧ ((r22 = 0 → res = (some (vI 0), LR z22 f22)) ∧ (¬ r22 = 0 → res = (some (vI (0 + 1)), LR z22 f22)))))))) ∧ (¬ r21 = 0 → (¬ (12 : Int32) = 0 ∧ ((11 ≤ I (x1 - x1 / 12 * 12) → res = (some (vI (0 + 1)), LR z21 f21)) ∧ (I (x1 - x1 / 12 * 12) < 11 → (∃ (r23 : Int32) (z23 : Nat → Int32) (f23 : Nat → FA), (mcall (d + 1)) 49 [vR 0, vI (x1 + 1)] (LR z21 f21) = some (some (vI r23), LR z23 f23) ∧ ((r23 = 0 → res = (some (vI (0 + 1)), LR z23 f23)) ∧ (¬ r23 = 0 → res = (some (vI ((0 + 1) + 1)), LR z23 f23)))))))))))))) ∧ (¬ r19 = 0 → (¬ (12 : Int32) = 0 ∧ ((I (x1 - x1 / 12 * 12) ≤ 0 → (¬ (12 : Int32) = 0 ∧ ((11 ≤ I (x1 - x1 / 12 * 12) → res = (some (vI (0 + 1)), LR z19 f19)) ∧ (I (x1 - x1 / 12 * 12) < 11 → (∃ (r24 : Int32) (z24 : Nat → Int32) (f24 : Nat → FA), (mcall (d + 1)) 49 [vR 0, vI (x1 + 1)] (LR z19 f19) = some (some (vI r24), LR z24 f24) ∧ ((r24 = 0 → res = (some (vI (0 + 1)), LR z24 f24)) ∧ (¬ r24 = 0 → res = (some (vI ((0 + 1) + 1)), LR z24 f24)))))))) ∧ (0 < I (x1 - x1 / 12 * 12) → (∃ (r25 : Int32) (z25 : Nat → Int32) (f25 : Nat → FA), (mcall (d + 1)) 49 [vR 0, vI (x1 - 1)] (LR z19 f19) = some (some (vI r25), LR z25 f25) ∧ ((r25 = 0 → (¬ (12 : Int32) = 0 ∧ ((11 ≤ I (x1 - x1 / 12 * 12) → res = (some (vI (0 + 1)), LR z25 f25)) ∧ (I (x1 - x1 / 12 * 12) < 11 → (∃ (r26 : Int32) (z26 : Nat → Int32) (f26 : Nat → FA), (mcall (d + 1)) 49 [vR 0, vI (x1 + 1)] (LR z25 f25) = some (some (vI r26), LR z26 f26) ∧ ((r26 = 0 → res = (some (vI (0 + 1)), LR z26 f26)) ∧ (¬ r26 = 0 → res = (some (vI ((0 + 1) + 1)), LR z26 f26)))))))) ∧ (¬ r25 = 0 → (¬ (12 : Int32) = 0 ∧ ((11 ≤ I (x1 - x1 / 12 * 12) → res = (some (vI ((0 + 1) + 1)), LR z25 f25)) ∧ (I (x1 - x1 / 12 * 12) < 11 → (∃ (r27 : Int32) (z27 : Nat → Int32) (f27 : Nat → FA), (mcall (d + 1)) 49 [vR 0, vI (x1 + 1)] (LR z25 f25) = some (some (vI r27), LR z27 f27) ∧ ((r27 = 0 → res = (some (vI ((0 + 1) + 1)), LR z27 f27)) ∧ (¬ r27 = 0 → res = (some (vI (((0 + 1) + 1) + 1)), LR z27 f27))))))))))))))))))) ∧ (¬ r14 = 0 → ((132 ≤ I x1 → (¬ (12 : Int32) = 0 ∧ ((I (x1 - x1 / 12 * 12) ≤ 0 → (¬ (12 : Int32) = 0 ∧ ((11 ≤ I (x1 - x1 / 12 * 12) → res = (some (vI (0 + 1)), LR z14 f14)) ∧ (I (x1 - x1 / 12 * 12) < 11 → (∃ (r28 : Int32) (z28 : Nat → Int32) (f28 : Nat → FA), (mcall (d + 1)) 49 [vR 0, vI (x1 + 1)] (LR z14 f14) = some (some (vI r28), LR z28 f28) ∧ ((r28 = 0 → res = (some (vI (0 + 1)), LR z28 f28)) ∧ (¬ r28 = 0 → res = (some (vI ((0 + 1) + 1)), LR z28 f28)))))))) ∧ (0 < I (x1 - x1 / 12 * 12) → (∃ (r29 : Int32) (z29 : Nat → Int32) (f29 : Nat → FA), (mcall (d + 1)) 49 [vR 0, vI (x1 - 1)] (LR z14 f14) = some (some (vI r29), LR z29 f29) ∧ ((r29 = 0 → (¬ (12 : Int32) = 0 ∧ ((11 ≤ I (x1 - x1 / 12 * 12) → res = (some (vI (0 + 1)), LR z29 f29)) ∧ (I (x1 - x1 / 12 * 12) < 11 → (∃ (r30 : Int32) (z30 : Nat → Int32) (f30 : Nat → FA), (mcall (d + 1)) 49 [vR 0, vI (x1 + 1)] (LR z29 f29) = some (some (vI r30), LR z30 f30) ∧ ((r30 = 0 → res = (some (vI (0 + 1)), LR z30 f30)) ∧ (¬ r30 = 0 → res = (some (vI ((0 + 1) + 1)), LR z30 f30)))))))) ∧ (¬ r29 = 0 → (¬ (12 : Int32) = 0 ∧ ((11 ≤ I (x1 - x1 / 12 * 12) → res = (some (vI ((0 + 1) + 1)), LR z29 f29)) ∧ (I (x1 - x1 / 12 * 12) < 11 → (∃ (r31 : Int32) (z31 : Nat → Int32) (f31 : Nat → FA), (mcall (d + 1)) 49 [vR 0, vI (x1 + 1)] (LR z29 f29) = some (some (vI r31), LR z31 f31) ∧ ((r31 = 0 → res = (some (vI ((0 + 1) + 1)), LR z31 f31)) ∧ (¬ r31 = 0 → res = (some (vI (((0 + 1) + 1) + 1)), LR z31 f31)))))))))))))) ∧ (I x1 < 132 → (∃ (r32 : Int32) (z32 : Nat → Int32) (f32 : Nat → FA), (mcall (d + 1)) 49 [vR 0, vI (x1 + 12)] (LR z14 f14) = some (some (vI r32), LR z32 f32) ∧ ((r32 = 0 → (¬ (12 : Int32) = 0 ∧ ((I (x1 - x1 / 12 * 12) ≤ 0 → (¬ (12 : Int32) = 0 ∧ ((11 ≤ I (x1 - x1 / 12 * 12) → res = (some (vI (0 + 1)), LR z32 f32)) ∧ (I (x1 - x1 / 12 * 12) < 11 → (∃ (r33 : Int32) (z33 : Nat → Int32) (f33 : Nat → FA), (mcall (d + 1)) 49 [vR 0, vI (x1 + 1)] (LR z32 f32) = some (some (vI r33), LR z33 f33) ∧ ((r33 = 0 → res = (some (vI (0 + 1)), LR z33 f33)) ∧ (¬ r33 = 0 → res = (some (vI ((0 + 1) + 1)), LR z33 f33)))))))) ∧ (0 < I (x1 - x1 / 12 * 12) → (∃ (r34 : Int32) (z34 : Nat → Int32) (f34 : Nat → FA), (mcall (d + 1)) 49 [vR 0, vI (x1 - 1)] (LR z32 f32) = some (some (vI r34), LR z34 f34) ∧ ((r34 = 0 → (¬ (12 : Int32) = 0 ∧ ((11 ≤ I (x1 - x1 / 12 * 12) → res = (some (vI (0 + 1)), LR z34 f34)) ∧ (I (x1 - x1 / 12 * 12) < 11 → (∃ (r35 : Int32) (z35 : Nat → Int32) (f35 : Nat → FA), (mcall (d + 1)) 49 [vR 0, vI (x1 + 1)] (LR z34 f34) = some (some (vI r35), LR z35 f35) ∧ ((r35 = 0 → res = (some (vI (0 + 1)), LR z35 f35)) ∧ (¬ r35 = 0 → res = (some (vI ((0 + 1) + 1)), LR z35 f35)))))))) ∧ (¬ r34 = 0 → (¬ (12 : Int32) = 0 ∧ ((11 ≤ I (x1 - x1 / 12 * 12) → res = (some (vI ((0 + 1) + 1)), LR z34 f34)) ∧ (I (x1 - x1 / 12 * 12) < 11 → (∃ (r36 : Int32) (z36 : Nat → Int32) (f36 : Nat → FA), (mcall (d + 1)) 49 [vR 0, vI (x1 + 1)] (LR z34 f34) = some (some (vI r36), LR z36 f36) ∧ ((r36 = 0 → res = (some (vI ((0 + 1) + 1)), LR z36 f36)) ∧ (¬ r36 = 0 → res = (some (vI (((0 + 1) + 1) + 1)), LR z36 f36)))))))))))))) ∧ (¬ r32 = 0 → (¬ (12 : Int32) = 0 ∧ ((I (x1 - x1 / 12 * 12) ≤ 0 → (¬ (12 : Int32) = 0 ∧ ((11 ≤ I (x1 - x1 / 12 * 12) → res = (some (vI ((0 + 1) + 1)), LR z32 f32)) ∧ (I (x1 - x1 / 12 * 12) < 11 → (∃ (r37 : Int32) (z37 : Nat → Int32) (f37 : Nat → FA), (mcall (d + 1)) 49 [vR 0, vI (x1 + 1)] (LR z32 f32) = some (some (vI r37), LR z37 f37) ∧ ((r37 = 0 → res = (some (vI ((0 + 1) + 1)), LR z37 f37)) ∧ (¬ r37 = 0 → res = (some (vI (((0 + 1) + 1) + 1)), LR z37 f37)))))))) ∧ (0 < I (x1 - x1 / 12 * 12) → (∃ (r38 : Int32) (z38 : Nat → Int32) (f38 : Nat → FA), (mcall (d + 1)) 49 [vR 0, vI (x1 - 1)] (LR z32 f32) = some (some (vI r38), LR z38 f38) ∧ ((r38 = 0 → (¬ (12 : Int32) = 0 ∧ ((11 ≤ I (x1 - x1 / 12 * 12) → res = (some (vI ((0 + 1) + 1)), LR z38 f38)) ∧ (I (x1 - x1 / 12 * 12) < 11 → (∃ (r39 : Int32) (z39 : Nat → Int32) (f39 : Nat → FA), (mcall (d + 1)) 49 [vR 0, vI (x1 + 1)] (LR z38 f38) = some (some (vI r39), LR z39 f39) ∧ ((r39 = 0 → res = (some (vI ((0 + 1) + 1)), LR z39 f39)) ∧ (¬ r39 = 0 → res = (some (vI (((0 + 1) + 1) + 1)), LR z39 f39)))))))) ∧ (¬ r38 = 0 → (¬ (12 : Int32) = 0 ∧ ((11 ≤ I (x1 - x1 / 12 * 12) → res = (some (vI (((0 + 1) + 1) + 1)), LR z38 f38)) ∧ (I (x1 - x1 / 12 * 12) < 11 → (∃ (r40 : Int32) (z40 : Nat → Int32) (f40 : Nat → FA), (mcall (d + 1)) 49 [vR 0, vI (x1 + 1)] (LR z38 f38) = some (some (vI r40), LR z40 f40) ∧ ((r40 = 0 → res = (some (vI (((0 + 1) + 1) + 1)), LR z40 f40)) ∧ (¬ r40 = 0 → res = (some (vI ((((0 + 1) + 1) + 1) + 1)), LR z40 f40)))))))))))))))))))))))) : RC (mcall (d + 1)) (mP 53) 0 [some (vR 0), some (vI x1), o2] [] (LR z f) res := by
  refine rc_b (i' := 4) (ls' := [some (vR 0), some (vI x1), some (vI 0)]) (st' := [vI 12, vI x1]) (L' := LR z f) 4 (b53_1 (mcall (d + 1)) x1 o2 _) ?_
  refine rc_if (it := 15) (ie := 5) (ls' := [some (vR 0), some (vI x1), some (vI 0)]) (st' := []) (b53_2 (mcall (d + 1)) x1 12 _ _) (fun q1 => ?_) (fun q1 => ?_)
  · have H := H.1 (cI2t q1 rfl rfl)
    refine rc_b (i' := 17) (ls' := [some (vR 0), some (vI x1), some (vI 0)]) (st' := [vI 132, vI x1]) (L' := LR z f) 2 (b53_3 (mcall (d + 1)) x1 0 _) ?_
    refine rc_if (it := 28) (ie := 18) (ls' := [some (vR 0), some (vI x1), some (vI 0)]) (st' := []) (b53_4 (mcall (d + 1)) x1 132 _ _) (fun q2 => ?_) (fun q2 => ?_)
    · have H := H.1 (cI3t q2 rfl rfl)
      refine rc_b (i' := 30) (ls' := [some (vR 0), some (vI x1), some (vI 0)]) (st' := [vI 12, vI x1]) (L' := LR z f) 2 (b53_5 (mcall (d + 1)) x1 0 _) ?_
      obtain ⟨g1, H⟩ := H
      refine rc_g (i' := 31) (ls' := [some (vR 0), some (vI x1), some (vI 0)]) (st' := [vI (x1 - x1 / 12 * 12)]) (L' := LR z f) (b53_6 (mcall (d + 1)) x1 12 _ _) (cmp_ne.trans (decide_eq_true g1)) ?_
      refine rc_if (it := 42) (ie := 32) (ls' := [some (vR 0), some (vI x1), some (vI 0)]) (st' := []) (b53_7 (mcall (d + 1)) (x1 - x1 / 12 * 12) _ _) (fun q3 => ?_) (fun q3 => ?_)
      · have H := H.1 (cI5t q3 rfl rfl)
        refine rc_b (i' := 44) (ls' := [some (vR 0), some (vI x1), some (vI 0)]) (st' := [vI 12, vI x1]) (L' := LR z f) 2 (b53_8 (mcall (d + 1)) x1 0 _) ?_
        obtain ⟨g1, H⟩ := H
        refine rc_g (i' := 45) (ls' := [some (vR 0), some (vI x1), some (vI 0)]) (st' := [vI (x1 - x1 / 12 * 12)]) (L' := LR z f) (b53_9 (mcall (d + 1)) x1 12 _ _) (cmp_ne.trans (decide_eq_true g1)) ?_
        refine rc_b (i' := 46) (ls' := [some (vR 0), some (vI x1), some (vI 0)]) (st' := [vI 11, vI (x1 - x1 / 12 * 12)]) (L' := LR z f) 1 (b53_10 (mcall (d + 1)) x1 0 (x1 - x1 / 12 * 12) _) ?_
        refine rc_if (it := 57) (ie := 47) (ls' := [some (vR 0), some (vI x1), some (vI 0)]) (st' := []) (b53_11 (mcall (d + 1)) (x1 - x1 / 12 * 12) 11 _ _) (fun q4 => ?_) (fun q4 => ?_)
        · have H := H.1 (cI3t q4 rfl rfl)
          refine rc_b (i' := 58) (ls' := [some (vR 0), some (vI x1), some (vI 0)]) (st' := [vI 0]) (L' := LR z f) 1 (b53_12 (mcall (d + 1)) x1 0 _) ?_
          subst H
          exact rc_ret (b53_13 (mcall (d + 1)) _ _ _)
        · have H := H.2 (cI3f q4 rfl rfl)
          refine rc_b (i' := 51) (ls' := [some (vR 0), some (vI x1), some (vI 0)]) (st' := [vI (x1 + 1), vR 0]) (L' := LR z f) 4 (b53_14 (mcall (d + 1)) x1 0 _) ?_
          obtain ⟨r1, z1, f1, hc, H⟩ := H
          refine rc_call (t := 52) (ls' := [some (vR 0), some (vI x1), some (vI 0)]) (st' := []) (b53_15 (mcall (d + 1)) (x1 + 1) _ z f) hc ?_
          show RC (mcall (d + 1)) (mP 53) 52 [some (vR 0), some (vI x1), some (vI 0)] [vI r1] (LR z1 f1) res
          refine rc_if (it := 57) (ie := 53) (ls' := [some (vR 0), some (vI x1), some (vI 0)]) (st' := []) (b53_16 (mcall (d + 1)) r1 _ _) (fun q5 => ?_) (fun q5 => ?_)
          · have H := H.1 (cI0t q5)
            refine rc_b (i' := 58) (ls' := [some (vR 0), some (vI x1), some (vI 0)]) (st' := [vI 0]) (L' := LR z1 f1) 1 (b53_12 (mcall (d + 1)) x1 0 _) ?_
            subst H
            exact rc_ret (b53_13 (mcall (d + 1)) _ _ _)
          · have H := H.2 (cI0f q5)
            refine rc_b (i' := 58) (ls' := [some (vR 0), some (vI x1), some (vI (0 + 1))]) (st' := [vI (0 + 1)]) (L' := LR z1 f1) 5 (b53_17 (mcall (d + 1)) x1 0 _) ?_
            subst H
            exact rc_ret (b53_13 (mcall (d + 1)) _ _ _)
      · have H := H.2 (cI5f q3 rfl rfl)
        refine rc_b (i' := 36) (ls' := [some (vR 0), some (vI x1), some (vI 0)]) (st' := [vI (x1 - 1), vR 0]) (L' := LR z f) 4 (b53_18 (mcall (d + 1)) x1 0 _) ?_
        obtain ⟨r2, z2, f2, hc, H⟩ := H
        refine rc_call (t := 37) (ls' := [some (vR 0), some (vI x1), some (vI 0)]) (st' := []) (b53_19 (mcall (d + 1)) (x1 - 1) _ z f) hc ?_
        show RC (mcall (d + 1)) (mP 53) 37 [some (vR 0), some (vI x1), some (vI 0)] [vI r2] (LR z2 f2) res
        refine rc_if (it := 42) (ie := 38) (ls' := [some (vR 0), some (vI x1), some (vI 0)]) (st' := []) (b53_20 (mcall (d + 1)) r2 _ _) (fun q6 => ?_) (fun q6 => ?_)
        · have H := H.1 (cI0t q6)
          refine rc_b (i' := 44) (ls' := [some (vR 0), some (vI x1), some (vI 0)]) (st' := [vI 12, vI x1]) (L' := LR z2 f2) 2 (b53_8 (mcall (d + 1)) x1 0 _) ?_
          obtain ⟨g1, H⟩ := H
          refine rc_g (i' := 45) (ls' := [some (vR 0), some (vI x1), some (vI 0)]) (st' := [vI (x1 - x1 / 12 * 12)]) (L' := LR z2 f2) (b53_9 (mcall (d + 1)) x1 12 _ _) (cmp_ne.trans (decide_eq_true g1)) ?_
          refine rc_b (i' := 46) (ls' := [some (vR 0), some (vI x1), some (vI 0)]) (st' := [vI 11, vI (x1 - x1 / 12 * 12)]) (L' := LR z2 f2) 1 (b53_10 (mcall (d + 1)) x1 0 (x1 - x1 / 12 * 12) _) ?_
          refine rc_if (it := 57) (ie := 47) (ls' := [some (vR 0), some (vI x1), some (vI 0)]) (st' := []) (b53_11 (mcall (d + 1)) (x1 - x1 / 12 * 12) 11 _ _) (fun q7 => ?_) (fun q7 => ?_)
          · have H := H.1 (cI3t q7 rfl rfl)
            refine rc_b (i' := 58) (ls' := [some (vR 0), some (vI x1), some (vI 0)]) (st' := [vI 0]) (L' := LR z2 f2) 1 (b53_12 (mcall (d + 1)) x1 0 _) ?_
            subst H
            exact rc_ret (b53_13 (mcall (d + 1)) _ _ _)
          · have H := H.2 (cI3f q7 rfl rfl)
            refine rc_b (i' := 51) (ls' := [some (vR 0), some (vI x1), some (vI 0)]) (st' := [vI (x1 + 1), vR 0]) (L' := LR z2 f2) 4 (b53_14 (mcall (d + 1)) x1 0 _) ?_
            obtain ⟨r3, z3, f3, hc, H⟩ := H
            refine rc_call (t := 52) (ls' := [some (vR 0), some (vI x1), some (vI 0)]) (st' := []) (b53_15 (mcall (d + 1)) (x1 + 1) _ z2 f2) hc ?_
            show RC (mcall (d + 1)) (mP 53) 52 [some (vR 0), some (vI x1), some (vI 0)] [vI r3] (LR z3 f3) res
            refine rc_if (it := 57) (ie := 53) (ls' := [some (vR 0), some (vI x1), some (vI 0)]) (st' := []) (b53_16 (mcall (d + 1)) r3 _ _) (fun q8 => ?_) (fun q8 => ?_)
            · have H := H.1 (cI0t q8)
              refine rc_b (i' := 58) (ls' := [some (vR 0), some (vI x1), some (vI 0)]) (st' := [vI 0]) (L' := LR z3 f3) 1 (b53_12 (mcall (d + 1)) x1 0 _) ?_
              subst H
              exact rc_ret (b53_13 (mcall (d + 1)) _ _ _)
            · have H := H.2 (cI0f q8)
              refine rc_b (i' := 58) (ls' := [some (vR 0), some (vI x1), some (vI (0 + 1))]) (st' := [vI (0 + 1)]) (L' := LR z3 f3) 5 (b53_17 (mcall (d + 1)) x1 0 _) ?_
              subst H
              exact rc_ret (b53_13 (mcall (d + 1)) _ _ _)
        · have H := H.2 (cI0f q6)
          refine rc_b (i' := 44) (ls' := [some (vR 0), some (vI x1), some (vI (0 + 1))]) (st' := [vI 12, vI x1]) (L' := LR z2 f2) 6 (b53_21 (mcall (d + 1)) x1 0 _) ?_
          obtain ⟨g1, H⟩ := H
          refine rc_g (i' := 45) (ls' := [some (vR 0), some (vI x1), some (vI (0 + 1))]) (st' := [vI (x1 - x1 / 12 * 12)]) (L' := LR z2 f2) (b53_9 (mcall (d + 1)) x1 12 _ _) (cmp_ne.trans (decide_eq_true g1)) ?_
          refine rc_b (i' := 46) (ls' := [some (vR 0), some (vI x1), some (vI (0 + 1))]) (st' := [vI 11, vI (x1 - x1 / 12 * 12)]) (L' := LR z2 f2) 1 (b53_10 (mcall (d + 1)) x1 (0 + 1) (x1 - x1 / 12 * 12) _) ?_
          refine rc_if (it := 57) (ie := 47) (ls' := [some (vR 0), some (vI x1), some (vI (0 + 1))]) (st' := []) (b53_11 (mcall (d + 1)) (x1 - x1 / 12 * 12) 11 _ _) (fun q9 => ?_) (fun q9 => ?_)
          · have H := H.1 (cI3t q9 rfl rfl)
            refine rc_b (i' := 58) (ls' := [some (vR 0), some (vI x1), some (vI (0 + 1))]) (st' := [vI (0 + 1)]) (L' := LR z2 f2) 1 (b53_12 (mcall (d + 1)) x1 (0 + 1) _) ?_
            subst H
            exact rc_ret (b53_13 (mcall (d + 1)) _ _ _)
          · have H := H.2 (cI3f q9 rfl rfl)
            refine rc_b (i' := 51) (ls' := [some (vR 0), some (vI x1), some (vI (0 + 1))]) (st' := [vI (x1 + 1), vR 0]) (L' := LR z2 f2) 4 (b53_14 (mcall (d + 1)) x1 (0 + 1) _) ?_
            obtain ⟨r4, z4, f4, hc, H⟩ := H
            refine rc_call (t := 52) (ls' := [some (vR 0), some (vI x1), some (vI (0 + 1))]) (st' := []) (b53_15 (mcall (d + 1)) (x1 + 1) _ z2 f2) hc ?_
            show RC (mcall (d + 1)) (mP 53) 52 [some (vR 0), some (vI x1), some (vI (0 + 1))] [vI r4] (LR z4 f4) res
            refine rc_if (it := 57) (ie := 53) (ls' := [some (vR 0), some (vI x1), some (vI (0 + 1))]) (st' := []) (b53_16 (mcall (d + 1)) r4 _ _) (fun q10 => ?_) (fun q10 => ?_)
            · have H := H.1 (cI0t q10)
              refine rc_b (i' := 58) (ls' := [some (vR 0), some (vI x1), some (vI (0 + 1))]) (st' := [vI (0 + 1)]) (L' := LR z4 f4) 1 (b53_12 (mcall (d + 1)) x1 (0 + 1) _) ?_
              subst H
              exact rc_ret (b53_13 (mcall (d + 1)) _ _ _)
            · have H := H.2 (cI0f q10)
              refine rc_b (i' := 58) (ls' := [some (vR 0), some (vI x1), some (vI ((0 + 1) + 1))]) (st' := [vI ((0 + 1) + 1)]) (L' := LR z4 f4) 5 (b53_17 (mcall (d + 1)) x1 (0 + 1) _) ?_
              subst H
              exact rc_ret (b53_13 (mcall (d + 1)) _ _ _)
    · have H := H.2 (cI3f q2 rfl rfl)
      refine rc_b (i' := 22) (ls' := [some (vR 0), some (vI x1), some (vI 0)]) (st' := [vI (x1 + 12), vR 0]) (L' := LR z f) 4 (b53_22 (mcall (d + 1)) x1 0 _) ?_
      obtain ⟨r5, z5, f5, hc, H⟩ := H
      refine rc_call (t := 23) (ls' := [some (vR 0), some (vI x1), some (vI 0)]) (st' := []) (b53_23 (mcall (d + 1)) (x1 + 12) _ z f) hc ?_
      show RC (mcall (d + 1)) (mP 53) 23 [some (vR 0), some (vI x1), some (vI 0)] [vI r5] (LR z5 f5) res
      refine rc_if (it := 28) (ie := 24) (ls' := [some (vR 0), some (vI x1), some (vI 0)]) (st' := []) (b53_24 (mcall (d + 1)) r5 _ _) (fun q11 => ?_) (fun q11 => ?_)
      · have H := H.1 (cI0t q11)
        refine rc_b (i' := 30) (ls' := [some (vR 0), some (vI x1), some (vI 0)]) (st' := [vI 12, vI x1]) (L' := LR z5 f5) 2 (b53_5 (mcall (d + 1)) x1 0 _) ?_
        obtain ⟨g1, H⟩ := H
        refine rc_g (i' := 31) (ls' := [some (vR 0), some (vI x1), some (vI 0)]) (st' := [vI (x1 - x1 / 12 * 12)]) (L' := LR z5 f5) (b53_6 (mcall (d + 1)) x1 12 _ _) (cmp_ne.trans (decide_eq_true g1)) ?_
        refine rc_if (it := 42) (ie := 32) (ls' := [some (vR 0), some (vI x1), some (vI 0)]) (st' := []) (b53_7 (mcall (d + 1)) (x1 - x1 / 12 * 12) _ _) (fun q12 => ?_) (fun q12 => ?_)
        · have H := H.1 (cI5t q12 rfl rfl)
          refine rc_b (i' := 44) (ls' := [some (vR 0), some (vI x1), some (vI 0)]) (st' := [vI 12, vI x1]) (L' := LR z5 f5) 2 (b53_8 (mcall (d + 1)) x1 0 _) ?_
          obtain ⟨g1, H⟩ := H
          refine rc_g (i' := 45) (ls' := [some (vR 0), some (vI x1), some (vI 0)]) (st' := [vI (x1 - x1 / 12 * 12)]) (L' := LR z5 f5) (b53_9 (mcall (d + 1)) x1 12 _ _) (cmp_ne.trans (decide_eq_true g1)) ?_
          refine rc_b (i' := 46) (ls' := [some (vR 0), some (vI x1), some (vI 0)]) (st' := [vI 11, vI (x1 - x1 / 12 * 12)]) (L' := LR z5 f5) 1 (b53_10 (mcall (d + 1)) x1 0 (x1 - x1 / 12 * 12) _) ?_
          refine rc_if (it := 57) (ie := 47) (ls' := [some (vR 0), some (vI x1), some (vI 0)]) (st' := []) (b53_11 (mcall (d + 1)) (x1 - x1 / 12 * 12) 11 _ _) (fun q13 => ?_) (fun q13 => ?_)
          · have H := H.1 (cI3t q13 rfl rfl)
            refine rc_b (i' := 58) (ls' := [some (vR 0), some (vI x1), some (vI 0)]) (st' := [vI 0]) (L' := LR z5 f5) 1 (b53_12 (mcall (d + 1)) x1 0 _) ?_
            subst H
            exact rc_ret (b53_13 (mcall (d + 1)) _ _ _)
          · have H := H.2 (cI3f q13 rfl rfl)
            refine rc_b (i' := 51) (ls' := [some (vR 0), some (vI x1), some (vI 0)]) (st' := [vI (x1 + 1), vR 0]) (L' := LR z5 f5) 4 (b53_14 (mcall (d + 1)) x1 0 _) ?_
            obtain ⟨r6, z6, f6, hc, H⟩ := H
            refine rc_call (t := 52) (ls' := [some (vR 0), some (vI x1), some (vI 0)]) (st' := []) (b53_15 (mcall (d + 1)) (x1 + 1) _ z5 f5) hc ?_
            show RC (mcall (d + 1)) (mP 53) 52 [some (vR 0), some (vI x1), some (vI 0)] [vI r6] (LR z6 f6) res
            refine rc_if (it := 57) (ie := 53) (ls' := [some (vR 0), some (vI x1), some (vI 0)]) (st' := []) (b53_16 (mcall (d + 1)) r6 _ _) (fun q14 => ?_) (fun q14 => ?_)
            · have H := H.1 (cI0t q14)
              refine rc_b (i' := 58) (ls' := [some (vR 0), some (vI x1), some (vI 0)]) (st' := [vI 0]) (L' := LR z6 f6) 1 (b53_12 (mcall (d + 1)) x1 0 _) ?_
              subst H
              exact rc_ret (b53_13 (mcall (d + 1)) _ _ _)
            · have H := H.2 (cI0f q14)
              refine rc_b (i' := 58) (ls' := [some (vR 0), some (vI x1), some (vI (0 + 1))]) (st' := [vI (0 + 1)]) (L' := LR z6 f6) 5 (b53_17 (mcall (d + 1)) x1 0 _) ?_
              subst H
              exact rc_ret (b53_13 (mcall (d + 1)) _ _ _)
        · have H := H.2 (cI5f q12 rfl rfl)
          refine rc_b (i' := 36) (ls' := [some (vR 0), some (vI x1), some (vI 0)]) (st' := [vI (x1 - 1), vR 0]) (L' := LR z5 f5) 4 (b53_18 (mcall (d + 1)) x1 0 _) ?_
          obtain ⟨r7, z7, f7, hc, H⟩ := H
          refine rc_call (t := 37) (ls' := [some (vR 0), some (vI x1), some (vI 0)]) (st' := []) (b53_19 (mcall (d + 1)) (x1 - 1) _ z5 f5) hc ?_
          show RC (mcall (d + 1)) (mP 53) 37 [some (vR 0), some (vI x1), some (vI 0)] [vI r7] (LR z7 f7) res
          refine rc_if (it := 42) (ie := 38) (ls' := [some (vR 0), some (vI x1), some (vI 0)]) (st' := []) (b53_20 (mcall (d + 1)) r7 _ _) (fun q15 => ?_) (fun q15 => ?_)
          · have H := H.1 (cI0t q15)
            refine rc_b (i' := 44) (ls' := [some (vR 0), some (vI x1), some (vI 0)]) (st' := [vI 12, vI x1]) (L' := LR z7 f7) 2 (b53_8 (mcall (d + 1)) x1 0 _) ?_
            obtain ⟨g1, H⟩ := H
            refine rc_g (i' := 45) (ls' := [some (vR 0), some (vI x1), some (vI 0)]) (st' := [vI (x1 - x1 / 12 * 12)]) (L' := LR z7 f7) (b53_9 (mcall (d + 1)) x1 12 _ _) (cmp_ne.trans (decide_eq_true g1)) ?_
            refine rc_b (i' := 46) (ls' := [some (vR 0), some (vI x1), some (vI 0)]) (st' := [vI 11, vI (x1 - x1 / 12 * 12)]) (L' := LR z7 f7) 1 (b53_10 (mcall (d + 1)) x1 0 (x1 - x1 / 12 * 12) _) ?_
            refine rc_if (it := 57) (ie := 47) (ls' := [some (vR 0), some (vI x1), some (vI 0)]) (st' := []) (b53_11 (mcall (d + 1)) (x1 - x1 / 12 * 12) 11 _ _) (fun q16 => ?_) (fun q16 => ?_)
            · have H := H.1 (cI3t q16 rfl rfl)
              refine rc_b (i' := 58) (ls' := [some (vR 0), some (vI x1), some (vI 0)]) (st' := [vI 0]) (L' := LR z7 f7) 1 (b53_12 (mcall (d + 1)) x1 0 _) ?_
              subst H
              exact rc_ret (b53_13 (mcall (d + 1)) _ _ _)
            · have H := H.2 (cI3f q16 rfl rfl)
              refine rc_b (i' := 51) (ls' := [some (vR 0), some (vI x1), some (vI 0)]) (st' := [vI (x1 + 1), vR 0]) (L' := LR z7 f7) 4 (b53_14 (mcall (d + 1)) x1 0 _) ?_
              obtain ⟨r8, z8, f8, hc, H⟩ := H
              refine rc_call (t := 52) (ls' := [some (vR 0), some (vI x1), some (vI 0)]) (st' := []) (b53_15 (mcall (d + 1)) (x1 + 1) _ z7 f7) hc ?_
              show RC (mcall (d + 1)) (mP 53) 52 [some (vR 0), some (vI x1), some (vI 0)] [vI r8] (LR z8 f8) res
              refine rc_if (it := 57) (ie := 53) (ls' := [some (vR 0), some (vI x1), some (vI 0)]) (st' := []) (b53_16 (mcall (d + 1)) r8 _ _) (fun q17 => ?_) (fun q17 => ?_)
              · have H := H.1 (cI0t q17)
                refine rc_b (i' := 58) (ls' := [some (vR 0), some (vI x1), some (vI 0)]) (st' := [vI 0]) (L' := LR z8 f8) 1 (b53_12 (mcall (d + 1)) x1 0 _) ?_
                subst H
                exact rc_ret (b53_13 (mcall (d + 1)) _ _ _)
              · have H := H.2 (cI0f q17)
                refine rc_b (i' := 58) (ls' := [some (vR 0), some (vI x1), some (vI (0 + 1))]) (st' := [vI (0 + 1)]) (L' := LR z8 f8) 5 (b53_17 (mcall (d + 1)) x1 0 _) ?_
                subst H
                exact rc_ret (b53_13 (mcall (d + 1)) _ _ _)
          · have H := H.2 (cI0f q15)
            refine rc_b (i' := 44) (ls' := [some (vR 0), some (vI x1), some (vI (0 + 1))]) (st' := [vI 12, vI x1]) (L' := LR z7 f7) 6 (b53_21 (mcall (d + 1)) x1 0 _) ?_
            obtain ⟨g1, H⟩ := H
            refine rc_g (i' := 45) (ls' := [some (vR 0), some (vI x1), some (vI (0 + 1))]) (st' := [vI (x1 - x1 / 12 * 12)]) (L' := LR z7 f7) (b53_9 (mcall (d + 1)) x1 12 _ _) (cmp_ne.trans (decide_eq_true g1)) ?_
            refine rc_b (i' := 46) (ls' := [some (vR 0), some (vI x1), some (vI (0 + 1))]) (st' := [vI 11, vI (x1 - x1 / 12 * 12)]) (L' := LR z7 f7) 1 (b53_10 (mcall (d + 1)) x1 (0 + 1) (x1 - x1 / 12 * 12) _) ?_
            refine rc_if (it := 57) (ie := 47) (ls' := [some (vR 0), some (vI x1), some (vI (0 + 1))]) (st' := []) (b53_11 (mcall (d + 1)) (x1 - x1 / 12 * 12) 11 _ _) (fun q18 => ?_) (fun q18 => ?_)
            · have H := H.1 (cI3t q18 rfl rfl)
              refine rc_b (i' := 58) (ls' := [some (vR 0), some (vI x1), some (vI (0 + 1))]) (st' := [vI (0 + 1)]) (L' := LR z7 f7) 1 (b53_12 (mcall (d + 1)) x1 (0 + 1) _) ?_
              subst H
              exact rc_ret (b53_13 (mcall (d + 1)) _ _ _)
            · have H := H.2 (cI3f q18 rfl rfl)
              refine rc_b (i' := 51) (ls' := [some (vR 0), some (vI x1), some (vI (0 + 1))]) (st' := [vI (x1 + 1), vR 0]) (L' := LR z7 f7) 4 (b53_14 (mcall (d + 1)) x1 (0 + 1) _) ?_
              obtain ⟨r9, z9, f9, hc, H⟩ := H
              refine rc_call (t := 52) (ls' := [some (vR 0), some (vI x1), some (vI (0 + 1))]) (st' := []) (b53_15 (mcall (d + 1)) (x1 + 1) _ z7 f7) hc ?_
              show RC (mcall (d + 1)) (mP 53) 52 [some (vR 0), some (vI x1), some (vI (0 + 1))] [vI r9] (LR z9 f9) res
              refine rc_if (it := 57) (ie := 53) (ls' := [some (vR 0), some (vI x1), some (vI (0 + 1))]) (st' := []) (b53_16 (mcall (d + 1)) r9 _ _) (fun q19 => ?_) (fun q19 => ?_)
              · have H := H.1 (cI0t q19)
                refine rc_b (i' := 58) (ls' := [some (vR 0), some (vI x1), some (vI (0 + 1))]) (st' := [vI (0 + 1)]) (L' := LR z9 f9) 1 (b53_12 (mcall (d + 1)) x1 (0 + 1) _) ?_
                subst H
                exact rc_ret (b53_13 (mcall (d + 1)) _ _ _)
              · have H := H.2 (cI0f q19)
                refine rc_b (i' := 58) (ls' := [some (vR 0), some (vI x1), some (vI ((0 + 1) + 1))]) (st' := [vI ((0 + 1) + 1)]) (L' := LR z9 f9) 5 (b53_17 (mcall (d + 1)) x1 (0 + 1) _) ?_
                subst H
                exact rc_ret (b53_13 (mcall (d + 1)) _ _ _)
      · have H := H.2 (cI0f q11)
        refine rc_b (i' := 30) (ls' := [some (vR 0), some (vI x1), some (vI (0 + 1))]) (st' := [vI 12, vI x1]) (L' := LR z5 f5) 6 (b53_25 (mcall (d + 1)) x1 0 _) ?_
        obtain ⟨g1, H⟩ := H
        refine rc_g (i' := 31) (ls' := [some (vR 0), some (vI x1), some (vI (0 + 1))]) (st' := [vI (x1 - x1 / 12 * 12)]) (L' := LR z5 f5) (b53_6 (mcall (d + 1)) x1 12 _ _) (cmp_ne.trans (decide_eq_true g1)) ?_
        refine rc_if (it := 42) (ie := 32) (ls' := [some (vR 0), some (vI x1), some (vI (0 + 1))]) (st' := []) (b53_7 (mcall (d + 1)) (x1 - x1 / 12 * 12) _ _) (fun q20 => ?_) (fun q20 => ?_)
        · have H := H.1 (cI5t q20 rfl rfl)
          refine rc_b (i' := 44) (ls' := [some (vR 0), some (vI x1), some (vI (0 + 1))]) (st' := [vI 12, vI x1]) (L' := LR z5 f5) 2 (b53_8 (mcall (d + 1)) x1 (0 + 1) _) ?_
          obtain ⟨g1, H⟩ := H
          refine rc_g (i' := 45) (ls' := [some (vR 0), some (vI x1), some (vI (0 + 1))]) (st' := [vI (x1 - x1 / 12 * 12)]) (L' := LR z5 f5) (b53_9 (mcall (d + 1)) x1 12 _ _) (cmp_ne.trans (decide_eq_true g1)) ?_
          refine rc_b (i' := 46) (ls' := [some (vR 0), some (vI x1), some (vI (0 + 1))]) (st' := [vI 11, vI (x1 - x1 / 12 * 12)]) (L' := LR z5 f5) 1 (b53_10 (mcall (d + 1)) x1 (0 + 1) (x1 - x1 / 12 * 12) _) ?_
          refine rc_if (it := 57) (ie := 47) (ls' := [some (vR 0), some (vI x1), some (vI (0 + 1))]) (st' := []) (b53_11 (mcall (d + 1)) (x1 - x1 / 12 * 12) 11 _ _) (fun q21 => ?_) (fun q21 => ?_)
          · have H := H.1 (cI3t q21 rfl rfl)
            refine rc_b (i' := 58) (ls' := [some (vR 0), some (vI x1), some (vI (0 + 1))]) (st' := [vI (0 + 1)]) (L' := LR z5 f5) 1 (b53_12 (mcall (d + 1)) x1 (0 + 1) _) ?_
            subst H
            exact rc_ret (b53_13 (mcall (d + 1)) _ _ _)
          · have H := H.2 (cI3f q21 rfl rfl)
            refine rc_b (i' := 51) (ls' := [some (vR 0), some (vI x1), some (vI (0 + 1))]) (st' := [vI (x1 + 1), vR 0]) (L' := LR z5 f5) 4 (b53_14 (mcall (d + 1)) x1 (0 + 1) _) ?_
            obtain ⟨r10, z10, f10, hc, H⟩ := H
            refine rc_call (t := 52) (ls' := [some (vR 0), some (vI x1), some (vI (0 + 1))]) (st' := []) (b53_15 (mcall (d + 1)) (x1 + 1) _ z5 f5) hc ?_
            show RC (mcall (d + 1)) (mP 53) 52 [some (vR 0), some (vI x1), some (vI (0 + 1))] [vI r10] (LR z10 f10) res
            refine rc_if (it := 57) (ie := 53) (ls' := [some (vR 0), some (vI x1), some (vI (0 + 1))]) (st' := []) (b53_16 (mcall (d + 1)) r10 _ _) (fun q22 => ?_) (fun q22 => ?_)
            · have H := H.1 (cI0t q22)
              refine rc_b (i' := 58) (ls' := [some (vR 0), some (vI x1), some (vI (0 + 1))]) (st' := [vI (0 + 1)]) (L' := LR z10 f10) 1 (b53_12 (mcall (d + 1)) x1 (0 + 1) _) ?_
              subst H
              exact rc_ret (b53_13 (mcall (d + 1)) _ _ _)
            · have H := H.2 (cI0f q22)
              refine rc_b (i' := 58) (ls' := [some (vR 0), some (vI x1), some (vI ((0 + 1) + 1))]) (st' := [vI ((0 + 1) + 1)]) (L' := LR z10 f10) 5 (b53_17 (mcall (d + 1)) x1 (0 + 1) _) ?_
              subst H
              exact rc_ret (b53_13 (mcall (d + 1)) _ _ _)
        · have H := H.2 (cI5f q20 rfl rfl)
          refine rc_b (i' := 36) (ls' := [some (vR 0), some (vI x1), some (vI (0 + 1))]) (st' := [vI (x1 - 1), vR 0]) (L' := LR z5 f5) 4 (b53_18 (mcall (d + 1)) x1 (0 + 1) _) ?_
          obtain ⟨r11, z11, f11, hc, H⟩ := H
          refine rc_call (t := 37) (ls' := [some (vR 0), some (vI x1), some (vI (0 + 1))]) (st' := []) (b53_19 (mcall (d + 1)) (x1 - 1) _ z5 f5) hc ?_
          show RC (mcall (d + 1)) (mP 53) 37 [some (vR 0), some (vI x1), some (vI (0 + 1))] [vI r11] (LR z11 f11) res
          refine rc_if (it := 42) (ie := 38) (ls' := [some (vR 0), some (vI x1), some (vI (0 + 1))]) (st' := []) (b53_20 (mcall (d + 1)) r11 _ _) (fun q23 => ?_) (fun q23 => ?_)
          · have H := H.1 (cI0t q23)
            refine rc_b (i' := 44) (ls' := [some (vR 0), some (vI x1), some (vI (0 + 1))]) (st' := [vI 12, vI x1]) (L' := LR z11 f11) 2 (b53_8 (mcall (d + 1)) x1 (0 + 1) _) ?_
            obtain ⟨g1, H⟩ := H
            refine rc_g (i' := 45) (ls' := [some (vR 0), some (vI x1), some (vI (0 + 1))]) (st' := [vI (x1 - x1 / 12 * 12)]) (L' := LR z11 f11) (b53_9 (mcall (d + 1)) x1 12 _ _) (cmp_ne.trans (decide_eq_true g1)) ?_
            refine rc_b (i' := 46) (ls' := [some (vR 0), some (vI x1), some (vI (0 + 1))]) (st' := [vI 11, vI (x1 - x1 / 12 * 12)]) (L' := LR z11 f11) 1 (b53_10 (mcall (d + 1)) x1 (0 + 1) (x1 - x1 / 12 * 12) _) ?_
            refine rc_if (it := 57) (ie := 47) (ls' := [some (vR 0), some (vI x1), some (vI (0 + 1))]) (st' := []) (b53_11 (mcall (d + 1)) (x1 - x1 / 12 * 12) 11 _ _) (fun q24 => ?_) (fun q24 => ?_)
            · have H := H.1 (cI3t q24 rfl rfl)
              refine rc_b (i' := 58) (ls' := [some (vR 0), some (vI x1), some (vI (0 + 1))]) (st' := [vI (0 + 1)]) (L' := LR z11 f11) 1 (b53_12 (mcall (d + 1)) x1 (0 + 1) _) ?_
              subst H
              exact rc_ret (b53_13 (mcall (d + 1)) _ _ _)
            · have H := H.2 (cI3f q24 rfl rfl)
              refine rc_b (i' := 51) (ls' := [some (vR 0), some (vI x1), some (vI (0 + 1))]) (st' := [vI (x1 + 1), vR 0]) (L' := LR z11 f11) 4 (b53_14 (mcall (d + 1)) x1 (0 + 1) _) ?_
              obtain ⟨r12, z12, f12, hc, H⟩ := H
              refine rc_call (t := 52) (ls' := [some (vR 0), some (vI x1), some (vI (0 + 1))]) (st' := []) (b53_15 (mcall (d + 1)) (x1 + 1) _ z11 f11) hc ?_
              show RC (mcall (d + 1)) (mP 53) 52 [some (vR 0), some (vI x1), some (vI (0 + 1))] [vI r12] (LR z12 f12) res
              refine rc_if (it := 57) (ie := 53) (ls' := [some (vR 0), some (vI x1), some (vI (0 + 1))]) (st' := []) (b53_16 (mcall (d + 1)) r12 _ _) (fun q25 => ?_) (fun q25 => ?_)
              · have H := H.1 (cI0t q25)
                refine rc_b (i' := 58) (ls' := [some (vR 0), some (vI x1), some (vI (0 + 1))]) (st' := [vI (0 + 1)]) (L' := LR z12 f12) 1 (b53_12 (mcall (d + 1)) x1 (0 + 1) _) ?_
                subst H
                exact rc_ret (b53_13 (mcall (d + 1)) _ _ _)
              · have H := H.2 (cI0f q25)
                refine rc_b (i' := 58) (ls' := [some (vR 0), some (vI x1), some (vI ((0 + 1) + 1))]) (st' := [vI ((0 + 1) + 1)]) (L' := LR z12 f12) 5 (b53_17 (mcall (d + 1)) x1 (0 + 1) _) ?_
                subst H
                exact rc_ret (b53_13 (mcall (d + 1)) _ _ _)
          · have H := H.2 (cI0f q23)
            refine rc_b (i' := 44) (ls' := [some (vR 0), some (vI x1), some (vI ((0 + 1) + 1))]) (st' := [vI 12, vI x1]) (L' := LR z11 f11) 6 (b53_21 (mcall (d + 1)) x1 (0 + 1) _) ?_
            obtain ⟨g1, H⟩ := H
            refine rc_g (i' := 45) (ls' := [some (vR 0), some (vI x1), some (vI ((0 + 1) + 1))]) (st' := [vI (x1 - x1 / 12 * 12)]) (L' := LR z11 f11) (b53_9 (mcall (d + 1)) x1 12 _ _) (cmp_ne.trans (decide_eq_true g1)) ?_
            refine rc_b (i' := 46) (ls' := [some (vR 0), some (vI x1), some (vI ((0 + 1) + 1))]) (st' := [vI 11, vI (x1 - x1 / 12 * 12)]) (L' := LR z11 f11) 1 (b53_10 (mcall (d + 1)) x1 ((0 + 1) + 1) (x1 - x1 / 12 * 12) _) ?_
            refine rc_if (it := 57) (ie := 47) (ls' := [some (vR 0), some (vI x1), some (vI ((0 + 1) + 1))]) (st' := []) (b53_11 (mcall (d + 1)) (x1 - x1 / 12 * 12) 11 _ _) (fun q26 => ?_) (fun q26 => ?_)
            · have H := H.1 (cI3t q26 rfl rfl)
              refine rc_b (i' := 58) (ls' := [some (vR 0), some (vI x1), some (vI ((0 + 1) + 1))]) (st' := [vI ((0 + 1) + 1)]) (L' := LR z11 f11) 1 (b53_12 (mcall (d + 1)) x1 ((0 + 1) + 1) _) ?_
              subst H
              exact rc_ret (b53_13 (mcall (d + 1)) _ _ _)
            · have H := H.2 (cI3f q26 rfl rfl)
              refine rc_b (i' := 51) (ls' := [some (vR 0), some (vI x1), some (vI ((0 + 1) + 1))]) (st' := [vI (x1 + 1), vR 0]) (L' := LR z11 f11) 4 (b53_14 (mcall (d + 1)) x1 ((0 + 1) + 1) _) ?_
              obtain ⟨r13, z13, f13, hc, H⟩ := H
              refine rc_call (t := 52) (ls' := [some (vR 0), some (vI x1), some (vI ((0 + 1) + 1))]) (st' := []) (b53_15 (mcall (d + 1)) (x1 + 1) _ z11 f11) hc ?_
              show RC (mcall (d + 1)) (mP 53) 52 [some (vR 0), some (vI x1), some (vI ((0 + 1) + 1))] [vI r13] (LR z13 f13) res
              refine rc_if (it := 57) (ie := 53) (ls' := [some (vR 0), some (vI x1), some (vI ((0 + 1) + 1))]) (st' := []) (b53_16 (mcall (d + 1)) r13 _ _) (fun q27 => ?_) (fun q27 => ?_)
              · have H := H.1 (cI0t q27)
                refine rc_b (i' := 58) (ls' := [some (vR 0), some (vI x1), some (vI ((0 + 1) + 1))]) (st' := [vI ((0 + 1) + 1)]) (L' := LR z13 f13) 1 (b53_12 (mcall (d + 1)) x1 ((0 + 1) + 1) _) ?_
                subst H
                exact rc_ret (b53_13 (mcall (d + 1)) _ _ _)
              · have H := H.2 (cI0f q27)
                refine rc_b (i' := 58) (ls' := [some (vR 0), some (vI x1), some (vI (((0 + 1) + 1) + 1))]) (st' := [vI (((0 + 1) + 1) + 1)]) (L' := LR z13 f13) 5 (b53_17 (mcall (d + 1)) x1 ((0 + 1) + 1) _) ?_
                subst H
                exact rc_ret (b53_13 (mcall (d + 1)) _ _ _)
  · have H := H.2 (cI2f q1 rfl rfl)
    refine rc_b (i' := 9) (ls' := [some (vR 0), some (vI x1), some (vI 0)]) (st' := [vI (x1 - 12), vR 0]) (L' := LR z f) 4 (b53_26 (mcall (d + 1)) x1 0 _) ?_
    obtain ⟨r14, z14, f14, hc, H⟩ := H
    refine rc_call (t := 10) (ls' := [some (vR 0), some (vI x1), some (vI 0)]) (st' := []) (b53_27 (mcall (d + 1)) (x1 - 12) _ z f) hc ?_
    show RC (mcall (d + 1)) (mP 53) 10 [some (vR 0), some (vI x1), some (vI 0)] [vI r14] (LR z14 f14) res
    refine rc_if (it := 15) (ie := 11) (ls' := [some (vR 0), some (vI x1), some (vI 0)]) (st' := []) (b53_28 (mcall (d + 1)) r14 _ _) (fun q28 => ?_) (fun q28 => ?_)
    · have H := H.1 (cI0t q28)
      refine rc_b (i' := 17) (ls' := [some (vR 0), some (vI x1), some (vI 0)]) (st' := [vI 132, vI x1]) (L' := LR z14 f14) 2 (b53_3 (mcall (d + 1)) x1 0 _) ?_
      refine rc_if (it := 28) (ie := 18) (ls' := [some (vR 0), some (vI x1), some (vI 0)]) (st' := []) (b53_4 (mcall (d + 1)) x1 132 _ _) (fun q29 => ?_) (fun q29 => ?_)
      · have H := H.1 (cI3t q29 rfl rfl)
        refine rc_b (i' := 30) (ls' := [some (vR 0), some (vI x1), some (vI 0)]) (st' := [vI 12, vI x1]) (L' := LR z14 f14) 2 (b53_5 (mcall (d + 1)) x1 0 _) ?_
        obtain ⟨g1, H⟩ := H
        refine rc_g (i' := 31) (ls' := [some (vR 0), some (vI x1), some (vI 0)]) (st' := [vI (x1 - x1 / 12 * 12)]) (L' := LR z14 f14) (b53_6 (mcall (d + 1)) x1 12 _ _) (cmp_ne.trans (decide_eq_true g1)) ?_
        refine rc_if (it := 42) (ie := 32) (ls' := [some (vR 0), some (vI x1), some (vI 0)]) (st' := []) (b53_7 (mcall (d + 1)) (x1 - x1 / 12 * 12) _ _) (fun q30 => ?_) (fun q30 => ?_)
        · have H := H.1 (cI5t q30 rfl rfl)
          refine rc_b (i' := 44) (ls' := [some (vR 0), some (vI x1), some (vI 0)]) (st' := [vI 12, vI x1]) (L' := LR z14 f14) 2 (b53_8 (mcall (d + 1)) x1 0 _) ?_
          obtain ⟨g1, H⟩ := H
          refine rc_g (i' := 45) (ls' := [some (vR 0), some (vI x1), some (vI 0)]) (st' := [vI (x1 - x1 / 12 * 12)]) (L' := LR z14 f14) (b53_9 (mcall (d + 1)) x1 12 _ _) (cmp_ne.trans (decide_eq_true g1)) ?_
          refine rc_b (i' := 46) (ls' := [some (vR 0), some (vI x1), some (vI 0)]) (st' := [vI 11, vI (x1 - x1 / 12 * 12)]) (L' := LR z14 f14) 1 (b53_10 (mcall (d + 1)) x1 0 (x1 - x1 / 12 * 12) _) ?_
          refine rc_if (it := 57) (ie := 47) (ls' := [some (vR 0), some (vI x1), some (vI 0)]) (st' := []) (b53_11 (mcall (d + 1)) (x1 - x1 / 12 * 12) 11 _ _) (fun q31 => ?_) (fun q31 => ?_)
          · have H := H.1 (cI3t q31 rfl rfl)
            refine rc_b (i' := 58) (ls' := [some (vR 0), some (vI x1), some (vI 0)]) (st' := [vI 0]) (L' := LR z14 f14) 1 (b53_12 (mcall (d + 1)) x1 0 _) ?_
            subst H
            exact rc_ret (b53_13 (mcall (d + 1)) _ _ _)
          · have H := H.2 (cI3f q31 rfl rfl)
            refine rc_b (i' := 51) (ls' := [some (vR 0), some (vI x1), some (vI 0)]) (st' := [vI (x1 + 1), vR 0]) (L' := LR z14 f14) 4 (b53_14 (mcall (d + 1)) x1 0 _) ?_
            obtain ⟨r15, z15, f15, hc, H⟩ := H
            refine rc_call (t := 52) (ls' := [some (vR 0), some (vI x1), some (vI 0)]) (st' := []) (b53_15 (mcall (d + 1)) (x1 + 1) _ z14 f14) hc ?_
            show RC (mcall (d + 1)) (mP 53) 52 [some (vR 0), some (vI x1), some (vI 0)] [vI r15] (LR z15 f15) res
            refine rc_if (it := 57) (ie := 53) (ls' := [some (vR 0), some (vI x1), some (vI 0)]) (st' := []) (b53_16 (mcall (d + 1)) r15 _ _) (fun q32 => ?_) (fun q32 => ?_)
            · have H := H.1 (cI0t q32)
              refine rc_b (i' := 58) (ls' := [some (vR 0), some (vI x1), some (vI 0)]) (st' := [vI 0]) (L' := LR z15 f15) 1 (b53_12 (mcall (d + 1)) x1 0 _) ?_
              subst H
              exact rc_ret (b53_13 (mcall (d + 1)) _ _ _)
            · have H := H.2 (cI0f q32)
              refine rc_b (i' := 58) (ls' := [some (vR 0), some (vI x1), some (vI (0 + 1))]) (st' := [vI (0 + 1)]) (L' := LR z15 f15) 5 (b53_17 (mcall (d + 1)) x1 0 _) ?_
              subst H
              exact rc_ret (b53_13 (mcall (d + 1)) _ _ _)
        · have H := H.2 (cI5f q30 rfl rfl)
          refine rc_b (i' := 36) (ls' := [some (vR 0), some (vI x1), some (vI 0)]) (st' := [vI (x1 - 1), vR 0]) (L' := LR z14 f14) 4 (b53_18 (mcall (d + 1)) x1 0 _) ?_
          obtain ⟨r16, z16, f16, hc, H⟩ := H
          refine rc_call (t := 37) (ls' := [some (vR 0), some (vI x1), some (vI 0)]) (st' := []) (b53_19 (mcall (d + 1)) (x1 - 1) _ z14 f14) hc ?_
          show RC (mcall (d + 1)) (mP 53) 37 [some (vR 0), some (vI x1), some (vI 0)] [vI r16] (LR z16 f16) res
          refine rc_if (it := 42) (ie := 38) (ls' := [some (vR 0), some (vI x1), some (vI 0)]) (st' := []) (b53_20 (mcall (d + 1)) r16 _ _) (fun q33 => ?_) (fun q33 => ?_)
          · have H := H.1 (cI0t q33)
            refine rc_b (i' := 44) (ls' := [some (vR 0), some (vI x1), some (vI 0)]) (st' := [vI 12, vI x1]) (L' := LR z16 f16) 2 (b53_8 (mcall (d + 1)) x1 0 _) ?_
            obtain ⟨g1, H⟩ := H
            refine rc_g (i' := 45) (ls' := [some (vR 0), some (vI x1), some (vI 0)]) (st' := [vI (x1 - x1 / 12 * 12)]) (L' := LR z16 f16) (b53_9 (mcall (d + 1)) x1 12 _ _) (cmp_ne.trans (decide_eq_true g1)) ?_
            refine rc_b (i' := 46) (ls' := [some (vR 0), some (vI x1), some (vI 0)]) (st' := [vI 11, vI (x1 - x1 / 12 * 12)]) (L' := LR z16 f16) 1 (b53_10 (mcall (d + 1)) x1 0 (x1 - x1 / 12 * 12) _) ?_
            refine rc_if (it := 57) (ie := 47) (ls' := [some (vR 0), some (vI x1), some (vI 0)]) (st' := []) (b53_11 (mcall (d + 1)) (x1 - x1 / 12 * 12) 11 _ _) (fun q34 => ?_) (fun q34 => ?_)
            · have H := H.1 (cI3t q34 rfl rfl)
              refine rc_b (i' := 58) (ls' := [some (vR 0), some (vI x1), some (vI 0)]) (st' := [vI 0]) (L' := LR z16 f16) 1 (b53_12 (mcall (d + 1)) x1 0 _) ?_
              subst H
              exact rc_ret (b53_13 (mcall (d + 1)) _ _ _)
            · have H := H.2 (cI3f q34 rfl rfl)
              refine rc_b (i' := 51) (ls' := [some (vR 0), some (vI x1), some (vI 0)]) (st' := [vI (x1 + 1), vR 0]) (L' := LR z16 f16) 4 (b53_14 (mcall (d + 1)) x1 0 _) ?_
              obtain ⟨r17, z17, f17, hc, H⟩ := H
              refine rc_call (t := 52) (ls' := [some (vR 0), some (vI x1), some (vI 0)]) (st' := []) (b53_15 (mcall (d + 1)) (x1 + 1) _ z16 f16) hc ?_
              show RC (mcall (d + 1)) (mP 53) 52 [some (vR 0), some (vI x1), some (vI 0)] [vI r17] (LR z17 f17) res
              refine rc_if (it := 57) (ie := 53) (ls' := [some (vR 0), some (vI x1), some (vI 0)]) (st' := []) (b53_16 (mcall (d + 1)) r17 _ _) (fun q35 => ?_) (fun q35 => ?_)
              · have H := H.1 (cI0t q35)
                refine rc_b (i' := 58) (ls' := [some (vR 0), some (vI x1), some (vI 0)]) (st' := [vI 0]) (L' := LR z17 f17) 1 (b53_12 (mcall (d + 1)) x1 0 _) ?_
                subst H
                exact rc_ret (b53_13 (mcall (d + 1)) _ _ _)
              · have H := H.2 (cI0f q35)
                refine rc_b (i' := 58) (ls' := [some (vR 0), some (vI x1), some (vI (0 + 1))]) (st' := [vI (0 + 1)]) (L' := LR z17 f17) 5 (b53_17 (mcall (d + 1)) x1 0 _) ?_
                subst H
                exact rc_ret (b53_13 (mcall (d + 1)) _ _ _)
          · have H := H.2 (cI0f q33)
            refine rc_b (i' := 44) (ls' := [some (vR 0), some (vI x1), some (vI (0 + 1))]) (st' := [vI 12, vI x1]) (L' := LR z16 f16) 6 (b53_21 (mcall (d + 1)) x1 0 _) ?_
            obtain ⟨g1, H⟩ := H
            refine rc_g (i' := 45) (ls' := [some (vR 0), some (vI x1), some (vI (0 + 1))]) (st' := [vI (x1 - x1 / 12 * 12)]) (L' := LR z16 f16) (b53_9 (mcall (d + 1)) x1 12 _ _) (cmp_ne.trans (decide_eq_true g1)) ?_
            refine rc_b (i' := 46) (ls' := [some (vR 0), some (vI x1), some (vI (0 + 1))]) (st' := [vI 11, vI (x1 - x1 / 12 * 12)]) (L' := LR z16 f16) 1 (b53_10 (mcall (d + 1)) x1 (0 + 1) (x1 - x1 / 12 * 12) _) ?_
            refine rc_if (it := 57) (ie := 47) (ls' := [some (vR 0), some (vI x1), some (vI (0 + 1))]) (st' := []) (b53_11 (mcall (d + 1)) (x1 - x1 / 12 * 12) 11 _ _) (fun q36 => ?_) (fun q36 => ?_)
            · have H := H.1 (cI3t q36 rfl rfl)
              refine rc_b (i' := 58) (ls' := [some (vR 0), some (vI x1), some (vI (0 + 1))]) (st' := [vI (0 + 1)]) (L' := LR z16 f16) 1 (b53_12 (mcall (d + 1)) x1 (0 + 1) _) ?_
              subst H
              exact rc_ret (b53_13 (mcall (d + 1)) _ _ _)
            · have H := H.2 (cI3f q36 rfl rfl)
              refine rc_b (i' := 51) (ls' := [some (vR 0), some (vI x1), some (vI (0 + 1))]) (st' := [vI (x1 + 1), vR 0]) (L' := LR z16 f16) 4 (b53_14 (mcall (d + 1)) x1 (0 + 1) _) ?_
              obtain ⟨r18, z18, f18, hc, H⟩ := H
              refine rc_call (t := 52) (ls' := [some (vR 0), some (vI x1), some (vI (0 + 1))]) (st' := []) (b53_15 (mcall (d + 1)) (x1 + 1) _ z16 f16) hc ?_
              show RC (mcall (d + 1)) (mP 53) 52 [some (vR 0), some (vI x1), some (vI (0 + 1))] [vI r18] (LR z18 f18) res
              refine rc_if (it := 57) (ie := 53) (ls' := [some (vR 0), some (vI x1), some (vI (0 + 1))]) (st' := []) (b53_16 (mcall (d + 1)) r18 _ _) (fun q37 => ?_) (fun q37 => ?_)
              · have H := H.1 (cI0t q37)
                refine rc_b (i' := 58) (ls' := [some (vR 0), some (vI x1), some (vI (0 + 1))]) (st' := [vI (0 + 1)]) (L' := LR z18 f18) 1 (b53_12 (mcall (d + 1)) x1 (0 + 1) _) ?_
                subst H
                exact rc_ret (b53_13 (mcall (d + 1)) _ _ _)
              · have H := H.2 (cI0f q37)
                refine rc_b (i' := 58) (ls' := [some (vR 0), some (vI x1), some (vI ((0 + 1) + 1))]) (st' := [vI ((0 + 1) + 1)]) (L' := LR z18 f18) 5 (b53_17 (mcall (d + 1)) x1 (0 + 1) _) ?_
                subst H
                exact rc_ret (b53_13 (mcall (d + 1)) _ _ _)
      · have H := H.2 (cI3f q29 rfl rfl)
        refine rc_b (i' := 22) (ls' := [some (vR 0), some (vI x1), some (vI 0)]) (st' := [vI (x1 + 12), vR 0]) (L' := LR z14 f14) 4 (b53_22 (mcall (d + 1)) x1 0 _) ?_
        obtain ⟨r19, z19, f19, hc, H⟩ := H
        refine rc_call (t := 23) (ls' := [some (vR 0), some (vI x1), some (vI 0)]) (st' := []) (b53_23 (mcall (d + 1)) (x1 + 12) _ z14 f14) hc ?_
        show RC (mcall (d + 1)) (mP 53) 23 [some (vR 0), some (vI x1), some (vI 0)] [vI r19] (LR z19 f19) res
        refine rc_if (it := 28) (ie := 24) (ls' := [some (vR 0), some (vI x1), some (vI 0)]) (st' := []) (b53_24 (mcall (d + 1)) r19 _ _) (fun q38 => ?_) (fun q38 => ?_)
        · have H := H.1 (cI0t q38)
          refine rc_b (i' := 30) (ls' := [some (vR 0), some (vI x1), some (vI 0)]) (st' := [vI 12, vI x1]) (L' := LR z19 f19) 2 (b53_5 (mcall (d + 1)) x1 0 _) ?_
          obtain ⟨g1, H⟩ := H
          refine rc_g (i' := 31) (ls' := [some (vR 0), some (vI x1), some (vI 0)]) (st' := [vI (x1 - x1 / 12 * 12)]) (L' := LR z19 f19) (b53_6 (mcall (d + 1)) x1 12 _ _) (cmp_ne.trans (decide_eq_true g1)) ?_
          refine rc_if (it := 42) (ie := 32) (ls' := [some (vR 0), some (vI x1), some (vI 0)]) (st' := []) (b53_7 (mcall (d + 1)) (x1 - x1 / 12 * 12) _ _) (fun q39 => ?_) (fun q39 => ?_)
          · have H := H.1 (cI5t q39 rfl rfl)
            refine rc_b (i' := 44) (ls' := [some (vR 0), some (vI x1), some (vI 0)]) (st' := [vI 12, vI x1]) (L' := LR z19 f19) 2 (b53_8 (mcall (d + 1)) x1 0 _) ?_
            obtain ⟨g1, H⟩ := H
            refine rc_g (i' := 45) (ls' := [some (vR 0), some (vI x1), some (vI 0)]) (st' := [vI (x1 - x1 / 12 * 12)]) (L' := LR z19 f19) (b53_9 (mcall (d + 1)) x1 12 _ _) (cmp_ne.trans (decide_eq_true g1)) ?_
            refine rc_b (i' := 46) (ls' := [some (vR 0), some (vI x1), some (vI 0)]) (st' := [vI 11, vI (x1 - x1 / 12 * 12)]) (L' := LR z19 f19) 1 (b53_10 (mcall (d + 1)) x1 0 (x1 - x1 / 12 * 12) _) ?_
            refine rc_if (it := 57) (ie := 47) (ls' := [some (vR 0), some (vI x1), some (vI 0)]) (st' := []) (b53_11 (mcall (d + 1)) (x1 - x1 / 12 * 12) 11 _ _) (fun q40 => ?_) (fun q40 => ?_)
            · have H := H.1 (cI3t q40 rfl rfl)
              refine rc_b (i' := 58) (ls' := [some (vR 0), some (vI x1), some (vI 0)]) (st' := [vI 0]) (L' := LR z19 f19) 1 (b53_12 (mcall (d + 1)) x1 0 _) ?_
              subst H
              exact rc_ret (b53_13 (mcall (d + 1)) _ _ _)
            · have H := H.2 (cI3f q40 rfl rfl)
              refine rc_b (i' := 51) (ls' := [some (vR 0), some (vI x1), some (vI 0)]) (st' := [vI (x1 + 1), vR 0]) (L' := LR z19 f19) 4 (b53_14 (mcall (d + 1)) x1 0 _) ?_
              obtain ⟨r20, z20, f20, hc, H⟩ := H
              refine rc_call (t := 52) (ls' := [some (vR 0), some (vI x1), some (vI 0)]) (st' := []) (b53_15 (mcall (d + 1)) (x1 + 1) _ z19 f19) hc ?_
              show RC (mcall (d + 1)) (mP 53) 52 [some (vR 0), some (vI x1), some (vI 0)] [vI r20] (LR z20 f20) res
              refine rc_if (it := 57) (ie := 53) (ls' := [some (vR 0), some (vI x1), some (vI 0)]) (st' := []) (b53_16 (mcall (d + 1)) r20 _ _) (fun q41 => ?_) (fun q41 => ?_)
              · have H := H.1 (cI0t q41)
                refine rc_b (i' := 58) (ls' := [some (vR 0), some (vI x1), some (vI 0)]) (st' := [vI 0]) (L' := LR z20 f20) 1 (b53_12 (mcall (d + 1)) x1 0 _) ?_
                subst H
                exact rc_ret (b53_13 (mcall (d + 1)) _ _ _)
              · have H := H.2 (cI0f q41)
                refine rc_b (i' := 58) (ls' := [some (vR 0), some (vI x1), some (vI (0 + 1))]) (st' := [vI (0 + 1)]) (L' := LR z20 f20) 5 (b53_17 (mcall (d + 1)) x1 0 _) ?_
                subst H
                exact rc_ret (b53_13 (mcall (d + 1)) _ _ _)
          · have H := H.2 (cI5f q39 rfl rfl)
            refine rc_b (i' := 36) (ls' := [some (vR 0), some (vI x1), some (vI 0)]) (st' := [vI (x1 - 1), vR 0]) (L' := LR z19 f19) 4 (b53_18 (mcall (d + 1)) x1 0 _) ?_
            obtain ⟨r21, z21, f21, hc, H⟩ := H
            refine rc_call (t := 37) (ls' := [some (vR 0), some (vI x1), some (vI 0)]) (st' := []) (b53_19 (mcall (d + 1)) (x1 - 1) _ z19 f19) hc ?_
            show RC (mcall (d + 1)) (mP 53) 37 [some (vR 0), some (vI x1), some (vI 0)] [vI r21] (LR z21 f21) res
            refine rc_if (it := 42) (ie := 38) (ls' := [some (vR 0), some (vI x1), some (vI 0)]) (st' := []) (b53_20 (mcall (d + 1)) r21 _ _) (fun q42 => ?_) (fun q42 => ?_)
            · have H := H.1 (cI0t q42)
              refine rc_b (i' := 44) (ls' := [some (vR 0), some (vI x1), some (vI 0)]) (st' := [vI 12, vI x1]) (L' := LR z21 f21) 2 (b53_8 (mcall (d + 1)) x1 0 _) ?_
              obtain ⟨g1, H⟩ := H
              refine rc_g (i' := 45) (ls' := [some (vR 0), some (vI x1), some (vI 0)]) (st' := [vI (x1 - x1 / 12 * 12)]) (L' := LR z21 f21) (b53_9 (mcall (d + 1)) x1 12 _ _) (cmp_ne.trans (decide_eq_true g1)) ?_
              refine rc_b (i' := 46) (ls' := [some (vR 0), some (vI x1), some (vI 0)]) (st' := [vI 11, vI (x1 - x1 / 12 * 12)]) (L' := LR z21 f21) 1 (b53_10 (mcall (d + 1)) x1 0 (x1 - x1 / 12 * 12) _) ?_
              refine rc_if (it := 57) (ie := 47) (ls' := [some (vR 0), some (vI x1), some (vI 0)]) (st' := []) (b53_11 (mcall (d + 1)) (x1 - x1 / 12 * 12) 11 _ _) (fun q43 => ?_) (fun q43 => ?_)
              · have H := H.1 (cI3t q43 rfl rfl)
                refine rc_b (i' := 58) (ls' := [some (vR 0), some (vI x1), some (vI 0)]) (st' := [vI 0]) (L' := LR z21 f21) 1 (b53_12 (mcall (d + 1)) x1 0 _) ?_
                subst H
                exact rc_ret (b53_13 (mcall (d + 1)) _ _ _)
              · have H := H.2 (cI3f q43 rfl rfl)
                refine rc_b (i' := 51) (ls' := [some (vR 0), some (vI x1), some (vI 0)]) (st' := [vI (x1 + 1), vR 0]) (L' := LR z21 f21) 4 (b53_14 (mcall (d + 1)) x1 0 _) ?_
                obtain ⟨r22, z22, f22, hc, H⟩ := H
                refine rc_call (t := 52) (ls' := [some (vR 0), some (vI x1), some (vI 0)]) (st' := []) (b53_15 (mcall (d + 1)) (x1 + 1) _ z21 f21) hc ?_
                show RC (mcall (d + 1)) (mP 53) 52 [some (vR 0), some (vI x1), some (vI 0)] [vI r22] (LR z22 f22) res
                refine rc_if (it := 57) (ie := 53) (ls' := [some (vR 0), some (vI x1), some (vI 0)]) (st' := []) (b53_16 (mcall (d + 1)) r22 _ _) (fun q44 => ?_) (fun q44 => ?_)
                · have H := H.1 (cI0t q44)
                  refine rc_b (i' := 58) (ls' := [some (vR 0), some (vI x1), some (vI 0)]) (st' := [vI 0]) (L' := LR z22 f22) 1 (b53_12 (mcall (d + 1)) x1 0 _) ?_
                  subst H
                  exact rc_ret (b53_13 (mcall (d + 1)) _ _ _)
                · have H := H.2 (cI0f q44)
                  refine rc_b (i' := 58) (ls' := [some (vR 0), some (vI x1), some (vI (0 + 1))]) (st' := [vI (0 + 1)]) (L' := LR z22 f22) 5 (b53_17 (mcall (d + 1)) x1 0 _) ?_
                  subst H
                  exact rc_ret (b53_13 (mcall (d + 1)) _ _ _)
            · have H := H.2 (cI0f q42)
              refine rc_b (i' := 44) (ls' := [some (vR 0), some (vI x1), some (vI (0 + 1))]) (st' := [vI 12, vI x1]) (L' := LR z21 f21) 6 (b53_21 (mcall (d + 1)) x1 0 _) ?_
              obtain ⟨g1, H⟩ := H
              refine rc_g (i' := 45) (ls' := [some (vR 0), some (vI x1), some (vI (0 + 1))]) (st' := [vI (x1 - x1 / 12 * 12)]) (L' := LR z21 f21) (b53_9 (mcall (d + 1)) x1 12 _ _) (cmp_ne.trans (decide_eq_true g1)) ?_
              refine rc_b (i' := 46) (ls' := [some (vR 0), some (vI x1), some (vI (0 + 1))]) (st' := [vI 11, vI (x1 - x1 / 12 * 12)]) (L' := LR z21 f21) 1 (b53_10 (mcall (d + 1)) x1 (0 + 1) (x1 - x1 / 12 * 12) _) ?_
              refine rc_if (it := 57) (ie := 47) (ls' := [some (vR 0), some (vI x1), some (vI (0 + 1))]) (st' := []) (b53_11 (mcall (d + 1)) (x1 - x1 / 12 * 12) 11 _ _) (fun q45 => ?_) (fun q45 => ?_)
              · have H := H.1 (cI3t q45 rfl rfl)
                refine rc_b (i' := 58) (ls' := [some (vR 0), some (vI x1), some (vI (0 + 1))]) (st' := [vI (0 + 1)]) (L' := LR z21 f21) 1 (b53_12 (mcall (d + 1)) x1 (0 + 1) _) ?_
                subst H
                exact rc_ret (b53_13 (mcall (d + 1)) _ _ _)
              · have H := H.2 (cI3f q45 rfl rfl)
                refine rc_b (i' := 51) (ls' := [some (vR 0), some (vI x1), some (vI (0 + 1))]) (st' := [vI (x1 + 1), vR 0]) (L' := LR z21 f21) 4 (b53_14 (mcall (d + 1)) x1 (0 + 1) _) ?_
                obtain ⟨r23, z23, f23, hc, H⟩ := H
                refine rc_call (t := 52) (ls' := [some (vR 0), some (vI x1), some (vI (0 + 1))]) (st' := []) (b53_15 (mcall (d + 1)) (x1 + 1) _ z21 f21) hc ?_
                show RC (mcall (d + 1)) (mP 53) 52 [some (vR 0), some (vI x1), some (vI (0 + 1))] [vI r23] (LR z23 f23) res
                refine rc_if (it := 57) (ie := 53) (ls' := [some (vR 0), some (vI x1), some (vI (0 + 1))]) (st' := []) (b53_16 (mcall (d + 1)) r23 _ _) (fun q46 => ?_) (fun q46 => ?_)
                · have H := H.1 (cI0t q46)
                  refine rc_b (i' := 58) (ls' := [some (vR 0), some (vI x1), some (vI (0 + 1))]) (st' := [vI (0 + 1)]) (L' := LR z23 f23) 1 (b53_12 (mcall (d + 1)) x1 (0 + 1) _) ?_
                  subst H
                  exact rc_ret (b53_13 (mcall (d + 1)) _ _ _)
                · have H := H.2 (cI0f q46)
                  refine rc_b (i' := 58) (ls' := [some (vR 0), some (vI x1), some (vI ((0 + 1) + 1))]) (st' := [vI ((0 + 1) + 1)]) (L' := LR z23 f23) 5 (b53_17 (mcall (d + 1)) x1 (0 + 1) _) ?_
                  subst H
                  exact rc_ret (b53_13 (mcall (d + 1)) _ _ _)
        · have H := H.2 (cI0f q38)
          refine rc_b (i' := 30) (ls' := [some (vR 0), some (vI x1), some (vI (0 + 1))]) (st' := [vI 12, vI x1]) (L' := LR z19 f19) 6 (b53_25 (mcall (d + 1)) x1 0 _) ?_
          obtain ⟨g1, H⟩ := H
          refine rc_g (i' := 31) (ls' := [some (vR 0), some (vI x1), some (vI (0 + 1))]) (st' := [vI (x1 - x1 / 12 * 12)]) (L' := LR z19 f19) (b53_6 (mcall (d + 1)) x1 12 _ _) (cmp_ne.trans (decide_eq_true g1)) ?_
          refine rc_if (it := 42) (ie := 32) (ls' := [some (vR 0), some (vI x1), some (vI (0 + 1))]) (st' := []) (b53_7 (mcall (d + 1)) (x1 - x1 / 12 * 12) _ _) (fun q47 => ?_) (fun q47 => ?_)
          · have H := H.1 (cI5t q47 rfl rfl)
            refine rc_b (i' := 44) (ls' := [some (vR 0), some (vI x1), some (vI (0 + 1))]) (st' := [vI 12, vI x1]) (L' := LR z19 f19) 2 (b53_8 (mcall (d + 1)) x1 (0 + 1) _) ?_
            obtain ⟨g1, H⟩ := H
            refine rc_g (i' := 45) (ls' := [some (vR 0), some (vI x1), some (vI (0 + 1))]) (st' := [vI (x1 - x1 / 12 * 12)]) (L' := LR z19 f19) (b53_9 (mcall (d + 1)) x1 12 _ _) (cmp_ne.trans (decide_eq_true g1)) ?_
            refine rc_b (i' := 46) (ls' := [some (vR 0), some (vI x1), some (vI (0 + 1))]) (st' := [vI 11, vI (x1 - x1 / 12 * 12)]) (L' := LR z19 f19) 1 (b53_10 (mcall (d + 1)) x1 (0 + 1) (x1 - x1 / 12 * 12) _) ?_
            refine rc_if (it := 57) (ie := 47) (ls' := [some (vR 0), some (vI x1), some (vI (0 + 1))]) (st' := []) (b53_11 (mcall (d + 1)) (x1 - x1 / 12 * 12) 11 _ _) (fun q48 => ?_) (fun q48 => ?_)
            · have H := H.1 (cI3t q48 rfl rfl)
              refine rc_b (i' := 58) (ls' := [some (vR 0), some (vI x1), some (vI (0 + 1))]) (st' := [vI (0 + 1)]) (L' := LR z19 f19) 1 (b53_12 (mcall (d + 1)) x1 (0 + 1) _) ?_
              subst H
              exact rc_ret (b53_13 (mcall (d + 1)) _ _ _)
            · have H := H.2 (cI3f q48 rfl rfl)
              refine rc_b (i' := 51) (ls' := [some (vR 0), some (vI x1), some (vI (0 + 1))]) (st' := [vI (x1 + 1), vR 0]) (L' := LR z19 f19) 4 (b53_14 (mcall (d + 1)) x1 (0 + 1) _) ?_
              obtain ⟨r24, z24, f24, hc, H⟩ := H
              refine rc_call (t := 52) (ls' := [some (vR 0), some (vI x1), some (vI (0 + 1))]) (st' := []) (b53_15 (mcall (d + 1)) (x1 + 1) _ z19 f19) hc ?_
              show RC (mcall (d + 1)) (mP 53) 52 [some (vR 0), some (vI x1), some (vI (0 + 1))] [vI r24] (LR z24 f24) res
              refine rc_if (it := 57) (ie := 53) (ls' := [some (vR 0), some (vI x1), some (vI (0 + 1))]) (st' := []) (b53_16 (mcall (d + 1)) r24 _ _) (fun q49 => ?_) (fun q49 => ?_)
              · have H := H.1 (cI0t q49)
                refine rc_b (i' := 58) (ls' := [some (vR 0), some (vI x1), some (vI (0 + 1))]) (st' := [vI (0 + 1)]) (L' := LR z24 f24) 1 (b53_12 (mcall (d + 1)) x1 (0 + 1) _) ?_
                subst H
                exact rc_ret (b53_13 (mcall (d + 1)) _ _ _)
              · have H := H.2 (cI0f q49)
                refine rc_b (i' := 58) (ls' := [some (vR 0), some (vI x1), some (vI ((0 + 1) + 1))]) (st' := [vI ((0 + 1) + 1)]) (L' := LR z24 f24) 5 (b53_17 (mcall (d + 1)) x1 (0 + 1) _) ?_
                subst H
                exact rc_ret (b53_13 (mcall (d + 1)) _ _ _)
          · have H := H.2 (cI5f q47 rfl rfl)
            refine rc_b (i' := 36) (ls' := [some (vR 0), some (vI x1), some (vI (0 + 1))]) (st' := [vI (x1 - 1), vR 0]) (L' := LR z19 f19) 4 (b53_18 (mcall (d + 1)) x1 (0 + 1) _) ?_
            obtain ⟨r25, z25, f25, hc, H⟩ := H
            refine rc_call (t := 37) (ls' := [some (vR 0), some (vI x1), some (vI (0 + 1))]) (st' := []) (b53_19 (mcall (d + 1)) (x1 - 1) _ z19 f19) hc ?_
            show RC (mcall (d + 1)) (mP 53) 37 [some (vR 0), some (vI x1), some (vI (0 + 1))] [vI r25] (LR z25 f25) res
            refine rc_if (it := 42) (ie := 38) (ls' := [some (vR 0), some (vI x1), some (vI (0 + 1))]) (st' := []) (b53_20 (mcall (d + 1)) r25 _ _) (fun q50 => ?_) (fun q50 => ?_)
            · have H := H.1 (cI0t q50)
              refine rc_b (i' := 44) (ls' := [some (vR 0), some (vI x1), some (vI (0 + 1))]) (st' := [vI 12, vI x1]) (L' := LR z25 f25) 2 (b53_8 (mcall (d + 1)) x1 (0 + 1) _) ?_
              obtain ⟨g1, H⟩ := H
              refine rc_g (i' := 45) (ls' := [some (vR 0), some (vI x1), some (vI (0 + 1))]) (st' := [vI (x1 - x1 / 12 * 12)]) (L' := LR z25 f25) (b53_9 (mcall (d + 1)) x1 12 _ _) (cmp_ne.trans (decide_eq_true g1)) ?_
              refine rc_b (i' := 46) (ls' := [some (vR 0), some (vI x1), some (vI (0 + 1))]) (st' := [vI 11, vI (x1 - x1 / 12 * 12)]) (L' := LR z25 f25) 1 (b53_10 (mcall (d + 1)) x1 (0 + 1) (x1 - x1 / 12 * 12) _) ?_
              refine rc_if (it := 57) (ie := 47) (ls' := [some (vR 0), some (vI x1), some (vI (0 + 1))]) (st' := []) (b53_11 (mcall (d + 1)) (x1 - x1 / 12 * 12) 11 _ _) (fun q51 => ?_) (fun q51 => ?_)
              · have H := H.1 (cI3t q51 rfl rfl)
                refine rc_b (i' := 58) (ls' := [some (vR 0), some (vI x1), some (vI (0 + 1))]) (st' := [vI (0 + 1)]) (L' := LR z25 f25) 1 (b53_12 (mcall (d + 1)) x1 (0 + 1) _) ?_
                subst H
                exact rc_ret (b53_13 (mcall (d + 1)) _ _ _)
              · have H := H.2 (cI3f q51 rfl rfl)
                refine rc_b (i' := 51) (ls' := [some (vR 0), some (vI x1), some (vI (0 + 1))]) (st' := [vI (x1 + 1), vR 0]) (L' := LR z25 f25) 4 (b53_14 (mcall (d + 1)) x1 (0 + 1) _) ?_
                obtain ⟨r26, z26, f26, hc, H⟩ := H
                refine rc_call (t := 52) (ls' := [some (vR 0), some (vI x1), some (vI (0 + 1))]) (st' := []) (b53_15 (mcall (d + 1)) (x1 + 1) _ z25 f25) hc ?_
                show RC (mcall (d + 1)) (mP 53) 52 [some (vR 0), some (vI x1), some (vI (0 + 1))] [vI r26] (LR z26 f26) res
                refine rc_if (it := 57) (ie := 53) (ls' := [some (vR 0), some (vI x1), some (vI (0 + 1))]) (st' := []) (b53_16 (mcall (d + 1)) r26 _ _) (fun q52 => ?_) (fun q52 => ?_)
                · have H := H.1 (cI0t q52)
                  refine rc_b (i' := 58) (ls' := [some (vR 0), some (vI x1), some (vI (0 + 1))]) (st' := [vI (0 + 1)]) (L' := LR z26 f26) 1 (b53_12 (mcall (d + 1)) x1 (0 + 1) _) ?_
                  subst H
                  exact rc_ret (b53_13 (mcall (d + 1)) _ _ _)
                · have H := H.2 (cI0f q52)
                  refine rc_b (i' := 58) (ls' := [some (vR 0), some (vI x1), some (vI ((0 + 1) + 1))]) (st' := [vI ((0 + 1) + 1)]) (L' := LR z26 f26) 5 (b53_17 (mcall (d + 1)) x1 (0 + 1) _) ?_
                  subst H
                  exact rc_ret (b53_13 (mcall (d + 1)) _ _ _)
            · have H := H.2 (cI0f q50)
              refine rc_b (i' := 44) (ls' := [some (vR 0), some (vI x1), some (vI ((0 + 1) + 1))]) (st' := [vI 12, vI x1]) (L' := LR z25 f25) 6 (b53_21 (mcall (d + 1)) x1 (0 + 1) _) ?_
              obtain ⟨g1, H⟩ := H
              refine rc_g (i' := 45) (ls' := [some (vR 0), some (vI x1), some (vI ((0 + 1) + 1))]) (st' := [vI (x1 - x1 / 12 * 12)]) (L' := LR z25 f25) (b53_9 (mcall (d + 1)) x1 12 _ _) (cmp_ne.trans (decide_eq_true g1)) ?_
              refine rc_b (i' := 46) (ls' := [some (vR 0), some (vI x1), some (vI ((0 + 1) + 1))]) (st' := [vI 11, vI (x1 - x1 / 12 * 12)]) (L' := LR z25 f25) 1 (b53_10 (mcall (d + 1)) x1 ((0 + 1) + 1) (x1 - x1 / 12 * 12) _) ?_
              refine rc_if (it := 57) (ie := 47) (ls' := [some (vR 0), some (vI x1), some (vI ((0 + 1) + 1))]) (st' := []) (b53_11 (mcall (d + 1)) (x1 - x1 / 12 * 12) 11 _ _) (fun q53 => ?_) (fun q53 => ?_)
              · have H := H.1 (cI3t q53 rfl rfl)
                refine rc_b (i' := 58) (ls' := [some (vR 0), some (vI x1), some (vI ((0 + 1) + 1))]) (st' := [vI ((0 + 1) + 1)]) (L' := LR z25 f25) 1 (b53_12 (mcall (d + 1)) x1 ((0 + 1) + 1) _) ?_
                subst H
                exact rc_ret (b53_13 (mcall (d + 1)) _ _ _)
              · have H := H.2 (cI3f q53 rfl rfl)
                refine rc_b (i' := 51) (ls' := [some (vR 0), some (vI x1), some (vI ((0 + 1) + 1))]) (st' := [vI (x1 + 1), vR 0]) (L' := LR z25 f25) 4 (b53_14 (mcall (d + 1)) x1 ((0 + 1) + 1) _) ?_
                obtain ⟨r27, z27, f27, hc, H⟩ := H
                refine rc_call (t := 52) (ls' := [some (vR 0), some (vI x1), some (vI ((0 + 1) + 1))]) (st' := []) (b53_15 (mcall (d + 1)) (x1 + 1) _ z25 f25) hc ?_
                show RC (mcall (d + 1)) (mP 53) 52 [some (vR 0), some (vI x1), some (vI ((0 + 1) + 1))] [vI r27] (LR z27 f27) res
                refine rc_if (it := 57) (ie := 53) (ls' := [some (vR 0), some (vI x1), some (vI ((0 + 1) + 1))]) (st' := []) (b53_16 (mcall (d + 1)) r27 _ _) (fun q54 => ?_) (fun q54 => ?_)
                · have H := H.1 (cI0t q54)
                  refine rc_b (i' := 58) (ls' := [some (vR 0), some (vI x1), some (vI ((0 + 1) + 1))]) (st' := [vI ((0 + 1) + 1)]) (L' := LR z27 f27) 1 (b53_12 (mcall (d + 1)) x1 ((0 + 1) + 1) _) ?_
                  subst H
                  exact rc_ret (b53_13 (mcall (d + 1)) _ _ _)
                · have H := H.2 (cI0f q54)
                  refine rc_b (i' := 58) (ls' := [some (vR 0), some (vI x1), some (vI (((0 + 1) + 1) + 1))]) (st' := [vI (((0 + 1) + 1) + 1)]) (L' := LR z27 f27) 5 (b53_17 (mcall (d + 1)) x1 ((0 + 1) + 1) _) ?_
                  subst H
                  exact rc_ret (b53_13 (mcall (d + 1)) _ _ _)
    · have H := H.2 (cI0f q28)
      refine rc_b (i' := 17) (ls' := [some (vR 0), some (vI x1), some (vI (0 + 1))]) (st' := [vI 132, vI x1]) (L' := LR z14 f14) 6 (b53_29 (mcall (d + 1)) x1 0 _) ?_
      refine rc_if (it := 28) (ie := 18) (ls' := [some (vR 0), some (vI x1), some (vI (0 + 1))]) (st' := []) (b53_4 (mcall (d + 1)) x1 132 _ _) (fun q55 => ?_) (fun q55 => ?_)
      · have H := H.1 (cI3t q55 rfl rfl)
        refine rc_b (i' := 30) (ls' := [some (vR 0), some (vI x1), some (vI (0 + 1))]) (st' := [vI 12, vI x1]) (L' := LR z14 f14) 2 (b53_5 (mcall (d + 1)) x1 (0 + 1) _) ?_
        obtain ⟨g1, H⟩ := H
        refine rc_g (i' := 31) (ls' := [some (vR 0), some (vI x1), some (vI (0 + 1))]) (st' := [vI (x1 - x1 / 12 * 12)]) (L' := LR z14 f14) (b53_6 (mcall (d + 1)) x1 12 _ _) (cmp_ne.trans (decide_eq_true g1)) ?_
        refine rc_if (it := 42) (ie := 32) (ls' := [some (vR 0), some (vI x1), some (vI (0 + 1))]) (st' := []) (b53_7 (mcall (d + 1)) (x1 - x1 / 12 * 12) _ _) (fun q56 => ?_) (fun q56 => ?_)
        · have H := H.1 (cI5t q56 rfl rfl)
          refine rc_b (i' := 44) (ls' := [some (vR 0), some (vI x1), some (vI (0 + 1))]) (st' := [vI 12, vI x1]) (L' := LR z14 f14) 2 (b53_8 (mcall (d + 1)) x1 (0 + 1) _) ?_
          obtain ⟨g1, H⟩ := H
          refine rc_g (i' := 45) (ls' := [some (vR 0), some (vI x1), some (vI (0 + 1))]) (st' := [vI (x1 - x1 / 12 * 12)]) (L' := LR z14 f14) (b53_9 (mcall (d + 1)) x1 12 _ _) (cmp_ne.trans (decide_eq_true g1)) ?_
          refine rc_b (i' := 46) (ls' := [some (vR 0), some (vI x1), some (vI (0 + 1))]) (st' := [vI 11, vI (x1 - x1 / 12 * 12)]) (L' := LR z14 f14) 1 (b53_10 (mcall (d + 1)) x1 (0 + 1) (x1 - x1 / 12 * 12) _) ?_
          refine rc_if (it := 57) (ie := 47) (ls' := [some (vR 0), some (vI x1), some (vI (0 + 1))]) (st' := []) (b53_11 (mcall (d + 1)) (x1 - x1 / 12 * 12) 11 _ _) (fun q57 => ?_) (fun q57 => ?_)
          · have H := H.1 (cI3t q57 rfl rfl)
            refine rc_b (i' := 58) (ls' := [some (vR 0), some (vI x1), some (vI (0 + 1))]) (st' := [vI (0 + 1)]) (L' := LR z14 f14) 1 (b53_12 (mcall (d + 1)) x1 (0 + 1) _) ?_
            subst H
            exact rc_ret (b53_13 (mcall (d + 1)) _ _ _)
          · have H := H.2 (cI3f q57 rfl rfl)
            refine rc_b (i' := 51) (ls' := [some (vR 0), some (vI x1), some (vI (0 + 1))]) (st' := [vI (x1 + 1), vR 0]) (L' := LR z14 f14) 4 (b53_14 (mcall (d + 1)) x1 (0 + 1) _) ?_
            obtain ⟨r28, z28, f28, hc, H⟩ := H
            refine rc_call (t := 52) (ls' := [some (vR 0), some (vI x1), some (vI (0 + 1))]) (st' := []) (b53_15 (mcall (d + 1)) (x1 + 1) _ z14 f14) hc ?_
            show RC (mcall (d + 1)) (mP 53) 52 [some (vR 0), some (vI x1), some (vI (0 + 1))] [vI r28] (LR z28 f28) res
            refine rc_if (it := 57) (ie := 53) (ls' := [some (vR 0), some (vI x1), some (vI (0 + 1))]) (st' := []) (b53_16 (mcall (d + 1)) r28 _ _) (fun q58 => ?_) (fun q58 => ?_)
            · have H := H.1 (cI0t q58)
              refine rc_b (i' := 58) (ls' := [some (vR 0), some (vI x1), some (vI (0 + 1))]) (st' := [vI (0 + 1)]) (L' := LR z28 f28) 1 (b53_12 (mcall (d + 1)) x1 (0 + 1) _) ?_
              subst H
              exact rc_ret (b53_13 (mcall (d + 1)) _ _ _)
            · have H := H.2 (cI0f q58)
              refine rc_b (i' := 58) (ls' := [some (vR 0), some (vI x1), some (vI ((0 + 1) + 1))]) (st' := [vI ((0 + 1) + 1)]) (L' := LR z28 f28) 5 (b53_17 (mcall (d + 1)) x1 (0 + 1) _) ?_
              subst H
              exact rc_ret (b53_13 (mcall (d + 1)) _ _ _)
        · have H := H.2 (cI5f q56 rfl rfl)
          refine rc_b (i' := 36) (ls' := [some (vR 0), some (vI x1), some (vI (0 + 1))]) (st' := [vI (x1 - 1), vR 0]) (L' := LR z14 f14) 4 (b53_18 (mcall (d + 1)) x1 (0 + 1) _) ?_
          obtain ⟨r29, z29, f29, hc, H⟩ := H
          refine rc_call (t := 37) (ls' := [some (vR 0), some (vI x1), some (vI (0 + 1))]) (st' := []) (b53_19 (mcall (d + 1)) (x1 - 1) _ z14 f14) hc ?_
          show RC (mcall (d + 1)) (mP 53) 37 [some (vR 0), some (vI x1), some (vI (0 + 1))] [vI r29] (LR z29 f29) res
          refine rc_if (it := 42) (ie := 38) (ls' := [some (vR 0), some (vI x1), some (vI (0 + 1))]) (st' := []) (b53_20 (mcall (d + 1)) r29 _ _) (fun q59 => ?_) (fun q59 => ?_)
          · have H := H.1 (cI0t q59)
            refine rc_b (i' := 44) (ls' := [some (vR 0), some (vI x1), some (vI (0 + 1))]) (st' := [vI 12, vI x1]) (L' := LR z29 f29) 2 (b53_8 (mcall (d + 1)) x1 (0 + 1) _) ?_
            obtain ⟨g1, H⟩ := H
            refine rc_g (i' := 45) (ls' := [some (vR 0), some (vI x1), some (vI (0 + 1))]) (st' := [vI (x1 - x1 / 12 * 12)]) (L' := LR z29 f29) (b53_9 (mcall (d + 1)) x1 12 _ _) (cmp_ne.trans (decide_eq_true g1)) ?_
            refine rc_b (i' := 46) (ls' := [some (vR 0), some (vI x1), some (vI (0 + 1))]) (st' := [vI 11, vI (x1 - x1 / 12 * 12)]) (L' := LR z29 f29) 1 (b53_10 (mcall (d + 1)) x1 (0 + 1) (x1 - x1 / 12 * 12) _) ?_
            refine rc_if (it := 57) (ie := 47) (ls' := [some (vR 0), some (vI x1), some (vI (0 + 1))]) (st' := []) (b53_11 (mcall (d + 1)) (x1 - x1 / 12 * 12) 11 _ _) (fun q60 => ?_) (fun q60 => ?_)
            · have H := H.1 (cI3t q60 rfl rfl)
              refine rc_b (i' := 58) (ls' := [some (vR 0), some (vI x1), some (vI (0 + 1))]) (st' := [vI (0 + 1)]) (L' := LR z29 f29) 1 (b53_12 (mcall (d + 1)) x1 (0 + 1) _) ?_
              subst H
              exact rc_ret (b53_13 (mcall (d + 1)) _ _ _)
            · have H := H.2 (cI3f q60 rfl rfl)
              refine rc_b (i' := 51) (ls' := [some (vR 0), some (vI x1), some (vI (0 + 1))]) (st' := [vI (x1 + 1), vR 0]) (L' := LR z29 f29) 4 (b53_14 (mcall (d + 1)) x1 (0 + 1) _) ?_
              obtain ⟨r30, z30, f30, hc, H⟩ := H
              refine rc_call (t := 52) (ls' := [some (vR 0), some (vI x1), some (vI (0 + 1))]) (st' := []) (b53_15 (mcall (d + 1)) (x1 + 1) _ z29 f29) hc ?_
              show RC (mcall (d + 1)) (mP 53) 52 [some (vR 0), some (vI x1), some (vI (0 + 1))] [vI r30] (LR z30 f30) res
              refine rc_if (it := 57) (ie := 53) (ls' := [some (vR 0), some (vI x1), some (vI (0 + 1))]) (st' := []) (b53_16 (mcall (d + 1)) r30 _ _) (fun q61 => ?_) (fun q61 => ?_)
              · have H := H.1 (cI0t q61)
                refine rc_b (i' := 58) (ls' := [some (vR 0), some (vI x1), some (vI (0 + 1))]) (st' := [vI (0 + 1)]) (L' := LR z30 f30) 1 (b53_12 (mcall (d + 1)) x1 (0 + 1) _) ?_
                subst H
                exact rc_ret (b53_13 (mcall (d + 1)) _ _ _)
              · have H := H.2 (cI0f q61)
                refine rc_b (i' := 58) (ls' := [some (vR 0), some (vI x1), some (vI ((0 + 1) + 1))]) (st' := [vI ((0 + 1) + 1)]) (L' := LR z30 f30) 5 (b53_17 (mcall (d + 1)) x1 (0 + 1) _) ?_
                subst H
                exact rc_ret (b53_13 (mcall (d + 1)) _ _ _)
          · have H := H.2 (cI0f q59)
            refine rc_b (i' := 44) (ls' := [some (vR 0), some (vI x1), some (vI ((0 + 1) + 1))]) (st' := [vI 12, vI x1]) (L' := LR z29 f29) 6 (b53_21 (mcall (d + 1)) x1 (0 + 1) _) ?_
            obtain ⟨g1, H⟩ := H
            refine rc_g (i' := 45) (ls' := [some (vR 0), some (vI x1), some (vI ((0 + 1) + 1))]) (st' := [vI (x1 - x1 / 12 * 12)]) (L' := LR z29 f29) (b53_9 (mcall (d + 1)) x1 12 _ _) (cmp_ne.trans (decide_eq_true g1)) ?_
            refine rc_b (i' := 46) (ls' := [some (vR 0), some (vI x1), some (vI ((0 + 1) + 1))]) (st' := [vI 11, vI (x1 - x1 / 12 * 12)]) (L' := LR z29 f29) 1 (b53_10 (mcall (d + 1)) x1 ((0 + 1) + 1) (x1 - x1 / 12 * 12) _) ?_
            refine rc_if (it := 57) (ie := 47) (ls' := [some (vR 0), some (vI x1), some (vI ((0 + 1) + 1))]) (st' := []) (b53_11 (mcall (d + 1)) (x1 - x1 / 12 * 12) 11 _ _) (fun q62 => ?_) (fun q62 => ?_)
            · have H := H.1 (cI3t q62 rfl rfl)
              refine rc_b (i' := 58) (ls' := [some (vR 0), some (vI x1), some (vI ((0 + 1) + 1))]) (st' := [vI ((0 + 1) + 1)]) (L' := LR z29 f29) 1 (b53_12 (mcall (d + 1)) x1 ((0 + 1) + 1) _) ?_
              subst H
              exact rc_ret (b53_13 (mcall (d + 1)) _ _ _)
            · have H := H.2 (cI3f q62 rfl rfl)
              refine rc_b (i' := 51) (ls' := [some (vR 0), some (vI x1), some (vI ((0 + 1) + 1))]) (st' := [vI (x1 + 1), vR 0]) (L' := LR z29 f29) 4 (b53_14 (mcall (d + 1)) x1 ((0 + 1) + 1) _) ?_
              obtain ⟨r31, z31, f31, hc, H⟩ := H
              refine rc_call (t := 52) (ls' := [some (vR 0), some (vI x1), some (vI ((0 + 1) + 1))]) (st' := []) (b53_15 (mcall (d + 1)) (x1 + 1) _ z29 f29) hc ?_
              show RC (mcall (d + 1)) (mP 53) 52 [some (vR 0), some (vI x1), some (vI ((0 + 1) + 1))] [vI r31] (LR z31 f31) res
              refine rc_if (it := 57) (ie := 53) (ls' := [some (vR 0), some (vI x1), some (vI ((0 + 1) + 1))]) (st' := []) (b53_16 (mcall (d + 1)) r31 _ _) (fun q63 => ?_) (fun q63 => ?_)
              · have H := H.1 (cI0t q63)
                refine rc_b (i' := 58) (ls' := [some (vR 0), some (vI x1), some (vI ((0 + 1) + 1))]) (st' := [vI ((0 + 1) + 1)]) (L' := LR z31 f31) 1 (b53_12 (mcall (d + 1)) x1 ((0 + 1) + 1) _) ?_
                subst H
                exact rc_ret (b53_13 (mcall (d + 1)) _ _ _)
              · have H := H.2 (cI0f q63)
                refine rc_b (i' := 58) (ls' := [some (vR 0), some (vI x1), some (vI (((0 + 1) + 1) + 1))]) (st' := [vI (((0 + 1) + 1) + 1)]) (L' := LR z31 f31) 5 (b53_17 (mcall (d + 1)) x1 ((0 + 1) + 1) _) ?_
                subst H
                exact rc_ret (b53_13 (mcall (d + 1)) _ _ _)
      · have H := H.2 (cI3f q55 rfl rfl)
        refine rc_b (i' := 22) (ls' := [some (vR 0), some (vI x1), some (vI (0 + 1))]) (st' := [vI (x1 + 12), vR 0]) (L' := LR z14 f14) 4 (b53_22 (mcall (d + 1)) x1 (0 + 1) _) ?_
        obtain ⟨r32, z32, f32, hc, H⟩ := H
        refine rc_call (t := 23) (ls' := [some (vR 0), some (vI x1), some (vI (0 + 1))]) (st' := []) (b53_23 (mcall (d + 1)) (x1 + 12) _ z14 f14) hc ?_
        show RC (mcall (d + 1)) (mP 53) 23 [some (vR 0), some (vI x1), some (vI (0 + 1))] [vI r32] (LR z32 f32) res
        refine rc_if (it := 28) (ie := 24) (ls' := [some (vR 0), some (vI x1), some (vI (0 + 1))]) (st' := []) (b53_24 (mcall (d + 1)) r32 _ _) (fun q64 => ?_) (fun q64 => ?_)
        · have H := H.1 (cI0t q64)
          refine rc_b (i' := 30) (ls' := [some (vR 0), some (vI x1), some (vI (0 + 1))]) (st' := [vI 12, vI x1]) (L' := LR z32 f32) 2 (b53_5 (mcall (d + 1)) x1 (0 + 1) _) ?_
          obtain ⟨g1, H⟩ := H
          refine rc_g (i' := 31) (ls' := [some (vR 0), some (vI x1), some (vI (0 + 1))]) (st' := [vI (x1 - x1 / 12 * 12)]) (L' := LR z32 f32) (b53_6 (mcall (d + 1)) x1 12 _ _) (cmp_ne.trans (decide_eq_true g1)) ?_
          refine rc_if (it := 42) (ie := 32) (ls' := [some (vR 0), some (vI x1), some (vI (0 + 1))]) (st' := []) (b53_7 (mcall (d + 1)) (x1 - x1 / 12 * 12) _ _) (fun q65 => ?_) (fun q65 => ?_)
          · have H := H.1 (cI5t q65 rfl rfl)
            refine rc_b (i' := 44) (ls' := [some (vR 0), some (vI x1), some (vI (0 + 1))]) (st' := [vI 12, vI x1]) (L' := LR z32 f32) 2 (b53_8 (mcall (d + 1)) x1 (0 + 1) _) ?_
            obtain ⟨g1, H⟩ := H
            refine rc_g (i' := 45) (ls' := [some (vR 0), some (vI x1), some (vI (0 + 1))]) (st' := [vI (x1 - x1 / 12 * 12)]) (L' := LR z32 f32) (b53_9 (mcall (d + 1)) x1 12 _ _) (cmp_ne.trans (decide_eq_true g1)) ?_
            refine rc_b (i' := 46) (ls' := [some (vR 0), some (vI x1), some (vI (0 + 1))]) (st' := [vI 11, vI (x1 - x1 / 12 * 12)]) (L' := LR z32 f32) 1 (b53_10 (mcall (d + 1)) x1 (0 + 1) (x1 - x1 / 12 * 12) _) ?_
            refine rc_if (it := 57) (ie := 47) (ls' := [some (vR 0), some (vI x1), some (vI (0 + 1))]) (st' := []) (b53_11 (mcall (d + 1)) (x1 - x1 / 12 * 12) 11 _ _) (fun q66 => ?_) (fun q66 => ?_)
            · have H := H.1 (cI3t q66 rfl rfl)
              refine rc_b (i' := 58) (ls' := [some (vR 0), some (vI x1), some (vI (0 + 1))]) (st' := [vI (0 + 1)]) (L' := LR z32 f32) 1 (b53_12 (mcall (d + 1)) x1 (0 + 1) _) ?_
              subst H
              exact rc_ret (b53_13 (mcall (d + 1)) _ _ _)
            · have H := H.2 (cI3f q66 rfl rfl)
              refine rc_b (i' := 51) (ls' := [some (vR 0), some (vI x1), some (vI (0 + 1))]) (st' := [vI (x1 + 1), vR 0]) (L' := LR z32 f32) 4 (b53_14 (mcall (d + 1)) x1 (0 + 1) _) ?_
              obtain ⟨r33, z33, f33, hc, H⟩ := H
              refine rc_call (t := 52) (ls' := [some (vR 0), some (vI x1), some (vI (0 + 1))]) (st' := []) (b53_15 (mcall (d + 1)) (x1 + 1) _ z32 f32) hc ?_
              show RC (mcall (d + 1)) (mP 53) 52 [some (vR 0), some (vI x1), some (vI (0 + 1))] [vI r33] (LR z33 f33) res
              refine rc_if (it := 57) (ie := 53) (ls' := [some (vR 0), some (vI x1), some (vI (0 + 1))]) (st' := []) (b53_16 (mcall (d + 1)) r33 _ _) (fun q67 => ?_) (fun q67 => ?_)
              · have H := H.1 (cI0t q67)
                refine rc_b (i' := 58) (ls' := [some (vR 0), some (vI x1), some (vI (0 + 1))]) (st' := [vI (0 + 1)]) (L' := LR z33 f33) 1 (b53_12 (mcall (d + 1)) x1 (0 + 1) _) ?_
                subst H
                exact rc_ret (b53_13 (mcall (d + 1)) _ _ _)
              · have H := H.2 (cI0f q67)
                refine rc_b (i' := 58) (ls' := [some (vR 0), some (vI x1), some (vI ((0 + 1) + 1))]) (st' := [vI ((0 + 1) + 1)]) (L' := LR z33 f33) 5 (b53_17 (mcall (d + 1)) x1 (0 + 1) _) ?_
                subst H
                exact rc_ret (b53_13 (mcall (d + 1)) _ _ _)
          · have H := H.2 (cI5f q65 rfl rfl)
            refine rc_b (i' := 36) (ls' := [some (vR 0), some (vI x1), some (vI (0 + 1))]) (st' := [vI (x1 - 1), vR 0]) (L' := LR z32 f32) 4 (b53_18 (mcall (d + 1)) x1 (0 + 1) _) ?_
            obtain ⟨r34, z34, f34, hc, H⟩ := H
            refine rc_call (t := 37) (ls' := [some (vR 0), some (vI x1), some (vI (0 + 1))]) (st' := []) (b53_19 (mcall (d + 1)) (x1 - 1) _ z32 f32) hc ?_
            show RC (mcall (d + 1)) (mP 53) 37 [some (vR 0), some (vI x1), some (vI (0 + 1))] [vI r34] (LR z34 f34) res
            refine rc_if (it := 42) (ie := 38) (ls' := [some (vR 0), some (vI x1), some (vI (0 + 1))]) (st' := []) (b53_20 (mcall (d + 1)) r34 _ _) (fun q68 => ?_) (fun q68 => ?_)
            · have H := H.1 (cI0t q68)
              refine rc_b (i' := 44) (ls' := [some (vR 0), some (vI x1), some (vI (0 + 1))]) (st' := [vI 12, vI x1]) (L' := LR z34 f34) 2 (b53_8 (mcall (d + 1)) x1 (0 + 1) _) ?_
              obtain ⟨g1, H⟩ := H
              refine rc_g (i' := 45) (ls' := [some (vR 0), some (vI x1), some (vI (0 + 1))]) (st' := [vI (x1 - x1 / 12 * 12)]) (L' := LR z34 f34) (b53_9 (mcall (d + 1)) x1 12 _ _) (cmp_ne.trans (decide_eq_true g1)) ?_
              refine rc_b (i' := 46) (ls' := [some (vR 0), some (vI x1), some (vI (0 + 1))]) (st' := [vI 11, vI (x1 - x1 / 12 * 12)]) (L' := LR z34 f34) 1 (b53_10 (mcall (d + 1)) x1 (0 + 1) (x1 - x1 / 12 * 12) _) ?_
              refine rc_if (it := 57) (ie := 47) (ls' := [some (vR 0), some (vI x1), some (vI (0 + 1))]) (st' := []) (b53_11 (mcall (d + 1)) (x1 - x1 / 12 * 12) 11 _ _) (fun q69 => ?_) (fun q69 => ?_)
              · have H := H.1 (cI3t q69 rfl rfl)
                refine rc_b (i' := 58) (ls' := [some (vR 0), some (vI x1), some (vI (0 + 1))]) (st' := [vI (0 + 1)]) (L' := LR z34 f34) 1 (b53_12 (mcall (d + 1)) x1 (0 + 1) _) ?_
                subst H
                exact rc_ret (b53_13 (mcall (d + 1)) _ _ _)
              · have H := H.2 (cI3f q69 rfl rfl)
                refine rc_b (i' := 51) (ls' := [some (vR 0), some (vI x1), some (vI (0 + 1))]) (st' := [vI (x1 + 1), vR 0]) (L' := LR z34 f34) 4 (b53_14 (mcall (d + 1)) x1 (0 + 1) _) ?_
                obtain ⟨r35, z35, f35, hc, H⟩ := H
                refine rc_call (t := 52) (ls' := [some (vR 0), some (vI x1), some (vI (0 + 1))]) (st' := []) (b53_15 (mcall (d + 1)) (x1 + 1) _ z34 f34) hc ?_
                show RC (mcall (d + 1)) (mP 53) 52 [some (vR 0), some (vI x1), some (vI (0 + 1))] [vI r35] (LR z35 f35) res
                refine rc_if (it := 57) (ie := 53) (ls' := [some (vR 0), some (vI x1), some (vI (0 + 1))]) (st' := []) (b53_16 (mcall (d + 1)) r35 _ _) (fun q70 => ?_) (fun q70 => ?_)
                · have H := H.1 (cI0t q70)
                  refine rc_b (i' := 58) (ls' := [some (vR 0), some (vI x1), some (vI (0 + 1))]) (st' := [vI (0 + 1)]) (L' := LR z35 f35) 1 (b53_12 (mcall (d + 1)) x1 (0 + 1) _) ?_
                  subst H
                  exact rc_ret (b53_13 (mcall (d + 1)) _ _ _)
                · have H := H.2 (cI0f q70)
                  refine rc_b (i' := 58) (ls' := [some (vR 0), some (vI x1), some (vI ((0 + 1) + 1))]) (st' := [vI ((0 + 1) + 1)]) (L' := LR z35 f35) 5 (b53_17 (mcall (d + 1)) x1 (0 + 1) _) ?_
                  subst H
                  exact rc_ret (b53_13 (mcall (d + 1)) _ _ _)
            · have H := H.2 (cI0f q68)
              refine rc_b (i' := 44) (ls' := [some (vR 0), some (vI x1), some (vI ((0 + 1) + 1))]) (st' := [vI 12, vI x1]) (L' := LR z34 f34) 6 (b53_21 (mcall (d + 1)) x1 (0 + 1) _) ?_
              obtain ⟨g1, H⟩ := H
              refine rc_g (i' := 45) (ls' := [some (vR 0), some (vI x1), some (vI ((0 + 1) + 1))]) (st' := [vI (x1 - x1 / 12 * 12)]) (L' := LR z34 f34) (b53_9 (mcall (d + 1)) x1 12 _ _) (cmp_ne.trans (decide_eq_true g1)) ?_
              refine rc_b (i' := 46) (ls' := [some (vR 0), some (vI x1), some (vI ((0 + 1) + 1))]) (st' := [vI 11, vI (x1 - x1 / 12 * 12)]) (L' := LR z34 f34) 1 (b53_10 (mcall (d + 1)) x1 ((0 + 1) + 1) (x1 - x1 / 12 * 12) _) ?_
              refine rc_if (it := 57) (ie := 47) (ls' := [some (vR 0), some (vI x1), some (vI ((0 + 1) + 1))]) (st' := []) (b53_11 (mcall (d + 1)) (x1 - x1 / 12 * 12) 11 _ _) (fun q71 => ?_) (fun q71 => ?_)
              · have H := H.1 (cI3t q71 rfl rfl)
                refine rc_b (i' := 58) (ls' := [some (vR 0), some (vI x1), some (vI ((0 + 1) + 1))]) (st' := [vI ((0 + 1) + 1)]) (L' := LR z34 f34) 1 (b53_12 (mcall (d + 1)) x1 ((0 + 1) + 1) _) ?_
                subst H
                exact rc_ret (b53_13 (mcall (d + 1)) _ _ _)
              · have H := H.2 (cI3f q71 rfl rfl)
                refine rc_b (i' := 51) (ls' := [some (vR 0), some (vI x1), some (vI ((0 + 1) + 1))]) (st' := [vI (x1 + 1), vR 0]) (L' := LR z34 f34) 4 (b53_14 (mcall (d + 1)) x1 ((0 + 1) + 1) _) ?_
                obtain ⟨r36, z36, f36, hc, H⟩ := H
                refine rc_call (t := 52) (ls' := [some (vR 0), some (vI x1), some (vI ((0 + 1) + 1))]) (st' := []) (b53_15 (mcall (d + 1)) (x1 + 1) _ z34 f34) hc ?_
                show RC (mcall (d + 1)) (mP 53) 52 [some (vR 0), some (vI x1), some (vI ((0 + 1) + 1))] [vI r36] (LR z36 f36) res
                refine rc_if (it := 57) (ie := 53) (ls' := [some (vR 0), some (vI x1), some (vI ((0 + 1) + 1))]) (st' := []) (b53_16 (mcall (d + 1)) r36 _ _) (fun q72 => ?_) (fun q72 => ?_)
                · have H := H.1 (cI0t q72)
                  refine rc_b (i' := 58) (ls' := [some (vR 0), some (vI x1), some (vI ((0 + 1) + 1))]) (st' := [vI ((0 + 1) + 1)]) (L' := LR z36 f36) 1 (b53_12 (mcall (d + 1)) x1 ((0 + 1) + 1) _) ?_
                  subst H
                  exact rc_ret (b53_13 (mcall (d + 1)) _ _ _)
                · have H := H.2 (cI0f q72)
                  refine rc_b (i' := 58) (ls' := [some (vR 0), some (vI x1), some (vI (((0 + 1) + 1) + 1))]) (st' := [vI (((0 + 1) + 1) + 1)]) (L' := LR z36 f36) 5 (b53_17 (mcall (d + 1)) x1 ((0 + 1) + 1) _) ?_
                  subst H
                  exact rc_ret (b53_13 (mcall (d + 1)) _ _ _)
        · have H := H.2 (cI0f q64)
          refine rc_b (i' := 30) (ls' := [some (vR 0), some (vI x1), some (vI ((0 + 1) + 1))]) (st' := [vI 12, vI x1]) (L' := LR z32 f32) 6 (b53_25 (mcall (d + 1)) x1 (0 + 1) _) ?_
          obtain ⟨g1, H⟩ := H
          refine rc_g (i' := 31) (ls' := [some (vR 0), some (vI x1), some (vI ((0 + 1) + 1))]) (st' := [vI (x1 - x1 / 12 * 12)]) (L' := LR z32 f32) (b53_6 (mcall (d + 1)) x1 12 _ _) (cmp_ne.trans (decide_eq_true g1)) ?_
          refine rc_if (it := 42) (ie := 32) (ls' := [some (vR 0), some (vI x1), some (vI ((0 + 1) + 1))]) (st' := []) (b53_7 (mcall (d + 1)) (x1 - x1 / 12 * 12) _ _) (fun q73 => ?_) (fun q73 => ?_)
          · have H := H.1 (cI5t q73 rfl rfl)
            refine rc_b (i' := 44) (ls' := [some (vR 0), some (vI x1), some (vI ((0 + 1) + 1))]) (st' := [vI 12, vI x1]) (L' := LR z32 f32) 2 (b53_8 (mcall (d + 1)) x1 ((0 + 1) + 1) _) ?_
            obtain ⟨g1, H⟩ := H
            refine rc_g (i' := 45) (ls' := [some (vR 0), some (vI x1), some (vI ((0 + 1) + 1))]) (st' := [vI (x1 - x1 / 12 * 12)]) (L' := LR z32 f32) (b53_9 (mcall (d + 1)) x1 12 _ _) (cmp_ne.trans (decide_eq_true g1)) ?_
            refine rc_b (i' := 46) (ls' := [some (vR 0), some (vI x1), some (vI ((0 + 1) + 1))]) (st' := [vI 11, vI (x1 - x1 / 12 * 12)]) (L' := LR z32 f32) 1 (b53_10 (mcall (d + 1)) x1 ((0 + 1) + 1) (x1 - x1 / 12 * 12) _) ?_
            refine rc_if (it := 57) (ie := 47) (ls' := [some (vR 0), some (vI x1), some (vI ((0 + 1) + 1))]) (st' := []) (b53_11 (mcall (d + 1)) (x1 - x1 / 12 * 12) 11 _ _) (fun q74 => ?_) (fun q74 => ?_)
            · have H := H.1 (cI3t q74 rfl rfl)
              refine rc_b (i' := 58) (ls' := [some (vR 0), some (vI x1), some (vI ((0 + 1) + 1))]) (st' := [vI ((0 + 1) + 1)]) (L' := LR z32 f32) 1 (b53_12 (mcall (d + 1)) x1 ((0 + 1) + 1) _) ?_
              subst H
              exact rc_ret (b53_13 (mcall (d + 1)) _ _ _)
            · have H := H.2 (cI3f q74 rfl rfl)
              refine rc_b (i' := 51) (ls' := [some (vR 0), some (vI x1), some (vI ((0 + 1) + 1))]) (st' := [vI (x1 + 1), vR 0]) (L' := LR z32 f32) 4 (b53_14 (mcall (d + 1)) x1 ((0 + 1) + 1) _) ?_
              obtain ⟨r37, z37, f37, hc, H⟩ := H
              refine rc_call (t := 52) (ls' := [some (vR 0), some (vI x1), some (vI ((0 + 1) + 1))]) (st' := []) (b53_15 (mcall (d + 1)) (x1 + 1) _ z32 f32) hc ?_
              show RC (mcall (d + 1)) (mP 53) 52 [some (vR 0), some (vI x1), some (vI ((0 + 1) + 1))] [vI r37] (LR z37 f37) res
              refine rc_if (it := 57) (ie := 53) (ls' := [some (vR 0), some (vI x1), some (vI ((0 + 1) + 1))]) (st' := []) (b53_16 (mcall (d + 1)) r37 _ _) (fun q75 => ?_) (fun q75 => ?_)
              · have H := H.1 (cI0t q75)
                refine rc_b (i' := 58) (ls' := [some (vR 0), some (vI x1), some (vI ((0 + 1) + 1))]) (st' := [vI ((0 + 1) + 1)]) (L' := LR z37 f37) 1 (b53_12 (mcall (d + 1)) x1 ((0 + 1) + 1) _) ?_
                subst H
                exact rc_ret (b53_13 (mcall (d + 1)) _ _ _)
              · have H := H.2 (cI0f q75)
                refine rc_b (i' := 58) (ls' := [some (vR 0), some (vI x1), some (vI (((0 + 1) + 1) + 1))]) (st' := [vI (((0 + 1) + 1) + 1)]) (L' := LR z37 f37) 5 (b53_17 (mcall (d + 1)) x1 ((0 + 1) + 1) _) ?_
                subst H
                exact rc_ret (b53_13 (mcall (d + 1)) _ _ _)
          · have H := H.2 (cI5f q73 rfl rfl)
            refine rc_b (i' := 36) (ls' := [some (vR 0), some (vI x1), some (vI ((0 + 1) + 1))]) (st' := [vI (x1 - 1), vR 0]) (L' := LR z32 f32) 4 (b53_18 (mcall (d + 1)) x1 ((0 + 1) + 1) _) ?_
            obtain ⟨r38, z38, f38, hc, H⟩ := H
            refine rc_call (t := 37) (ls' := [some (vR 0), some (vI x1), some (vI ((0 + 1) + 1))]) (st' := []) (b53_19 (mcall (d + 1)) (x1 - 1) _ z32 f32) hc ?_
            show RC (mcall (d + 1)) (mP 53) 37 [some (vR 0), some (vI x1), some (vI ((0 + 1) + 1))] [vI r38] (LR z38 f38) res
            refine rc_if (it := 42) (ie := 38) (ls' := [some (vR 0), some (vI x1), some (vI ((0 + 1) + 1))]) (st' := []) (b53_20 (mcall (d + 1)) r38 _ _) (fun q76 => ?_) (fun q76 => ?_)
            · have H := H.1 (cI0t q76)
              refine rc_b (i' := 44) (ls' := [some (vR 0), some (vI x1), some (vI ((0 + 1) + 1))]) (st' := [vI 12, vI x1]) (L' := LR z38 f38) 2 (b53_8 (mcall (d + 1)) x1 ((0 + 1) + 1) _) ?_
              obtain ⟨g1, H⟩ := H
              refine rc_g (i' := 45) (ls' := [some (vR 0), some (vI x1), some (vI ((0 + 1) + 1))]) (st' := [vI (x1 - x1 / 12 * 12)]) (L' := LR z38 f38) (b53_9 (mcall (d + 1)) x1 12 _ _) (cmp_ne.trans (decide_eq_true g1)) ?_
              refine rc_b (i' := 46) (ls' := [some (vR 0), some (vI x1), some (vI ((0 + 1) + 1))]) (st' := [vI 11, vI (x1 - x1 / 12 * 12)]) (L' := LR z38 f38) 1 (b53_10 (mcall (d + 1)) x1 ((0 + 1) + 1) (x1 - x1 / 12 * 12) _) ?_
              refine rc_if (it := 57) (ie := 47) (ls' := [some (vR 0), some (vI x1), some (vI ((0 + 1) + 1))]) (st' := []) (b53_11 (mcall (d + 1)) (x1 - x1 / 12 * 12) 11 _ _) (fun q77 => ?_) (fun q77 => ?_)
              · have H := H.1 (cI3t q77 rfl rfl)
                refine rc_b (i' := 58) (ls' := [some (vR 0), some (vI x1), some (vI ((0 + 1) + 1))]) (st' := [vI ((0 + 1) + 1)]) (L' := LR z38 f38) 1 (b53_12 (mcall (d + 1)) x1 ((0 + 1) + 1) _) ?_
                subst H
                exact rc_ret (b53_13 (mcall (d + 1)) _ _ _)
              · have H := H.2 (cI3f q77 rfl rfl)
                refine rc_b (i' := 51) (ls' := [some (vR 0), some (vI x1), some (vI ((0 + 1) + 1))]) (st' := [vI (x1 + 1), vR 0]) (L' := LR z38 f38) 4 (b53_14 (mcall (d + 1)) x1 ((0 + 1) + 1) _) ?_
                obtain ⟨r39, z39, f39, hc, H⟩ := H
                refine rc_call (t := 52) (ls' := [some (vR 0), some (vI x1), some (vI ((0 + 1) + 1))]) (st' := []) (b53_15 (mcall (d + 1)) (x1 + 1) _ z38 f38) hc ?_
                show RC (mcall (d + 1)) (mP 53) 52 [some (vR 0), some (vI x1), some (vI ((0 + 1) + 1))] [vI r39] (LR z39 f39) res
                refine rc_if (it := 57) (ie := 53) (ls' := [some (vR 0), some (vI x1), some (vI ((0 + 1) + 1))]) (st' := []) (b53_16 (mcall (d + 1)) r39 _ _) (fun q78 => ?_) (fun q78 => ?_)
                · have H := H.1 (cI0t q78)
                  refine rc_b (i' := 58) (ls' := [some (vR 0), some (vI x1), some (vI ((0 + 1) + 1))]) (st' := [vI ((0 + 1) + 1)]) (L' := LR z39 f39) 1 (b53_12 (mcall (d + 1)) x1 ((0 + 1) + 1) _) ?_
                  subst H
                  exact rc_ret (b53_13 (mcall (d + 1)) _ _ _)
                · have H := H.2 (cI0f q78)
                  refine rc_b (i' := 58) (ls' := [some (vR 0), some (vI x1), some (vI (((0 + 1) + 1) + 1))]) (st' := [vI (((0 + 1) + 1) + 1)]) (L' := LR z39 f39) 5 (b53_17 (mcall (d + 1)) x1 ((0 + 1) + 1) _) ?_
                  subst H
                  exact rc_ret (b53_13 (mcall (d + 1)) _ _ _)
            · have H := H.2 (cI0f q76)
              refine rc_b (i' := 44) (ls' := [some (vR 0), some (vI x1), some (vI (((0 + 1) + 1) + 1))]) (st' := [vI 12, vI x1]) (L' := LR z38 f38) 6 (b53_21 (mcall (d + 1)) x1 ((0 + 1) + 1) _) ?_
              obtain ⟨g1, H⟩ := H
              refine rc_g (i' := 45) (ls' := [some (vR 0), some (vI x1), some (vI (((0 + 1) + 1) + 1))]) (st' := [vI (x1 - x1 / 12 * 12)]) (L' := LR z38 f38) (b53_9 (mcall (d + 1)) x1 12 _ _) (cmp_ne.trans (decide_eq_true g1)) ?_
              refine rc_b (i' := 46) (ls' := [some (vR 0), some (vI x1), some (vI (((0 + 1) + 1) + 1))]) (st' := [vI 11, vI (x1 - x1 / 12 * 12)]) (L' := LR z38 f38) 1 (b53_10 (mcall (d + 1)) x1 (((0 + 1) + 1) + 1) (x1 - x1 / 12 * 12) _) ?_
              refine rc_if (it := 57) (ie := 47) (ls' := [some (vR 0), some (vI x1), some (vI (((0 + 1) + 1) + 1))]) (st' := []) (b53_11 (mcall (d + 1)) (x1 - x1 / 12 * 12) 11 _ _) (fun q79 => ?_) (fun q79 => ?_)
              · have H := H.1 (cI3t q79 rfl rfl)
                refine rc_b (i' := 58) (ls' := [some (vR 0), some (vI x1), some (vI (((0 + 1) + 1) + 1))]) (st' := [vI (((0 + 1) + 1) + 1)]) (L' := LR z38 f38) 1 (b53_12 (mcall (d + 1)) x1 (((0 + 1) + 1) + 1) _) ?_
                subst H
                exact rc_ret (b53_13 (mcall (d + 1)) _ _ _)
              · have H := H.2 (cI3f q79 rfl rfl)
                refine rc_b (i' := 51) (ls' := [some (vR 0), some (vI x1), some (vI (((0 + 1) + 1) + 1))]) (st' := [vI (x1 + 1), vR 0]) (L' := LR z38 f38) 4 (b53_14 (mcall (d + 1)) x1 (((0 + 1) + 1) + 1) _) ?_
                obtain ⟨r40, z40, f40, hc, H⟩ := H
                refine rc_call (t := 52) (ls' := [some (vR 0), some (vI x1), some (vI (((0 + 1) + 1) + 1))]) (st' := []) (b53_15 (mcall (d + 1)) (x1 + 1) _ z38 f38) hc ?_
                show RC (mcall (d + 1)) (mP 53) 52 [some (vR 0), some (vI x1), some (vI (((0 + 1) + 1) + 1))] [vI r40] (LR z40 f40) res
                refine rc_if (it := 57) (ie := 53) (ls' := [some (vR 0), some (vI x1), some (vI (((0 + 1) + 1) + 1))]) (st' := []) (b53_16 (mcall (d + 1)) r40 _ _) (fun q80 => ?_) (fun q80 => ?_)
                · have H := H.1 (cI0t q80)
                  refine rc_b (i' := 58) (ls' := [some (vR 0), some (vI x1), some (vI (((0 + 1) + 1) + 1))]) (st' := [vI (((0 + 1) + 1) + 1)]) (L' := LR z40 f40) 1 (b53_12 (mcall (d + 1)) x1 (((0 + 1) + 1) + 1) _) ?_
                  subst H
                  exact rc_ret (b53_13 (mcall (d + 1)) _ _ _)
                · have H := H.2 (cI0f q80)
                  refine rc_b (i' := 58) (ls' := [some (vR 0), some (vI x1), some (vI ((((0 + 1) + 1) + 1) + 1))]) (st' := [vI ((((0 + 1) + 1) + 1) + 1)]) (L' := LR z40 f40) 5 (b53_17 (mcall (d + 1)) x1 (((0 + 1) + 1) + 1) _) ?_
                  subst H
                  exact rc_ret (b53_13 (mcall (d + 1)) _ _ _)
theorem mBes (d : Nat) {nv i : Nat} (hn : nv ≤ 20) (hi : i < 144) {z : Nat → Int32} {f : Nat → FA} {m : FA} (hM : MRS nv m (f 1)) : mcall (d + 2) 53 [vR 0, vI (nI i)] (LR z f) = some (some (vI (bsd m (nI i))), LR z f) := by
  have go : ∀ res, _ → mcall (d + 2) 53 [vR 0, vI (nI i)] (LR z f) = some res := fun res H => mcall_i (mq53 (cu := [])).2.2 rfl (vc53_0 d (nI i) none z f res H)
  have ii : I (nI i) = i := I_nI (by omega)
  have ec : nI i - nI i / 12 * 12 = nI (i % 12) := nrem (a := i) (b := 12) rfl (by omega) (by omega) (by omega)
  have ic : I (nI (i % 12)) = ((i % 12 : Nat) : Int) := I_nI (by omega)
  have t : ∀ j, j < 144 → (mkB m (nI j) = mk1 (0 < I (f 1 (67 + j)))) := fun j hj => by
    have ij : I (nI j) = j := I_nI (by omega)
    have hx : ix (nI j) = j := ix_nI (by omega)
    by_cases c : m j = 0
    · rw [mkB_f (fun q => q.2 (by rw [hx]; exact c)), mk1_f (fun q => ((hM j hj).iff hn).mpr q c)]
    · rw [mkB_t ⟨⟨by omega, by omega⟩, by rw [hx]; exact c⟩, mk1_t (((hM j hj).iff hn).mp c)]
  have o1 : ¬ i < 132 → mkB m (nI i + 12) = 0 := fun q => mkB_f (fun c => by have := c.1; rw [show nI i + 12 = nI (i + 12) from nI_add i 12, I_nI (n := i + 12) (by omega)] at this; omega)
  have o2 : ¬ 12 ≤ i → mkB m (nI i - 12) = 0 := fun q => mkB_f (fun c => by
    have h1 := c.1
    have h2 : I (nI i - 12) < 0 := by
      have : ∀ i, i < 12 → I (nI i - 12) < 0 := by decide
      exact this i (by omega)
    omega)
  have s1 : i < 132 → nI i + 12 = nI (i + 12) := fun _ => nI_add i 12
  have s2 : 12 ≤ i → nI i - 12 = nI (i - 12) := fun q => nI_sub (b := 12) q
  have s3 : 0 < i % 12 → nI i - 1 = nI (i - 1) := fun q => nI_sub (b := 1) (by omega)
  have s4 : nI i + 1 = nI (i + 1) := nI_add i 1
  unfold bsd
  rw [ec, ic] at go ⊢
  rcases Classical.em (12 ≤ i) with a1 | a1 <;> rcases Classical.em (i < 132) with b1 | b1 <;> rcases Classical.em (0 < i % 12) with c1 | c1 <;> rcases Classical.em (i % 12 < 11) with d1 | d1
  · skip
    have qa := mIs d (i := i - 12) (z := z) (f := f) (by omega)
    have qb := mIs d (i := i + 12) (z := z) (f := f) (by omega)
    have qc := mIs d (i := i - 1) (z := z) (f := f) (by omega)
    have qd := mIs d (i := i + 1) (z := z) (f := f) (by omega)
    rcases Classical.em (0 < I (f 1 (67 + (i - 12)))) with a2 | a2 <;> rcases Classical.em (0 < I (f 1 (67 + (i + 12)))) with b2 | b2 <;> rcases Classical.em (0 < I (f 1 (67 + (i - 1)))) with c2 | c2 <;> rcases Classical.em (0 < I (f 1 (67 + (i + 1)))) with d2 | d2
    · rw [mk1_t a2] at qa
      rw [mk1_t b2] at qb
      rw [mk1_t c2] at qc
      rw [mk1_t d2] at qd
      rw [s1 b1, t _ (by omega), mk1_t b2]
      rw [s2 a1, t _ (by omega), mk1_t a2]
      rw [if_pos (show (0 : Int) < ((i % 12 : Nat) : Int) by omega), s3 c1, t _ (by omega), mk1_t c2]
      rw [if_pos (show ((i % 12 : Nat) : Int) < 11 by omega), s4, t _ (by omega), mk1_t d2]
      rw [show ((1 + 1 + 1 + 1 : Int32)) = ((((0 + 1) + 1) + 1) + 1) from by decide]
      exact go _ ⟨fun q => by omega, fun _ => ⟨_, _, _, (by rw [s2 a1]; exact qa), fun q => absurd q (by decide), fun _ => ⟨fun q => by omega, fun _ => ⟨_, _, _, (by rw [s1 b1]; exact qb), fun q => absurd q (by decide), fun _ => ⟨by decide, fun q => by omega, fun _ => ⟨_, _, _, (by rw [s3 c1]; exact qc), fun q => absurd q (by decide), fun _ => ⟨by decide, fun q => by omega, fun _ => ⟨_, _, _, (by rw [s4]; exact qd), fun q => absurd q (by decide), fun _ => rfl⟩⟩⟩⟩⟩⟩⟩⟩
    · rw [mk1_t a2] at qa
      rw [mk1_t b2] at qb
      rw [mk1_t c2] at qc
      rw [mk1_f d2] at qd
      rw [s1 b1, t _ (by omega), mk1_t b2]
      rw [s2 a1, t _ (by omega), mk1_t a2]
      rw [if_pos (show (0 : Int) < ((i % 12 : Nat) : Int) by omega), s3 c1, t _ (by omega), mk1_t c2]
      rw [if_pos (show ((i % 12 : Nat) : Int) < 11 by omega), s4, t _ (by omega), mk1_f d2]
      rw [show ((1 + 1 + 1 + 0 : Int32)) = (((0 + 1) + 1) + 1) from by decide]
      exact go _ ⟨fun q => by omega, fun _ => ⟨_, _, _, (by rw [s2 a1]; exact qa), fun q => absurd q (by decide), fun _ => ⟨fun q => by omega, fun _ => ⟨_, _, _, (by rw [s1 b1]; exact qb), fun q => absurd q (by decide), fun _ => ⟨by decide, fun q => by omega, fun _ => ⟨_, _, _, (by rw [s3 c1]; exact qc), fun q => absurd q (by decide), fun _ => ⟨by decide, fun q => by omega, fun _ => ⟨_, _, _, (by rw [s4]; exact qd), fun _ => rfl, fun q => absurd rfl q⟩⟩⟩⟩⟩⟩⟩⟩
    · rw [mk1_t a2] at qa
      rw [mk1_t b2] at qb
      rw [mk1_f c2] at qc
      rw [mk1_t d2] at qd
      rw [s1 b1, t _ (by omega), mk1_t b2]
      rw [s2 a1, t _ (by omega), mk1_t a2]
      rw [if_pos (show (0 : Int) < ((i % 12 : Nat) : Int) by omega), s3 c1, t _ (by omega), mk1_f c2]
      rw [if_pos (show ((i % 12 : Nat) : Int) < 11 by omega), s4, t _ (by omega), mk1_t d2]
      rw [show ((1 + 1 + 0 + 1 : Int32)) = (((0 + 1) + 1) + 1) from by decide]
      exact go _ ⟨fun q => by omega, fun _ => ⟨_, _, _, (by rw [s2 a1]; exact qa), fun q => absurd q (by decide), fun _ => ⟨fun q => by omega, fun _ => ⟨_, _, _, (by rw [s1 b1]; exact qb), fun q => absurd q (by decide), fun _ => ⟨by decide, fun q => by omega, fun _ => ⟨_, _, _, (by rw [s3 c1]; exact qc), fun _ => ⟨by decide, fun q => by omega, fun _ => ⟨_, _, _, (by rw [s4]; exact qd), fun q => absurd q (by decide), fun _ => rfl⟩⟩, fun q => absurd rfl q⟩⟩⟩⟩⟩⟩
    · rw [mk1_t a2] at qa
      rw [mk1_t b2] at qb
      rw [mk1_f c2] at qc
      rw [mk1_f d2] at qd
      rw [s1 b1, t _ (by omega), mk1_t b2]
      rw [s2 a1, t _ (by omega), mk1_t a2]
      rw [if_pos (show (0 : Int) < ((i % 12 : Nat) : Int) by omega), s3 c1, t _ (by omega), mk1_f c2]
      rw [if_pos (show ((i % 12 : Nat) : Int) < 11 by omega), s4, t _ (by omega), mk1_f d2]
      rw [show ((1 + 1 + 0 + 0 : Int32)) = ((0 + 1) + 1) from by decide]
      exact go _ ⟨fun q => by omega, fun _ => ⟨_, _, _, (by rw [s2 a1]; exact qa), fun q => absurd q (by decide), fun _ => ⟨fun q => by omega, fun _ => ⟨_, _, _, (by rw [s1 b1]; exact qb), fun q => absurd q (by decide), fun _ => ⟨by decide, fun q => by omega, fun _ => ⟨_, _, _, (by rw [s3 c1]; exact qc), fun _ => ⟨by decide, fun q => by omega, fun _ => ⟨_, _, _, (by rw [s4]; exact qd), fun _ => rfl, fun q => absurd rfl q⟩⟩, fun q => absurd rfl q⟩⟩⟩⟩⟩⟩
    · rw [mk1_t a2] at qa
      rw [mk1_f b2] at qb
      rw [mk1_t c2] at qc
      rw [mk1_t d2] at qd
      rw [s1 b1, t _ (by omega), mk1_f b2]
      rw [s2 a1, t _ (by omega), mk1_t a2]
      rw [if_pos (show (0 : Int) < ((i % 12 : Nat) : Int) by omega), s3 c1, t _ (by omega), mk1_t c2]
      rw [if_pos (show ((i % 12 : Nat) : Int) < 11 by omega), s4, t _ (by omega), mk1_t d2]
      rw [show ((0 + 1 + 1 + 1 : Int32)) = (((0 + 1) + 1) + 1) from by decide]
      exact go _ ⟨fun q => by omega, fun _ => ⟨_, _, _, (by rw [s2 a1]; exact qa), fun q => absurd q (by decide), fun _ => ⟨fun q => by omega, fun _ => ⟨_, _, _, (by rw [s1 b1]; exact qb), fun _ => ⟨by decide, fun q => by omega, fun _ => ⟨_, _, _, (by rw [s3 c1]; exact qc), fun q => absurd q (by decide), fun _ => ⟨by decide, fun q => by omega, fun _ => ⟨_, _, _, (by rw [s4]; exact qd), fun q => absurd q (by decide), fun _ => rfl⟩⟩⟩⟩, fun q => absurd rfl q⟩⟩⟩⟩
    · rw [mk1_t a2] at qa
      rw [mk1_f b2] at qb
      rw [mk1_t c2] at qc
      rw [mk1_f d2] at qd
      rw [s1 b1, t _ (by omega), mk1_f b2]
      rw [s2 a1, t _ (by omega), mk1_t a2]
      rw [if_pos (show (0 : Int) < ((i % 12 : Nat) : Int) by omega), s3 c1, t _ (by omega), mk1_t c2]
      rw [if_pos (show ((i % 12 : Nat) : Int) < 11 by omega), s4, t _ (by omega), mk1_f d2]
      rw [show ((0 + 1 + 1 + 0 : Int32)) = ((0 + 1) + 1) from by decide]
      exact go _ ⟨fun q => by omega, fun _ => ⟨_, _, _, (by rw [s2 a1]; exact qa), fun q => absurd q (by decide), fun _ => ⟨fun q => by omega, fun _ => ⟨_, _, _, (by rw [s1 b1]; exact qb), fun _ => ⟨by decide, fun q => by omega, fun _ => ⟨_, _, _, (by rw [s3 c1]; exact qc), fun q => absurd q (by decide), fun _ => ⟨by decide, fun q => by omega, fun _ => ⟨_, _, _, (by rw [s4]; exact qd), fun _ => rfl, fun q => absurd rfl q⟩⟩⟩⟩, fun q => absurd rfl q⟩⟩⟩⟩
    · rw [mk1_t a2] at qa
      rw [mk1_f b2] at qb
      rw [mk1_f c2] at qc
      rw [mk1_t d2] at qd
      rw [s1 b1, t _ (by omega), mk1_f b2]
      rw [s2 a1, t _ (by omega), mk1_t a2]
      rw [if_pos (show (0 : Int) < ((i % 12 : Nat) : Int) by omega), s3 c1, t _ (by omega), mk1_f c2]
      rw [if_pos (show ((i % 12 : Nat) : Int) < 11 by omega), s4, t _ (by omega), mk1_t d2]
      rw [show ((0 + 1 + 0 + 1 : Int32)) = ((0 + 1) + 1) from by decide]
      exact go _ ⟨fun q => by omega, fun _ => ⟨_, _, _, (by rw [s2 a1]; exact qa), fun q => absurd q (by decide), fun _ => ⟨fun q => by omega, fun _ => ⟨_, _, _, (by rw [s1 b1]; exact qb), fun _ => ⟨by decide, fun q => by omega, fun _ => ⟨_, _, _, (by rw [s3 c1]; exact qc), fun _ => ⟨by decide, fun q => by omega, fun _ => ⟨_, _, _, (by rw [s4]; exact qd), fun q => absurd q (by decide), fun _ => rfl⟩⟩, fun q => absurd rfl q⟩⟩, fun q => absurd rfl q⟩⟩⟩⟩
    · rw [mk1_t a2] at qa
      rw [mk1_f b2] at qb
      rw [mk1_f c2] at qc
      rw [mk1_f d2] at qd
      rw [s1 b1, t _ (by omega), mk1_f b2]
      rw [s2 a1, t _ (by omega), mk1_t a2]
      rw [if_pos (show (0 : Int) < ((i % 12 : Nat) : Int) by omega), s3 c1, t _ (by omega), mk1_f c2]
      rw [if_pos (show ((i % 12 : Nat) : Int) < 11 by omega), s4, t _ (by omega), mk1_f d2]
      rw [show ((0 + 1 + 0 + 0 : Int32)) = (0 + 1) from by decide]
      exact go _ ⟨fun q => by omega, fun _ => ⟨_, _, _, (by rw [s2 a1]; exact qa), fun q => absurd q (by decide), fun _ => ⟨fun q => by omega, fun _ => ⟨_, _, _, (by rw [s1 b1]; exact qb), fun _ => ⟨by decide, fun q => by omega, fun _ => ⟨_, _, _, (by rw [s3 c1]; exact qc), fun _ => ⟨by decide, fun q => by omega, fun _ => ⟨_, _, _, (by rw [s4]; exact qd), fun _ => rfl, fun q => absurd rfl q⟩⟩, fun q => absurd rfl q⟩⟩, fun q => absurd rfl q⟩⟩⟩⟩
    · rw [mk1_f a2] at qa
      rw [mk1_t b2] at qb
      rw [mk1_t c2] at qc
      rw [mk1_t d2] at qd
      rw [s1 b1, t _ (by omega), mk1_t b2]
      rw [s2 a1, t _ (by omega), mk1_f a2]
      rw [if_pos (show (0 : Int) < ((i % 12 : Nat) : Int) by omega), s3 c1, t _ (by omega), mk1_t c2]
      rw [if_pos (show ((i % 12 : Nat) : Int) < 11 by omega), s4, t _ (by omega), mk1_t d2]
      rw [show ((1 + 0 + 1 + 1 : Int32)) = (((0 + 1) + 1) + 1) from by decide]
      exact go _ ⟨fun q => by omega, fun _ => ⟨_, _, _, (by rw [s2 a1]; exact qa), fun _ => ⟨fun q => by omega, fun _ => ⟨_, _, _, (by rw [s1 b1]; exact qb), fun q => absurd q (by decide), fun _ => ⟨by decide, fun q => by omega, fun _ => ⟨_, _, _, (by rw [s3 c1]; exact qc), fun q => absurd q (by decide), fun _ => ⟨by decide, fun q => by omega, fun _ => ⟨_, _, _, (by rw [s4]; exact qd), fun q => absurd q (by decide), fun _ => rfl⟩⟩⟩⟩⟩⟩, fun q => absurd rfl q⟩⟩
    · rw [mk1_f a2] at qa
      rw [mk1_t b2] at qb
      rw [mk1_t c2] at qc
      rw [mk1_f d2] at qd
      rw [s1 b1, t _ (by omega), mk1_t b2]
      rw [s2 a1, t _ (by omega), mk1_f a2]
      rw [if_pos (show (0 : Int) < ((i % 12 : Nat) : Int) by omega), s3 c1, t _ (by omega), mk1_t c2]
      rw [if_pos (show ((i % 12 : Nat) : Int) < 11 by omega), s4, t _ (by omega), mk1_f d2]
      rw [show ((1 + 0 + 1 + 0 : Int32)) = ((0 + 1) + 1) from by decide]
      exact go _ ⟨fun q => by omega, fun _ => ⟨_, _, _, (by rw [s2 a1]; exact qa), fun _ => ⟨fun q => by omega, fun _ => ⟨_, _, _, (by rw [s1 b1]; exact qb), fun q => absurd q (by decide), fun _ => ⟨by decide, fun q => by omega, fun _ => ⟨_, _, _, (by rw [s3 c1]; exact qc), fun q => absurd q (by decide), fun _ => ⟨by decide, fun q => by omega, fun _ => ⟨_, _, _, (by rw [s4]; exact qd), fun _ => rfl, fun q => absurd rfl q⟩⟩⟩⟩⟩⟩, fun q => absurd rfl q⟩⟩
    · rw [mk1_f a2] at qa
      rw [mk1_t b2] at qb
      rw [mk1_f c2] at qc
      rw [mk1_t d2] at qd
      rw [s1 b1, t _ (by omega), mk1_t b2]
      rw [s2 a1, t _ (by omega), mk1_f a2]
      rw [if_pos (show (0 : Int) < ((i % 12 : Nat) : Int) by omega), s3 c1, t _ (by omega), mk1_f c2]
      rw [if_pos (show ((i % 12 : Nat) : Int) < 11 by omega), s4, t _ (by omega), mk1_t d2]
      rw [show ((1 + 0 + 0 + 1 : Int32)) = ((0 + 1) + 1) from by decide]
      exact go _ ⟨fun q => by omega, fun _ => ⟨_, _, _, (by rw [s2 a1]; exact qa), fun _ => ⟨fun q => by omega, fun _ => ⟨_, _, _, (by rw [s1 b1]; exact qb), fun q => absurd q (by decide), fun _ => ⟨by decide, fun q => by omega, fun _ => ⟨_, _, _, (by rw [s3 c1]; exact qc), fun _ => ⟨by decide, fun q => by omega, fun _ => ⟨_, _, _, (by rw [s4]; exact qd), fun q => absurd q (by decide), fun _ => rfl⟩⟩, fun q => absurd rfl q⟩⟩⟩⟩, fun q => absurd rfl q⟩⟩
    · rw [mk1_f a2] at qa
      rw [mk1_t b2] at qb
      rw [mk1_f c2] at qc
      rw [mk1_f d2] at qd
      rw [s1 b1, t _ (by omega), mk1_t b2]
      rw [s2 a1, t _ (by omega), mk1_f a2]
      rw [if_pos (show (0 : Int) < ((i % 12 : Nat) : Int) by omega), s3 c1, t _ (by omega), mk1_f c2]
      rw [if_pos (show ((i % 12 : Nat) : Int) < 11 by omega), s4, t _ (by omega), mk1_f d2]
      rw [show ((1 + 0 + 0 + 0 : Int32)) = (0 + 1) from by decide]
      exact go _ ⟨fun q => by omega, fun _ => ⟨_, _, _, (by rw [s2 a1]; exact qa), fun _ => ⟨fun q => by omega, fun _ => ⟨_, _, _, (by rw [s1 b1]; exact qb), fun q => absurd q (by decide), fun _ => ⟨by decide, fun q => by omega, fun _ => ⟨_, _, _, (by rw [s3 c1]; exact qc), fun _ => ⟨by decide, fun q => by omega, fun _ => ⟨_, _, _, (by rw [s4]; exact qd), fun _ => rfl, fun q => absurd rfl q⟩⟩, fun q => absurd rfl q⟩⟩⟩⟩, fun q => absurd rfl q⟩⟩
    · rw [mk1_f a2] at qa
      rw [mk1_f b2] at qb
      rw [mk1_t c2] at qc
      rw [mk1_t d2] at qd
      rw [s1 b1, t _ (by omega), mk1_f b2]
      rw [s2 a1, t _ (by omega), mk1_f a2]
      rw [if_pos (show (0 : Int) < ((i % 12 : Nat) : Int) by omega), s3 c1, t _ (by omega), mk1_t c2]
      rw [if_pos (show ((i % 12 : Nat) : Int) < 11 by omega), s4, t _ (by omega), mk1_t d2]
      rw [show ((0 + 0 + 1 + 1 : Int32)) = ((0 + 1) + 1) from by decide]
      exact go _ ⟨fun q => by omega, fun _ => ⟨_, _, _, (by rw [s2 a1]; exact qa), fun _ => ⟨fun q => by omega, fun _ => ⟨_, _, _, (by rw [s1 b1]; exact qb), fun _ => ⟨by decide, fun q => by omega, fun _ => ⟨_, _, _, (by rw [s3 c1]; exact qc), fun q => absurd q (by decide), fun _ => ⟨by decide, fun q => by omega, fun _ => ⟨_, _, _, (by rw [s4]; exact qd), fun q => absurd q (by decide), fun _ => rfl⟩⟩⟩⟩, fun q => absurd rfl q⟩⟩, fun q => absurd rfl q⟩⟩
    · rw [mk1_f a2] at qa
      rw [mk1_f b2] at qb
      rw [mk1_t c2] at qc
      rw [mk1_f d2] at qd
      rw [s1 b1, t _ (by omega), mk1_f b2]
      rw [s2 a1, t _ (by omega), mk1_f a2]
      rw [if_pos (show (0 : Int) < ((i % 12 : Nat) : Int) by omega), s3 c1, t _ (by omega), mk1_t c2]
      rw [if_pos (show ((i % 12 : Nat) : Int) < 11 by omega), s4, t _ (by omega), mk1_f d2]
      rw [show ((0 + 0 + 1 + 0 : Int32)) = (0 + 1) from by decide]
      exact go _ ⟨fun q => by omega, fun _ => ⟨_, _, _, (by rw [s2 a1]; exact qa), fun _ => ⟨fun q => by omega, fun _ => ⟨_, _, _, (by rw [s1 b1]; exact qb), fun _ => ⟨by decide, fun q => by omega, fun _ => ⟨_, _, _, (by rw [s3 c1]; exact qc), fun q => absurd q (by decide), fun _ => ⟨by decide, fun q => by omega, fun _ => ⟨_, _, _, (by rw [s4]; exact qd), fun _ => rfl, fun q => absurd rfl q⟩⟩⟩⟩, fun q => absurd rfl q⟩⟩, fun q => absurd rfl q⟩⟩
    · rw [mk1_f a2] at qa
      rw [mk1_f b2] at qb
      rw [mk1_f c2] at qc
      rw [mk1_t d2] at qd
      rw [s1 b1, t _ (by omega), mk1_f b2]
      rw [s2 a1, t _ (by omega), mk1_f a2]
      rw [if_pos (show (0 : Int) < ((i % 12 : Nat) : Int) by omega), s3 c1, t _ (by omega), mk1_f c2]
      rw [if_pos (show ((i % 12 : Nat) : Int) < 11 by omega), s4, t _ (by omega), mk1_t d2]
      rw [show ((0 + 0 + 0 + 1 : Int32)) = (0 + 1) from by decide]
      exact go _ ⟨fun q => by omega, fun _ => ⟨_, _, _, (by rw [s2 a1]; exact qa), fun _ => ⟨fun q => by omega, fun _ => ⟨_, _, _, (by rw [s1 b1]; exact qb), fun _ => ⟨by decide, fun q => by omega, fun _ => ⟨_, _, _, (by rw [s3 c1]; exact qc), fun _ => ⟨by decide, fun q => by omega, fun _ => ⟨_, _, _, (by rw [s4]; exact qd), fun q => absurd q (by decide), fun _ => rfl⟩⟩, fun q => absurd rfl q⟩⟩, fun q => absurd rfl q⟩⟩, fun q => absurd rfl q⟩⟩
    · rw [mk1_f a2] at qa
      rw [mk1_f b2] at qb
      rw [mk1_f c2] at qc
      rw [mk1_f d2] at qd
      rw [s1 b1, t _ (by omega), mk1_f b2]
      rw [s2 a1, t _ (by omega), mk1_f a2]
      rw [if_pos (show (0 : Int) < ((i % 12 : Nat) : Int) by omega), s3 c1, t _ (by omega), mk1_f c2]
      rw [if_pos (show ((i % 12 : Nat) : Int) < 11 by omega), s4, t _ (by omega), mk1_f d2]
      rw [show ((0 + 0 + 0 + 0 : Int32)) = 0 from by decide]
      exact go _ ⟨fun q => by omega, fun _ => ⟨_, _, _, (by rw [s2 a1]; exact qa), fun _ => ⟨fun q => by omega, fun _ => ⟨_, _, _, (by rw [s1 b1]; exact qb), fun _ => ⟨by decide, fun q => by omega, fun _ => ⟨_, _, _, (by rw [s3 c1]; exact qc), fun _ => ⟨by decide, fun q => by omega, fun _ => ⟨_, _, _, (by rw [s4]; exact qd), fun _ => rfl, fun q => absurd rfl q⟩⟩, fun q => absurd rfl q⟩⟩, fun q => absurd rfl q⟩⟩, fun q => absurd rfl q⟩⟩
  · skip
    have qa := mIs d (i := i - 12) (z := z) (f := f) (by omega)
    have qb := mIs d (i := i + 12) (z := z) (f := f) (by omega)
    have qc := mIs d (i := i - 1) (z := z) (f := f) (by omega)
    rcases Classical.em (0 < I (f 1 (67 + (i - 12)))) with a2 | a2 <;> rcases Classical.em (0 < I (f 1 (67 + (i + 12)))) with b2 | b2 <;> rcases Classical.em (0 < I (f 1 (67 + (i - 1)))) with c2 | c2
    · rw [mk1_t a2] at qa
      rw [mk1_t b2] at qb
      rw [mk1_t c2] at qc
      rw [s1 b1, t _ (by omega), mk1_t b2]
      rw [s2 a1, t _ (by omega), mk1_t a2]
      rw [if_pos (show (0 : Int) < ((i % 12 : Nat) : Int) by omega), s3 c1, t _ (by omega), mk1_t c2]
      rw [if_neg (show ¬ ((i % 12 : Nat) : Int) < 11 by omega)]
      rw [show ((1 + 1 + 1 + 0 : Int32)) = (((0 + 1) + 1) + 1) from by decide]
      exact go _ ⟨fun q => by omega, fun _ => ⟨_, _, _, (by rw [s2 a1]; exact qa), fun q => absurd q (by decide), fun _ => ⟨fun q => by omega, fun _ => ⟨_, _, _, (by rw [s1 b1]; exact qb), fun q => absurd q (by decide), fun _ => ⟨by decide, fun q => by omega, fun _ => ⟨_, _, _, (by rw [s3 c1]; exact qc), fun q => absurd q (by decide), fun _ => ⟨by decide, fun _ => rfl, fun q => by omega⟩⟩⟩⟩⟩⟩⟩
    · rw [mk1_t a2] at qa
      rw [mk1_t b2] at qb
      rw [mk1_f c2] at qc
      rw [s1 b1, t _ (by omega), mk1_t b2]
      rw [s2 a1, t _ (by omega), mk1_t a2]
      rw [if_pos (show (0 : Int) < ((i % 12 : Nat) : Int) by omega), s3 c1, t _ (by omega), mk1_f c2]
      rw [if_neg (show ¬ ((i % 12 : Nat) : Int) < 11 by omega)]
      rw [show ((1 + 1 + 0 + 0 : Int32)) = ((0 + 1) + 1) from by decide]
      exact go _ ⟨fun q => by omega, fun _ => ⟨_, _, _, (by rw [s2 a1]; exact qa), fun q => absurd q (by decide), fun _ => ⟨fun q => by omega, fun _ => ⟨_, _, _, (by rw [s1 b1]; exact qb), fun q => absurd q (by decide), fun _ => ⟨by decide, fun q => by omega, fun _ => ⟨_, _, _, (by rw [s3 c1]; exact qc), fun _ => ⟨by decide, fun _ => rfl, fun q => by omega⟩, fun q => absurd rfl q⟩⟩⟩⟩⟩⟩
    · rw [mk1_t a2] at qa
      rw [mk1_f b2] at qb
      rw [mk1_t c2] at qc
      rw [s1 b1, t _ (by omega), mk1_f b2]
      rw [s2 a1, t _ (by omega), mk1_t a2]
      rw [if_pos (show (0 : Int) < ((i % 12 : Nat) : Int) by omega), s3 c1, t _ (by omega), mk1_t c2]
      rw [if_neg (show ¬ ((i % 12 : Nat) : Int) < 11 by omega)]
      rw [show ((0 + 1 + 1 + 0 : Int32)) = ((0 + 1) + 1) from by decide]
      exact go _ ⟨fun q => by omega, fun _ => ⟨_, _, _, (by rw [s2 a1]; exact qa), fun q => absurd q (by decide), fun _ => ⟨fun q => by omega, fun _ => ⟨_, _, _, (by rw [s1 b1]; exact qb), fun _ => ⟨by decide, fun q => by omega, fun _ => ⟨_, _, _, (by rw [s3 c1]; exact qc), fun q => absurd q (by decide), fun _ => ⟨by decide, fun _ => rfl, fun q => by omega⟩⟩⟩, fun q => absurd rfl q⟩⟩⟩⟩
    · rw [mk1_t a2] at qa
      rw [mk1_f b2] at qb
      rw [mk1_f c2] at qc
      rw [s1 b1, t _ (by omega), mk1_f b2]
      rw [s2 a1, t _ (by omega), mk1_t a2]
      rw [if_pos (show (0 : Int) < ((i % 12 : Nat) : Int) by omega), s3 c1, t _ (by omega), mk1_f c2]
      rw [if_neg (show ¬ ((i % 12 : Nat) : Int) < 11 by omega)]
      rw [show ((0 + 1 + 0 + 0 : Int32)) = (0 + 1) from by decide]
      exact go _ ⟨fun q => by omega, fun _ => ⟨_, _, _, (by rw [s2 a1]; exact qa), fun q => absurd q (by decide), fun _ => ⟨fun q => by omega, fun _ => ⟨_, _, _, (by rw [s1 b1]; exact qb), fun _ => ⟨by decide, fun q => by omega, fun _ => ⟨_, _, _, (by rw [s3 c1]; exact qc), fun _ => ⟨by decide, fun _ => rfl, fun q => by omega⟩, fun q => absurd rfl q⟩⟩, fun q => absurd rfl q⟩⟩⟩⟩
    · rw [mk1_f a2] at qa
      rw [mk1_t b2] at qb
      rw [mk1_t c2] at qc
      rw [s1 b1, t _ (by omega), mk1_t b2]
      rw [s2 a1, t _ (by omega), mk1_f a2]
      rw [if_pos (show (0 : Int) < ((i % 12 : Nat) : Int) by omega), s3 c1, t _ (by omega), mk1_t c2]
      rw [if_neg (show ¬ ((i % 12 : Nat) : Int) < 11 by omega)]
      rw [show ((1 + 0 + 1 + 0 : Int32)) = ((0 + 1) + 1) from by decide]
      exact go _ ⟨fun q => by omega, fun _ => ⟨_, _, _, (by rw [s2 a1]; exact qa), fun _ => ⟨fun q => by omega, fun _ => ⟨_, _, _, (by rw [s1 b1]; exact qb), fun q => absurd q (by decide), fun _ => ⟨by decide, fun q => by omega, fun _ => ⟨_, _, _, (by rw [s3 c1]; exact qc), fun q => absurd q (by decide), fun _ => ⟨by decide, fun _ => rfl, fun q => by omega⟩⟩⟩⟩⟩, fun q => absurd rfl q⟩⟩
    · rw [mk1_f a2] at qa
      rw [mk1_t b2] at qb
      rw [mk1_f c2] at qc
      rw [s1 b1, t _ (by omega), mk1_t b2]
      rw [s2 a1, t _ (by omega), mk1_f a2]
      rw [if_pos (show (0 : Int) < ((i % 12 : Nat) : Int) by omega), s3 c1, t _ (by omega), mk1_f c2]
      rw [if_neg (show ¬ ((i % 12 : Nat) : Int) < 11 by omega)]
      rw [show ((1 + 0 + 0 + 0 : Int32)) = (0 + 1) from by decide]
      exact go _ ⟨fun q => by omega, fun _ => ⟨_, _, _, (by rw [s2 a1]; exact qa), fun _ => ⟨fun q => by omega, fun _ => ⟨_, _, _, (by rw [s1 b1]; exact qb), fun q => absurd q (by decide), fun _ => ⟨by decide, fun q => by omega, fun _ => ⟨_, _, _, (by rw [s3 c1]; exact qc), fun _ => ⟨by decide, fun _ => rfl, fun q => by omega⟩, fun q => absurd rfl q⟩⟩⟩⟩, fun q => absurd rfl q⟩⟩
    · rw [mk1_f a2] at qa
      rw [mk1_f b2] at qb
      rw [mk1_t c2] at qc
      rw [s1 b1, t _ (by omega), mk1_f b2]
      rw [s2 a1, t _ (by omega), mk1_f a2]
      rw [if_pos (show (0 : Int) < ((i % 12 : Nat) : Int) by omega), s3 c1, t _ (by omega), mk1_t c2]
      rw [if_neg (show ¬ ((i % 12 : Nat) : Int) < 11 by omega)]
      rw [show ((0 + 0 + 1 + 0 : Int32)) = (0 + 1) from by decide]
      exact go _ ⟨fun q => by omega, fun _ => ⟨_, _, _, (by rw [s2 a1]; exact qa), fun _ => ⟨fun q => by omega, fun _ => ⟨_, _, _, (by rw [s1 b1]; exact qb), fun _ => ⟨by decide, fun q => by omega, fun _ => ⟨_, _, _, (by rw [s3 c1]; exact qc), fun q => absurd q (by decide), fun _ => ⟨by decide, fun _ => rfl, fun q => by omega⟩⟩⟩, fun q => absurd rfl q⟩⟩, fun q => absurd rfl q⟩⟩
    · rw [mk1_f a2] at qa
      rw [mk1_f b2] at qb
      rw [mk1_f c2] at qc
      rw [s1 b1, t _ (by omega), mk1_f b2]
      rw [s2 a1, t _ (by omega), mk1_f a2]
      rw [if_pos (show (0 : Int) < ((i % 12 : Nat) : Int) by omega), s3 c1, t _ (by omega), mk1_f c2]
      rw [if_neg (show ¬ ((i % 12 : Nat) : Int) < 11 by omega)]
      rw [show ((0 + 0 + 0 + 0 : Int32)) = 0 from by decide]
      exact go _ ⟨fun q => by omega, fun _ => ⟨_, _, _, (by rw [s2 a1]; exact qa), fun _ => ⟨fun q => by omega, fun _ => ⟨_, _, _, (by rw [s1 b1]; exact qb), fun _ => ⟨by decide, fun q => by omega, fun _ => ⟨_, _, _, (by rw [s3 c1]; exact qc), fun _ => ⟨by decide, fun _ => rfl, fun q => by omega⟩, fun q => absurd rfl q⟩⟩, fun q => absurd rfl q⟩⟩, fun q => absurd rfl q⟩⟩
  · skip
    have qa := mIs d (i := i - 12) (z := z) (f := f) (by omega)
    have qb := mIs d (i := i + 12) (z := z) (f := f) (by omega)
    have qd := mIs d (i := i + 1) (z := z) (f := f) (by omega)
    rcases Classical.em (0 < I (f 1 (67 + (i - 12)))) with a2 | a2 <;> rcases Classical.em (0 < I (f 1 (67 + (i + 12)))) with b2 | b2 <;> rcases Classical.em (0 < I (f 1 (67 + (i + 1)))) with d2 | d2
    · rw [mk1_t a2] at qa
      rw [mk1_t b2] at qb
      rw [mk1_t d2] at qd
      rw [s1 b1, t _ (by omega), mk1_t b2]
      rw [s2 a1, t _ (by omega), mk1_t a2]
      rw [if_neg (show ¬ (0 : Int) < ((i % 12 : Nat) : Int) by omega)]
      rw [if_pos (show ((i % 12 : Nat) : Int) < 11 by omega), s4, t _ (by omega), mk1_t d2]
      rw [show ((1 + 1 + 0 + 1 : Int32)) = (((0 + 1) + 1) + 1) from by decide]
      exact go _ ⟨fun q => by omega, fun _ => ⟨_, _, _, (by rw [s2 a1]; exact qa), fun q => absurd q (by decide), fun _ => ⟨fun q => by omega, fun _ => ⟨_, _, _, (by rw [s1 b1]; exact qb), fun q => absurd q (by decide), fun _ => ⟨by decide, fun _ => ⟨by decide, fun q => by omega, fun _ => ⟨_, _, _, (by rw [s4]; exact qd), fun q => absurd q (by decide), fun _ => rfl⟩⟩, fun q => by omega⟩⟩⟩⟩⟩
    · rw [mk1_t a2] at qa
      rw [mk1_t b2] at qb
      rw [mk1_f d2] at qd
      rw [s1 b1, t _ (by omega), mk1_t b2]
      rw [s2 a1, t _ (by omega), mk1_t a2]
      rw [if_neg (show ¬ (0 : Int) < ((i % 12 : Nat) : Int) by omega)]
      rw [if_pos (show ((i % 12 : Nat) : Int) < 11 by omega), s4, t _ (by omega), mk1_f d2]
      rw [show ((1 + 1 + 0 + 0 : Int32)) = ((0 + 1) + 1) from by decide]
      exact go _ ⟨fun q => by omega, fun _ => ⟨_, _, _, (by rw [s2 a1]; exact qa), fun q => absurd q (by decide), fun _ => ⟨fun q => by omega, fun _ => ⟨_, _, _, (by rw [s1 b1]; exact qb), fun q => absurd q (by decide), fun _ => ⟨by decide, fun _ => ⟨by decide, fun q => by omega, fun _ => ⟨_, _, _, (by rw [s4]; exact qd), fun _ => rfl, fun q => absurd rfl q⟩⟩, fun q => by omega⟩⟩⟩⟩⟩
    · rw [mk1_t a2] at qa
      rw [mk1_f b2] at qb
      rw [mk1_t d2] at qd
      rw [s1 b1, t _ (by omega), mk1_f b2]
      rw [s2 a1, t _ (by omega), mk1_t a2]
      rw [if_neg (show ¬ (0 : Int) < ((i % 12 : Nat) : Int) by omega)]
      rw [if_pos (show ((i % 12 : Nat) : Int) < 11 by omega), s4, t _ (by omega), mk1_t d2]
      rw [show ((0 + 1 + 0 + 1 : Int32)) = ((0 + 1) + 1) from by decide]
      exact go _ ⟨fun q => by omega, fun _ => ⟨_, _, _, (by rw [s2 a1]; exact qa), fun q => absurd q (by decide), fun _ => ⟨fun q => by omega, fun _ => ⟨_, _, _, (by rw [s1 b1]; exact qb), fun _ => ⟨by decide, fun _ => ⟨by decide, fun q => by omega, fun _ => ⟨_, _, _, (by rw [s4]; exact qd), fun q => absurd q (by decide), fun _ => rfl⟩⟩, fun q => by omega⟩, fun q => absurd rfl q⟩⟩⟩⟩
    · rw [mk1_t a2] at qa
      rw [mk1_f b2] at qb
      rw [mk1_f d2] at qd
      rw [s1 b1, t _ (by omega), mk1_f b2]
      rw [s2 a1, t _ (by omega), mk1_t a2]
      rw [if_neg (show ¬ (0 : Int) < ((i % 12 : Nat) : Int) by omega)]
      rw [if_pos (show ((i % 12 : Nat) : Int) < 11 by omega), s4, t _ (by omega), mk1_f d2]
      rw [show ((0 + 1 + 0 + 0 : Int32)) = (0 + 1) from by decide]
      exact go _ ⟨fun q => by omega, fun _ => ⟨_, _, _, (by rw [s2 a1]; exact qa), fun q => absurd q (by decide), fun _ => ⟨fun q => by omega, fun _ => ⟨_, _, _, (by rw [s1 b1]; exact qb), fun _ => ⟨by decide, fun _ => ⟨by decide, fun q => by omega, fun _ => ⟨_, _, _, (by rw [s4]; exact qd), fun _ => rfl, fun q => absurd rfl q⟩⟩, fun q => by omega⟩, fun q => absurd rfl q⟩⟩⟩⟩
    · rw [mk1_f a2] at qa
      rw [mk1_t b2] at qb
      rw [mk1_t d2] at qd
      rw [s1 b1, t _ (by omega), mk1_t b2]
      rw [s2 a1, t _ (by omega), mk1_f a2]
      rw [if_neg (show ¬ (0 : Int) < ((i % 12 : Nat) : Int) by omega)]
      rw [if_pos (show ((i % 12 : Nat) : Int) < 11 by omega), s4, t _ (by omega), mk1_t d2]
      rw [show ((1 + 0 + 0 + 1 : Int32)) = ((0 + 1) + 1) from by decide]
      exact go _ ⟨fun q => by omega, fun _ => ⟨_, _, _, (by rw [s2 a1]; exact qa), fun _ => ⟨fun q => by omega, fun _ => ⟨_, _, _, (by rw [s1 b1]; exact qb), fun q => absurd q (by decide), fun _ => ⟨by decide, fun _ => ⟨by decide, fun q => by omega, fun _ => ⟨_, _, _, (by rw [s4]; exact qd), fun q => absurd q (by decide), fun _ => rfl⟩⟩, fun q => by omega⟩⟩⟩, fun q => absurd rfl q⟩⟩
    · rw [mk1_f a2] at qa
      rw [mk1_t b2] at qb
      rw [mk1_f d2] at qd
      rw [s1 b1, t _ (by omega), mk1_t b2]
      rw [s2 a1, t _ (by omega), mk1_f a2]
      rw [if_neg (show ¬ (0 : Int) < ((i % 12 : Nat) : Int) by omega)]
      rw [if_pos (show ((i % 12 : Nat) : Int) < 11 by omega), s4, t _ (by omega), mk1_f d2]
      rw [show ((1 + 0 + 0 + 0 : Int32)) = (0 + 1) from by decide]
      exact go _ ⟨fun q => by omega, fun _ => ⟨_, _, _, (by rw [s2 a1]; exact qa), fun _ => ⟨fun q => by omega, fun _ => ⟨_, _, _, (by rw [s1 b1]; exact qb), fun q => absurd q (by decide), fun _ => ⟨by decide, fun _ => ⟨by decide, fun q => by omega, fun _ => ⟨_, _, _, (by rw [s4]; exact qd), fun _ => rfl, fun q => absurd rfl q⟩⟩, fun q => by omega⟩⟩⟩, fun q => absurd rfl q⟩⟩
    · rw [mk1_f a2] at qa
      rw [mk1_f b2] at qb
      rw [mk1_t d2] at qd
      rw [s1 b1, t _ (by omega), mk1_f b2]
      rw [s2 a1, t _ (by omega), mk1_f a2]
      rw [if_neg (show ¬ (0 : Int) < ((i % 12 : Nat) : Int) by omega)]
      rw [if_pos (show ((i % 12 : Nat) : Int) < 11 by omega), s4, t _ (by omega), mk1_t d2]
      rw [show ((0 + 0 + 0 + 1 : Int32)) = (0 + 1) from by decide]
      exact go _ ⟨fun q => by omega, fun _ => ⟨_, _, _, (by rw [s2 a1]; exact qa), fun _ => ⟨fun q => by omega, fun _ => ⟨_, _, _, (by rw [s1 b1]; exact qb), fun _ => ⟨by decide, fun _ => ⟨by decide, fun q => by omega, fun _ => ⟨_, _, _, (by rw [s4]; exact qd), fun q => absurd q (by decide), fun _ => rfl⟩⟩, fun q => by omega⟩, fun q => absurd rfl q⟩⟩, fun q => absurd rfl q⟩⟩
    · rw [mk1_f a2] at qa
      rw [mk1_f b2] at qb
      rw [mk1_f d2] at qd
      rw [s1 b1, t _ (by omega), mk1_f b2]
      rw [s2 a1, t _ (by omega), mk1_f a2]
      rw [if_neg (show ¬ (0 : Int) < ((i % 12 : Nat) : Int) by omega)]
      rw [if_pos (show ((i % 12 : Nat) : Int) < 11 by omega), s4, t _ (by omega), mk1_f d2]
      rw [show ((0 + 0 + 0 + 0 : Int32)) = 0 from by decide]
      exact go _ ⟨fun q => by omega, fun _ => ⟨_, _, _, (by rw [s2 a1]; exact qa), fun _ => ⟨fun q => by omega, fun _ => ⟨_, _, _, (by rw [s1 b1]; exact qb), fun _ => ⟨by decide, fun _ => ⟨by decide, fun q => by omega, fun _ => ⟨_, _, _, (by rw [s4]; exact qd), fun _ => rfl, fun q => absurd rfl q⟩⟩, fun q => by omega⟩, fun q => absurd rfl q⟩⟩, fun q => absurd rfl q⟩⟩
  · skip
    have qa := mIs d (i := i - 12) (z := z) (f := f) (by omega)
    have qb := mIs d (i := i + 12) (z := z) (f := f) (by omega)
    rcases Classical.em (0 < I (f 1 (67 + (i - 12)))) with a2 | a2 <;> rcases Classical.em (0 < I (f 1 (67 + (i + 12)))) with b2 | b2
    · rw [mk1_t a2] at qa
      rw [mk1_t b2] at qb
      rw [s1 b1, t _ (by omega), mk1_t b2]
      rw [s2 a1, t _ (by omega), mk1_t a2]
      rw [if_neg (show ¬ (0 : Int) < ((i % 12 : Nat) : Int) by omega)]
      rw [if_neg (show ¬ ((i % 12 : Nat) : Int) < 11 by omega)]
      rw [show ((1 + 1 + 0 + 0 : Int32)) = ((0 + 1) + 1) from by decide]
      exact go _ ⟨fun q => by omega, fun _ => ⟨_, _, _, (by rw [s2 a1]; exact qa), fun q => absurd q (by decide), fun _ => ⟨fun q => by omega, fun _ => ⟨_, _, _, (by rw [s1 b1]; exact qb), fun q => absurd q (by decide), fun _ => ⟨by decide, fun _ => ⟨by decide, fun _ => rfl, fun q => by omega⟩, fun q => by omega⟩⟩⟩⟩⟩
    · rw [mk1_t a2] at qa
      rw [mk1_f b2] at qb
      rw [s1 b1, t _ (by omega), mk1_f b2]
      rw [s2 a1, t _ (by omega), mk1_t a2]
      rw [if_neg (show ¬ (0 : Int) < ((i % 12 : Nat) : Int) by omega)]
      rw [if_neg (show ¬ ((i % 12 : Nat) : Int) < 11 by omega)]
      rw [show ((0 + 1 + 0 + 0 : Int32)) = (0 + 1) from by decide]
      exact go _ ⟨fun q => by omega, fun _ => ⟨_, _, _, (by rw [s2 a1]; exact qa), fun q => absurd q (by decide), fun _ => ⟨fun q => by omega, fun _ => ⟨_, _, _, (by rw [s1 b1]; exact qb), fun _ => ⟨by decide, fun _ => ⟨by decide, fun _ => rfl, fun q => by omega⟩, fun q => by omega⟩, fun q => absurd rfl q⟩⟩⟩⟩
    · rw [mk1_f a2] at qa
      rw [mk1_t b2] at qb
      rw [s1 b1, t _ (by omega), mk1_t b2]
      rw [s2 a1, t _ (by omega), mk1_f a2]
      rw [if_neg (show ¬ (0 : Int) < ((i % 12 : Nat) : Int) by omega)]
      rw [if_neg (show ¬ ((i % 12 : Nat) : Int) < 11 by omega)]
      rw [show ((1 + 0 + 0 + 0 : Int32)) = (0 + 1) from by decide]
      exact go _ ⟨fun q => by omega, fun _ => ⟨_, _, _, (by rw [s2 a1]; exact qa), fun _ => ⟨fun q => by omega, fun _ => ⟨_, _, _, (by rw [s1 b1]; exact qb), fun q => absurd q (by decide), fun _ => ⟨by decide, fun _ => ⟨by decide, fun _ => rfl, fun q => by omega⟩, fun q => by omega⟩⟩⟩, fun q => absurd rfl q⟩⟩
    · rw [mk1_f a2] at qa
      rw [mk1_f b2] at qb
      rw [s1 b1, t _ (by omega), mk1_f b2]
      rw [s2 a1, t _ (by omega), mk1_f a2]
      rw [if_neg (show ¬ (0 : Int) < ((i % 12 : Nat) : Int) by omega)]
      rw [if_neg (show ¬ ((i % 12 : Nat) : Int) < 11 by omega)]
      rw [show ((0 + 0 + 0 + 0 : Int32)) = 0 from by decide]
      exact go _ ⟨fun q => by omega, fun _ => ⟨_, _, _, (by rw [s2 a1]; exact qa), fun _ => ⟨fun q => by omega, fun _ => ⟨_, _, _, (by rw [s1 b1]; exact qb), fun _ => ⟨by decide, fun _ => ⟨by decide, fun _ => rfl, fun q => by omega⟩, fun q => by omega⟩, fun q => absurd rfl q⟩⟩, fun q => absurd rfl q⟩⟩
  · skip
    have qa := mIs d (i := i - 12) (z := z) (f := f) (by omega)
    have qc := mIs d (i := i - 1) (z := z) (f := f) (by omega)
    have qd := mIs d (i := i + 1) (z := z) (f := f) (by omega)
    rcases Classical.em (0 < I (f 1 (67 + (i - 12)))) with a2 | a2 <;> rcases Classical.em (0 < I (f 1 (67 + (i - 1)))) with c2 | c2 <;> rcases Classical.em (0 < I (f 1 (67 + (i + 1)))) with d2 | d2
    · rw [mk1_t a2] at qa
      rw [mk1_t c2] at qc
      rw [mk1_t d2] at qd
      rw [o1 b1]
      rw [s2 a1, t _ (by omega), mk1_t a2]
      rw [if_pos (show (0 : Int) < ((i % 12 : Nat) : Int) by omega), s3 c1, t _ (by omega), mk1_t c2]
      rw [if_pos (show ((i % 12 : Nat) : Int) < 11 by omega), s4, t _ (by omega), mk1_t d2]
      rw [show ((0 + 1 + 1 + 1 : Int32)) = (((0 + 1) + 1) + 1) from by decide]
      exact go _ ⟨fun q => by omega, fun _ => ⟨_, _, _, (by rw [s2 a1]; exact qa), fun q => absurd q (by decide), fun _ => ⟨fun _ => ⟨by decide, fun q => by omega, fun _ => ⟨_, _, _, (by rw [s3 c1]; exact qc), fun q => absurd q (by decide), fun _ => ⟨by decide, fun q => by omega, fun _ => ⟨_, _, _, (by rw [s4]; exact qd), fun q => absurd q (by decide), fun _ => rfl⟩⟩⟩⟩, fun q => by omega⟩⟩⟩
    · rw [mk1_t a2] at qa
      rw [mk1_t c2] at qc
      rw [mk1_f d2] at qd
      rw [o1 b1]
      rw [s2 a1, t _ (by omega), mk1_t a2]
      rw [if_pos (show (0 : Int) < ((i % 12 : Nat) : Int) by omega), s3 c1, t _ (by omega), mk1_t c2]
      rw [if_pos (show ((i % 12 : Nat) : Int) < 11 by omega), s4, t _ (by omega), mk1_f d2]
      rw [show ((0 + 1 + 1 + 0 : Int32)) = ((0 + 1) + 1) from by decide]
      exact go _ ⟨fun q => by omega, fun _ => ⟨_, _, _, (by rw [s2 a1]; exact qa), fun q => absurd q (by decide), fun _ => ⟨fun _ => ⟨by decide, fun q => by omega, fun _ => ⟨_, _, _, (by rw [s3 c1]; exact qc), fun q => absurd q (by decide), fun _ => ⟨by decide, fun q => by omega, fun _ => ⟨_, _, _, (by rw [s4]; exact qd), fun _ => rfl, fun q => absurd rfl q⟩⟩⟩⟩, fun q => by omega⟩⟩⟩
    · rw [mk1_t a2] at qa
      rw [mk1_f c2] at qc
      rw [mk1_t d2] at qd
      rw [o1 b1]
      rw [s2 a1, t _ (by omega), mk1_t a2]
      rw [if_pos (show (0 : Int) < ((i % 12 : Nat) : Int) by omega), s3 c1, t _ (by omega), mk1_f c2]
      rw [if_pos (show ((i % 12 : Nat) : Int) < 11 by omega), s4, t _ (by omega), mk1_t d2]
      rw [show ((0 + 1 + 0 + 1 : Int32)) = ((0 + 1) + 1) from by decide]
      exact go _ ⟨fun q => by omega, fun _ => ⟨_, _, _, (by rw [s2 a1]; exact qa), fun q => absurd q (by decide), fun _ => ⟨fun _ => ⟨by decide, fun q => by omega, fun _ => ⟨_, _, _, (by rw [s3 c1]; exact qc), fun _ => ⟨by decide, fun q => by omega, fun _ => ⟨_, _, _, (by rw [s4]; exact qd), fun q => absurd q (by decide), fun _ => rfl⟩⟩, fun q => absurd rfl q⟩⟩, fun q => by omega⟩⟩⟩
    · rw [mk1_t a2] at qa
      rw [mk1_f c2] at qc
      rw [mk1_f d2] at qd
      rw [o1 b1]
      rw [s2 a1, t _ (by omega), mk1_t a2]
      rw [if_pos (show (0 : Int) < ((i % 12 : Nat) : Int) by omega), s3 c1, t _ (by omega), mk1_f c2]
      rw [if_pos (show ((i % 12 : Nat) : Int) < 11 by omega), s4, t _ (by omega), mk1_f d2]
      rw [show ((0 + 1 + 0 + 0 : Int32)) = (0 + 1) from by decide]
      exact go _ ⟨fun q => by omega, fun _ => ⟨_, _, _, (by rw [s2 a1]; exact qa), fun q => absurd q (by decide), fun _ => ⟨fun _ => ⟨by decide, fun q => by omega, fun _ => ⟨_, _, _, (by rw [s3 c1]; exact qc), fun _ => ⟨by decide, fun q => by omega, fun _ => ⟨_, _, _, (by rw [s4]; exact qd), fun _ => rfl, fun q => absurd rfl q⟩⟩, fun q => absurd rfl q⟩⟩, fun q => by omega⟩⟩⟩
    · rw [mk1_f a2] at qa
      rw [mk1_t c2] at qc
      rw [mk1_t d2] at qd
      rw [o1 b1]
      rw [s2 a1, t _ (by omega), mk1_f a2]
      rw [if_pos (show (0 : Int) < ((i % 12 : Nat) : Int) by omega), s3 c1, t _ (by omega), mk1_t c2]
      rw [if_pos (show ((i % 12 : Nat) : Int) < 11 by omega), s4, t _ (by omega), mk1_t d2]
      rw [show ((0 + 0 + 1 + 1 : Int32)) = ((0 + 1) + 1) from by decide]
      exact go _ ⟨fun q => by omega, fun _ => ⟨_, _, _, (by rw [s2 a1]; exact qa), fun _ => ⟨fun _ => ⟨by decide, fun q => by omega, fun _ => ⟨_, _, _, (by rw [s3 c1]; exact qc), fun q => absurd q (by decide), fun _ => ⟨by decide, fun q => by omega, fun _ => ⟨_, _, _, (by rw [s4]; exact qd), fun q => absurd q (by decide), fun _ => rfl⟩⟩⟩⟩, fun q => by omega⟩, fun q => absurd rfl q⟩⟩
    · rw [mk1_f a2] at qa
      rw [mk1_t c2] at qc
      rw [mk1_f d2] at qd
      rw [o1 b1]
      rw [s2 a1, t _ (by omega), mk1_f a2]
      rw [if_pos (show (0 : Int) < ((i % 12 : Nat) : Int) by omega), s3 c1, t _ (by omega), mk1_t c2]
      rw [if_pos (show ((i % 12 : Nat) : Int) < 11 by omega), s4, t _ (by omega), mk1_f d2]
      rw [show ((0 + 0 + 1 + 0 : Int32)) = (0 + 1) from by decide]
      exact go _ ⟨fun q => by omega, fun _ => ⟨_, _, _, (by rw [s2 a1]; exact qa), fun _ => ⟨fun _ => ⟨by decide, fun q => by omega, fun _ => ⟨_, _, _, (by rw [s3 c1]; exact qc), fun q => absurd q (by decide), fun _ => ⟨by decide, fun q => by omega, fun _ => ⟨_, _, _, (by rw [s4]; exact qd), fun _ => rfl, fun q => absurd rfl q⟩⟩⟩⟩, fun q => by omega⟩, fun q => absurd rfl q⟩⟩
    · rw [mk1_f a2] at qa
      rw [mk1_f c2] at qc
      rw [mk1_t d2] at qd
      rw [o1 b1]
      rw [s2 a1, t _ (by omega), mk1_f a2]
      rw [if_pos (show (0 : Int) < ((i % 12 : Nat) : Int) by omega), s3 c1, t _ (by omega), mk1_f c2]
      rw [if_pos (show ((i % 12 : Nat) : Int) < 11 by omega), s4, t _ (by omega), mk1_t d2]
      rw [show ((0 + 0 + 0 + 1 : Int32)) = (0 + 1) from by decide]
      exact go _ ⟨fun q => by omega, fun _ => ⟨_, _, _, (by rw [s2 a1]; exact qa), fun _ => ⟨fun _ => ⟨by decide, fun q => by omega, fun _ => ⟨_, _, _, (by rw [s3 c1]; exact qc), fun _ => ⟨by decide, fun q => by omega, fun _ => ⟨_, _, _, (by rw [s4]; exact qd), fun q => absurd q (by decide), fun _ => rfl⟩⟩, fun q => absurd rfl q⟩⟩, fun q => by omega⟩, fun q => absurd rfl q⟩⟩
    · rw [mk1_f a2] at qa
      rw [mk1_f c2] at qc
      rw [mk1_f d2] at qd
      rw [o1 b1]
      rw [s2 a1, t _ (by omega), mk1_f a2]
      rw [if_pos (show (0 : Int) < ((i % 12 : Nat) : Int) by omega), s3 c1, t _ (by omega), mk1_f c2]
      rw [if_pos (show ((i % 12 : Nat) : Int) < 11 by omega), s4, t _ (by omega), mk1_f d2]
      rw [show ((0 + 0 + 0 + 0 : Int32)) = 0 from by decide]
      exact go _ ⟨fun q => by omega, fun _ => ⟨_, _, _, (by rw [s2 a1]; exact qa), fun _ => ⟨fun _ => ⟨by decide, fun q => by omega, fun _ => ⟨_, _, _, (by rw [s3 c1]; exact qc), fun _ => ⟨by decide, fun q => by omega, fun _ => ⟨_, _, _, (by rw [s4]; exact qd), fun _ => rfl, fun q => absurd rfl q⟩⟩, fun q => absurd rfl q⟩⟩, fun q => by omega⟩, fun q => absurd rfl q⟩⟩
  · skip
    have qa := mIs d (i := i - 12) (z := z) (f := f) (by omega)
    have qc := mIs d (i := i - 1) (z := z) (f := f) (by omega)
    rcases Classical.em (0 < I (f 1 (67 + (i - 12)))) with a2 | a2 <;> rcases Classical.em (0 < I (f 1 (67 + (i - 1)))) with c2 | c2
    · rw [mk1_t a2] at qa
      rw [mk1_t c2] at qc
      rw [o1 b1]
      rw [s2 a1, t _ (by omega), mk1_t a2]
      rw [if_pos (show (0 : Int) < ((i % 12 : Nat) : Int) by omega), s3 c1, t _ (by omega), mk1_t c2]
      rw [if_neg (show ¬ ((i % 12 : Nat) : Int) < 11 by omega)]
      rw [show ((0 + 1 + 1 + 0 : Int32)) = ((0 + 1) + 1) from by decide]
      exact go _ ⟨fun q => by omega, fun _ => ⟨_, _, _, (by rw [s2 a1]; exact qa), fun q => absurd q (by decide), fun _ => ⟨fun _ => ⟨by decide, fun q => by omega, fun _ => ⟨_, _, _, (by rw [s3 c1]; exact qc), fun q => absurd q (by decide), fun _ => ⟨by decide, fun _ => rfl, fun q => by omega⟩⟩⟩, fun q => by omega⟩⟩⟩
    · rw [mk1_t a2] at qa
      rw [mk1_f c2] at qc
      rw [o1 b1]
      rw [s2 a1, t _ (by omega), mk1_t a2]
      rw [if_pos (show (0 : Int) < ((i % 12 : Nat) : Int) by omega), s3 c1, t _ (by omega), mk1_f c2]
      rw [if_neg (show ¬ ((i % 12 : Nat) : Int) < 11 by omega)]
      rw [show ((0 + 1 + 0 + 0 : Int32)) = (0 + 1) from by decide]
      exact go _ ⟨fun q => by omega, fun _ => ⟨_, _, _, (by rw [s2 a1]; exact qa), fun q => absurd q (by decide), fun _ => ⟨fun _ => ⟨by decide, fun q => by omega, fun _ => ⟨_, _, _, (by rw [s3 c1]; exact qc), fun _ => ⟨by decide, fun _ => rfl, fun q => by omega⟩, fun q => absurd rfl q⟩⟩, fun q => by omega⟩⟩⟩
    · rw [mk1_f a2] at qa
      rw [mk1_t c2] at qc
      rw [o1 b1]
      rw [s2 a1, t _ (by omega), mk1_f a2]
      rw [if_pos (show (0 : Int) < ((i % 12 : Nat) : Int) by omega), s3 c1, t _ (by omega), mk1_t c2]
      rw [if_neg (show ¬ ((i % 12 : Nat) : Int) < 11 by omega)]
      rw [show ((0 + 0 + 1 + 0 : Int32)) = (0 + 1) from by decide]
      exact go _ ⟨fun q => by omega, fun _ => ⟨_, _, _, (by rw [s2 a1]; exact qa), fun _ => ⟨fun _ => ⟨by decide, fun q => by omega, fun _ => ⟨_, _, _, (by rw [s3 c1]; exact qc), fun q => absurd q (by decide), fun _ => ⟨by decide, fun _ => rfl, fun q => by omega⟩⟩⟩, fun q => by omega⟩, fun q => absurd rfl q⟩⟩
    · rw [mk1_f a2] at qa
      rw [mk1_f c2] at qc
      rw [o1 b1]
      rw [s2 a1, t _ (by omega), mk1_f a2]
      rw [if_pos (show (0 : Int) < ((i % 12 : Nat) : Int) by omega), s3 c1, t _ (by omega), mk1_f c2]
      rw [if_neg (show ¬ ((i % 12 : Nat) : Int) < 11 by omega)]
      rw [show ((0 + 0 + 0 + 0 : Int32)) = 0 from by decide]
      exact go _ ⟨fun q => by omega, fun _ => ⟨_, _, _, (by rw [s2 a1]; exact qa), fun _ => ⟨fun _ => ⟨by decide, fun q => by omega, fun _ => ⟨_, _, _, (by rw [s3 c1]; exact qc), fun _ => ⟨by decide, fun _ => rfl, fun q => by omega⟩, fun q => absurd rfl q⟩⟩, fun q => by omega⟩, fun q => absurd rfl q⟩⟩
  · skip
    have qa := mIs d (i := i - 12) (z := z) (f := f) (by omega)
    have qd := mIs d (i := i + 1) (z := z) (f := f) (by omega)
    rcases Classical.em (0 < I (f 1 (67 + (i - 12)))) with a2 | a2 <;> rcases Classical.em (0 < I (f 1 (67 + (i + 1)))) with d2 | d2
    · rw [mk1_t a2] at qa
      rw [mk1_t d2] at qd
      rw [o1 b1]
      rw [s2 a1, t _ (by omega), mk1_t a2]
      rw [if_neg (show ¬ (0 : Int) < ((i % 12 : Nat) : Int) by omega)]
      rw [if_pos (show ((i % 12 : Nat) : Int) < 11 by omega), s4, t _ (by omega), mk1_t d2]
      rw [show ((0 + 1 + 0 + 1 : Int32)) = ((0 + 1) + 1) from by decide]
      exact go _ ⟨fun q => by omega, fun _ => ⟨_, _, _, (by rw [s2 a1]; exact qa), fun q => absurd q (by decide), fun _ => ⟨fun _ => ⟨by decide, fun _ => ⟨by decide, fun q => by omega, fun _ => ⟨_, _, _, (by rw [s4]; exact qd), fun q => absurd q (by decide), fun _ => rfl⟩⟩, fun q => by omega⟩, fun q => by omega⟩⟩⟩
    · rw [mk1_t a2] at qa
      rw [mk1_f d2] at qd
      rw [o1 b1]
      rw [s2 a1, t _ (by omega), mk1_t a2]
      rw [if_neg (show ¬ (0 : Int) < ((i % 12 : Nat) : Int) by omega)]
      rw [if_pos (show ((i % 12 : Nat) : Int) < 11 by omega), s4, t _ (by omega), mk1_f d2]
      rw [show ((0 + 1 + 0 + 0 : Int32)) = (0 + 1) from by decide]
      exact go _ ⟨fun q => by omega, fun _ => ⟨_, _, _, (by rw [s2 a1]; exact qa), fun q => absurd q (by decide), fun _ => ⟨fun _ => ⟨by decide, fun _ => ⟨by decide, fun q => by omega, fun _ => ⟨_, _, _, (by rw [s4]; exact qd), fun _ => rfl, fun q => absurd rfl q⟩⟩, fun q => by omega⟩, fun q => by omega⟩⟩⟩
    · rw [mk1_f a2] at qa
      rw [mk1_t d2] at qd
      rw [o1 b1]
      rw [s2 a1, t _ (by omega), mk1_f a2]
      rw [if_neg (show ¬ (0 : Int) < ((i % 12 : Nat) : Int) by omega)]
      rw [if_pos (show ((i % 12 : Nat) : Int) < 11 by omega), s4, t _ (by omega), mk1_t d2]
      rw [show ((0 + 0 + 0 + 1 : Int32)) = (0 + 1) from by decide]
      exact go _ ⟨fun q => by omega, fun _ => ⟨_, _, _, (by rw [s2 a1]; exact qa), fun _ => ⟨fun _ => ⟨by decide, fun _ => ⟨by decide, fun q => by omega, fun _ => ⟨_, _, _, (by rw [s4]; exact qd), fun q => absurd q (by decide), fun _ => rfl⟩⟩, fun q => by omega⟩, fun q => by omega⟩, fun q => absurd rfl q⟩⟩
    · rw [mk1_f a2] at qa
      rw [mk1_f d2] at qd
      rw [o1 b1]
      rw [s2 a1, t _ (by omega), mk1_f a2]
      rw [if_neg (show ¬ (0 : Int) < ((i % 12 : Nat) : Int) by omega)]
      rw [if_pos (show ((i % 12 : Nat) : Int) < 11 by omega), s4, t _ (by omega), mk1_f d2]
      rw [show ((0 + 0 + 0 + 0 : Int32)) = 0 from by decide]
      exact go _ ⟨fun q => by omega, fun _ => ⟨_, _, _, (by rw [s2 a1]; exact qa), fun _ => ⟨fun _ => ⟨by decide, fun _ => ⟨by decide, fun q => by omega, fun _ => ⟨_, _, _, (by rw [s4]; exact qd), fun _ => rfl, fun q => absurd rfl q⟩⟩, fun q => by omega⟩, fun q => by omega⟩, fun q => absurd rfl q⟩⟩
  · skip
    have qa := mIs d (i := i - 12) (z := z) (f := f) (by omega)
    rcases Classical.em (0 < I (f 1 (67 + (i - 12)))) with a2 | a2
    · rw [mk1_t a2] at qa
      rw [o1 b1]
      rw [s2 a1, t _ (by omega), mk1_t a2]
      rw [if_neg (show ¬ (0 : Int) < ((i % 12 : Nat) : Int) by omega)]
      rw [if_neg (show ¬ ((i % 12 : Nat) : Int) < 11 by omega)]
      rw [show ((0 + 1 + 0 + 0 : Int32)) = (0 + 1) from by decide]
      exact go _ ⟨fun q => by omega, fun _ => ⟨_, _, _, (by rw [s2 a1]; exact qa), fun q => absurd q (by decide), fun _ => ⟨fun _ => ⟨by decide, fun _ => ⟨by decide, fun _ => rfl, fun q => by omega⟩, fun q => by omega⟩, fun q => by omega⟩⟩⟩
    · rw [mk1_f a2] at qa
      rw [o1 b1]
      rw [s2 a1, t _ (by omega), mk1_f a2]
      rw [if_neg (show ¬ (0 : Int) < ((i % 12 : Nat) : Int) by omega)]
      rw [if_neg (show ¬ ((i % 12 : Nat) : Int) < 11 by omega)]
      rw [show ((0 + 0 + 0 + 0 : Int32)) = 0 from by decide]
      exact go _ ⟨fun q => by omega, fun _ => ⟨_, _, _, (by rw [s2 a1]; exact qa), fun _ => ⟨fun _ => ⟨by decide, fun _ => ⟨by decide, fun _ => rfl, fun q => by omega⟩, fun q => by omega⟩, fun q => by omega⟩, fun q => absurd rfl q⟩⟩
  · skip
    have qb := mIs d (i := i + 12) (z := z) (f := f) (by omega)
    have qc := mIs d (i := i - 1) (z := z) (f := f) (by omega)
    have qd := mIs d (i := i + 1) (z := z) (f := f) (by omega)
    rcases Classical.em (0 < I (f 1 (67 + (i + 12)))) with b2 | b2 <;> rcases Classical.em (0 < I (f 1 (67 + (i - 1)))) with c2 | c2 <;> rcases Classical.em (0 < I (f 1 (67 + (i + 1)))) with d2 | d2
    · rw [mk1_t b2] at qb
      rw [mk1_t c2] at qc
      rw [mk1_t d2] at qd
      rw [s1 b1, t _ (by omega), mk1_t b2]
      rw [o2 a1]
      rw [if_pos (show (0 : Int) < ((i % 12 : Nat) : Int) by omega), s3 c1, t _ (by omega), mk1_t c2]
      rw [if_pos (show ((i % 12 : Nat) : Int) < 11 by omega), s4, t _ (by omega), mk1_t d2]
      rw [show ((1 + 0 + 1 + 1 : Int32)) = (((0 + 1) + 1) + 1) from by decide]
      exact go _ ⟨fun _ => ⟨fun q => by omega, fun _ => ⟨_, _, _, (by rw [s1 b1]; exact qb), fun q => absurd q (by decide), fun _ => ⟨by decide, fun q => by omega, fun _ => ⟨_, _, _, (by rw [s3 c1]; exact qc), fun q => absurd q (by decide), fun _ => ⟨by decide, fun q => by omega, fun _ => ⟨_, _, _, (by rw [s4]; exact qd), fun q => absurd q (by decide), fun _ => rfl⟩⟩⟩⟩⟩⟩, fun q => by omega⟩
    · rw [mk1_t b2] at qb
      rw [mk1_t c2] at qc
      rw [mk1_f d2] at qd
      rw [s1 b1, t _ (by omega), mk1_t b2]
      rw [o2 a1]
      rw [if_pos (show (0 : Int) < ((i % 12 : Nat) : Int) by omega), s3 c1, t _ (by omega), mk1_t c2]
      rw [if_pos (show ((i % 12 : Nat) : Int) < 11 by omega), s4, t _ (by omega), mk1_f d2]
      rw [show ((1 + 0 + 1 + 0 : Int32)) = ((0 + 1) + 1) from by decide]
      exact go _ ⟨fun _ => ⟨fun q => by omega, fun _ => ⟨_, _, _, (by rw [s1 b1]; exact qb), fun q => absurd q (by decide), fun _ => ⟨by decide, fun q => by omega, fun _ => ⟨_, _, _, (by rw [s3 c1]; exact qc), fun q => absurd q (by decide), fun _ => ⟨by decide, fun q => by omega, fun _ => ⟨_, _, _, (by rw [s4]; exact qd), fun _ => rfl, fun q => absurd rfl q⟩⟩⟩⟩⟩⟩, fun q => by omega⟩
    · rw [mk1_t b2] at qb
      rw [mk1_f c2] at qc
      rw [mk1_t d2] at qd
      rw [s1 b1, t _ (by omega), mk1_t b2]
      rw [o2 a1]
      rw [if_pos (show (0 : Int) < ((i % 12 : Nat) : Int) by omega), s3 c1, t _ (by omega), mk1_f c2]
      rw [if_pos (show ((i % 12 : Nat) : Int) < 11 by omega), s4, t _ (by omega), mk1_t d2]
      rw [show ((1 + 0 + 0 + 1 : Int32)) = ((0 + 1) + 1) from by decide]
      exact go _ ⟨fun _ => ⟨fun q => by omega, fun _ => ⟨_, _, _, (by rw [s1 b1]; exact qb), fun q => absurd q (by decide), fun _ => ⟨by decide, fun q => by omega, fun _ => ⟨_, _, _, (by rw [s3 c1]; exact qc), fun _ => ⟨by decide, fun q => by omega, fun _ => ⟨_, _, _, (by rw [s4]; exact qd), fun q => absurd q (by decide), fun _ => rfl⟩⟩, fun q => absurd rfl q⟩⟩⟩⟩, fun q => by omega⟩
    · rw [mk1_t b2] at qb
      rw [mk1_f c2] at qc
      rw [mk1_f d2] at qd
      rw [s1 b1, t _ (by omega), mk1_t b2]
      rw [o2 a1]
      rw [if_pos (show (0 : Int) < ((i % 12 : Nat) : Int) by omega), s3 c1, t _ (by omega), mk1_f c2]
      rw [if_pos (show ((i % 12 : Nat) : Int) < 11 by omega), s4, t _ (by omega), mk1_f d2]
      rw [show ((1 + 0 + 0 + 0 : Int32)) = (0 + 1) from by decide]
      exact go _ ⟨fun _ => ⟨fun q => by omega, fun _ => ⟨_, _, _, (by rw [s1 b1]; exact qb), fun q => absurd q (by decide), fun _ => ⟨by decide, fun q => by omega, fun _ => ⟨_, _, _, (by rw [s3 c1]; exact qc), fun _ => ⟨by decide, fun q => by omega, fun _ => ⟨_, _, _, (by rw [s4]; exact qd), fun _ => rfl, fun q => absurd rfl q⟩⟩, fun q => absurd rfl q⟩⟩⟩⟩, fun q => by omega⟩
    · rw [mk1_f b2] at qb
      rw [mk1_t c2] at qc
      rw [mk1_t d2] at qd
      rw [s1 b1, t _ (by omega), mk1_f b2]
      rw [o2 a1]
      rw [if_pos (show (0 : Int) < ((i % 12 : Nat) : Int) by omega), s3 c1, t _ (by omega), mk1_t c2]
      rw [if_pos (show ((i % 12 : Nat) : Int) < 11 by omega), s4, t _ (by omega), mk1_t d2]
      rw [show ((0 + 0 + 1 + 1 : Int32)) = ((0 + 1) + 1) from by decide]
      exact go _ ⟨fun _ => ⟨fun q => by omega, fun _ => ⟨_, _, _, (by rw [s1 b1]; exact qb), fun _ => ⟨by decide, fun q => by omega, fun _ => ⟨_, _, _, (by rw [s3 c1]; exact qc), fun q => absurd q (by decide), fun _ => ⟨by decide, fun q => by omega, fun _ => ⟨_, _, _, (by rw [s4]; exact qd), fun q => absurd q (by decide), fun _ => rfl⟩⟩⟩⟩, fun q => absurd rfl q⟩⟩, fun q => by omega⟩
    · rw [mk1_f b2] at qb
      rw [mk1_t c2] at qc
      rw [mk1_f d2] at qd
      rw [s1 b1, t _ (by omega), mk1_f b2]
      rw [o2 a1]
      rw [if_pos (show (0 : Int) < ((i % 12 : Nat) : Int) by omega), s3 c1, t _ (by omega), mk1_t c2]
      rw [if_pos (show ((i % 12 : Nat) : Int) < 11 by omega), s4, t _ (by omega), mk1_f d2]
      rw [show ((0 + 0 + 1 + 0 : Int32)) = (0 + 1) from by decide]
      exact go _ ⟨fun _ => ⟨fun q => by omega, fun _ => ⟨_, _, _, (by rw [s1 b1]; exact qb), fun _ => ⟨by decide, fun q => by omega, fun _ => ⟨_, _, _, (by rw [s3 c1]; exact qc), fun q => absurd q (by decide), fun _ => ⟨by decide, fun q => by omega, fun _ => ⟨_, _, _, (by rw [s4]; exact qd), fun _ => rfl, fun q => absurd rfl q⟩⟩⟩⟩, fun q => absurd rfl q⟩⟩, fun q => by omega⟩
    · rw [mk1_f b2] at qb
      rw [mk1_f c2] at qc
      rw [mk1_t d2] at qd
      rw [s1 b1, t _ (by omega), mk1_f b2]
      rw [o2 a1]
      rw [if_pos (show (0 : Int) < ((i % 12 : Nat) : Int) by omega), s3 c1, t _ (by omega), mk1_f c2]
      rw [if_pos (show ((i % 12 : Nat) : Int) < 11 by omega), s4, t _ (by omega), mk1_t d2]
      rw [show ((0 + 0 + 0 + 1 : Int32)) = (0 + 1) from by decide]
      exact go _ ⟨fun _ => ⟨fun q => by omega, fun _ => ⟨_, _, _, (by rw [s1 b1]; exact qb), fun _ => ⟨by decide, fun q => by omega, fun _ => ⟨_, _, _, (by rw [s3 c1]; exact qc), fun _ => ⟨by decide, fun q => by omega, fun _ => ⟨_, _, _, (by rw [s4]; exact qd), fun q => absurd q (by decide), fun _ => rfl⟩⟩, fun q => absurd rfl q⟩⟩, fun q => absurd rfl q⟩⟩, fun q => by omega⟩
    · rw [mk1_f b2] at qb
      rw [mk1_f c2] at qc
      rw [mk1_f d2] at qd
      rw [s1 b1, t _ (by omega), mk1_f b2]
      rw [o2 a1]
      rw [if_pos (show (0 : Int) < ((i % 12 : Nat) : Int) by omega), s3 c1, t _ (by omega), mk1_f c2]
      rw [if_pos (show ((i % 12 : Nat) : Int) < 11 by omega), s4, t _ (by omega), mk1_f d2]
      rw [show ((0 + 0 + 0 + 0 : Int32)) = 0 from by decide]
      exact go _ ⟨fun _ => ⟨fun q => by omega, fun _ => ⟨_, _, _, (by rw [s1 b1]; exact qb), fun _ => ⟨by decide, fun q => by omega, fun _ => ⟨_, _, _, (by rw [s3 c1]; exact qc), fun _ => ⟨by decide, fun q => by omega, fun _ => ⟨_, _, _, (by rw [s4]; exact qd), fun _ => rfl, fun q => absurd rfl q⟩⟩, fun q => absurd rfl q⟩⟩, fun q => absurd rfl q⟩⟩, fun q => by omega⟩
  · skip
    have qb := mIs d (i := i + 12) (z := z) (f := f) (by omega)
    have qc := mIs d (i := i - 1) (z := z) (f := f) (by omega)
    rcases Classical.em (0 < I (f 1 (67 + (i + 12)))) with b2 | b2 <;> rcases Classical.em (0 < I (f 1 (67 + (i - 1)))) with c2 | c2
    · rw [mk1_t b2] at qb
      rw [mk1_t c2] at qc
      rw [s1 b1, t _ (by omega), mk1_t b2]
      rw [o2 a1]
      rw [if_pos (show (0 : Int) < ((i % 12 : Nat) : Int) by omega), s3 c1, t _ (by omega), mk1_t c2]
      rw [if_neg (show ¬ ((i % 12 : Nat) : Int) < 11 by omega)]
      rw [show ((1 + 0 + 1 + 0 : Int32)) = ((0 + 1) + 1) from by decide]
      exact go _ ⟨fun _ => ⟨fun q => by omega, fun _ => ⟨_, _, _, (by rw [s1 b1]; exact qb), fun q => absurd q (by decide), fun _ => ⟨by decide, fun q => by omega, fun _ => ⟨_, _, _, (by rw [s3 c1]; exact qc), fun q => absurd q (by decide), fun _ => ⟨by decide, fun _ => rfl, fun q => by omega⟩⟩⟩⟩⟩, fun q => by omega⟩
    · rw [mk1_t b2] at qb
      rw [mk1_f c2] at qc
      rw [s1 b1, t _ (by omega), mk1_t b2]
      rw [o2 a1]
      rw [if_pos (show (0 : Int) < ((i % 12 : Nat) : Int) by omega), s3 c1, t _ (by omega), mk1_f c2]
      rw [if_neg (show ¬ ((i % 12 : Nat) : Int) < 11 by omega)]
      rw [show ((1 + 0 + 0 + 0 : Int32)) = (0 + 1) from by decide]
      exact go _ ⟨fun _ => ⟨fun q => by omega, fun _ => ⟨_, _, _, (by rw [s1 b1]; exact qb), fun q => absurd q (by decide), fun _ => ⟨by decide, fun q => by omega, fun _ => ⟨_, _, _, (by rw [s3 c1]; exact qc), fun _ => ⟨by decide, fun _ => rfl, fun q => by omega⟩, fun q => absurd rfl q⟩⟩⟩⟩, fun q => by omega⟩
    · rw [mk1_f b2] at qb
      rw [mk1_t c2] at qc
      rw [s1 b1, t _ (by omega), mk1_f b2]
      rw [o2 a1]
      rw [if_pos (show (0 : Int) < ((i % 12 : Nat) : Int) by omega), s3 c1, t _ (by omega), mk1_t c2]
      rw [if_neg (show ¬ ((i % 12 : Nat) : Int) < 11 by omega)]
      rw [show ((0 + 0 + 1 + 0 : Int32)) = (0 + 1) from by decide]
      exact go _ ⟨fun _ => ⟨fun q => by omega, fun _ => ⟨_, _, _, (by rw [s1 b1]; exact qb), fun _ => ⟨by decide, fun q => by omega, fun _ => ⟨_, _, _, (by rw [s3 c1]; exact qc), fun q => absurd q (by decide), fun _ => ⟨by decide, fun _ => rfl, fun q => by omega⟩⟩⟩, fun q => absurd rfl q⟩⟩, fun q => by omega⟩
    · rw [mk1_f b2] at qb
      rw [mk1_f c2] at qc
      rw [s1 b1, t _ (by omega), mk1_f b2]
      rw [o2 a1]
      rw [if_pos (show (0 : Int) < ((i % 12 : Nat) : Int) by omega), s3 c1, t _ (by omega), mk1_f c2]
      rw [if_neg (show ¬ ((i % 12 : Nat) : Int) < 11 by omega)]
      rw [show ((0 + 0 + 0 + 0 : Int32)) = 0 from by decide]
      exact go _ ⟨fun _ => ⟨fun q => by omega, fun _ => ⟨_, _, _, (by rw [s1 b1]; exact qb), fun _ => ⟨by decide, fun q => by omega, fun _ => ⟨_, _, _, (by rw [s3 c1]; exact qc), fun _ => ⟨by decide, fun _ => rfl, fun q => by omega⟩, fun q => absurd rfl q⟩⟩, fun q => absurd rfl q⟩⟩, fun q => by omega⟩
  · skip
    have qb := mIs d (i := i + 12) (z := z) (f := f) (by omega)
    have qd := mIs d (i := i + 1) (z := z) (f := f) (by omega)
    rcases Classical.em (0 < I (f 1 (67 + (i + 12)))) with b2 | b2 <;> rcases Classical.em (0 < I (f 1 (67 + (i + 1)))) with d2 | d2
    · rw [mk1_t b2] at qb
      rw [mk1_t d2] at qd
      rw [s1 b1, t _ (by omega), mk1_t b2]
      rw [o2 a1]
      rw [if_neg (show ¬ (0 : Int) < ((i % 12 : Nat) : Int) by omega)]
      rw [if_pos (show ((i % 12 : Nat) : Int) < 11 by omega), s4, t _ (by omega), mk1_t d2]
      rw [show ((1 + 0 + 0 + 1 : Int32)) = ((0 + 1) + 1) from by decide]
      exact go _ ⟨fun _ => ⟨fun q => by omega, fun _ => ⟨_, _, _, (by rw [s1 b1]; exact qb), fun q => absurd q (by decide), fun _ => ⟨by decide, fun _ => ⟨by decide, fun q => by omega, fun _ => ⟨_, _, _, (by rw [s4]; exact qd), fun q => absurd q (by decide), fun _ => rfl⟩⟩, fun q => by omega⟩⟩⟩, fun q => by omega⟩
    · rw [mk1_t b2] at qb
      rw [mk1_f d2] at qd
      rw [s1 b1, t _ (by omega), mk1_t b2]
      rw [o2 a1]
      rw [if_neg (show ¬ (0 : Int) < ((i % 12 : Nat) : Int) by omega)]
      rw [if_pos (show ((i % 12 : Nat) : Int) < 11 by omega), s4, t _ (by omega), mk1_f d2]
      rw [show ((1 + 0 + 0 + 0 : Int32)) = (0 + 1) from by decide]
      exact go _ ⟨fun _ => ⟨fun q => by omega, fun _ => ⟨_, _, _, (by rw [s1 b1]; exact qb), fun q => absurd q (by decide), fun _ => ⟨by decide, fun _ => ⟨by decide, fun q => by omega, fun _ => ⟨_, _, _, (by rw [s4]; exact qd), fun _ => rfl, fun q => absurd rfl q⟩⟩, fun q => by omega⟩⟩⟩, fun q => by omega⟩
    · rw [mk1_f b2] at qb
      rw [mk1_t d2] at qd
      rw [s1 b1, t _ (by omega), mk1_f b2]
      rw [o2 a1]
      rw [if_neg (show ¬ (0 : Int) < ((i % 12 : Nat) : Int) by omega)]
      rw [if_pos (show ((i % 12 : Nat) : Int) < 11 by omega), s4, t _ (by omega), mk1_t d2]
      rw [show ((0 + 0 + 0 + 1 : Int32)) = (0 + 1) from by decide]
      exact go _ ⟨fun _ => ⟨fun q => by omega, fun _ => ⟨_, _, _, (by rw [s1 b1]; exact qb), fun _ => ⟨by decide, fun _ => ⟨by decide, fun q => by omega, fun _ => ⟨_, _, _, (by rw [s4]; exact qd), fun q => absurd q (by decide), fun _ => rfl⟩⟩, fun q => by omega⟩, fun q => absurd rfl q⟩⟩, fun q => by omega⟩
    · rw [mk1_f b2] at qb
      rw [mk1_f d2] at qd
      rw [s1 b1, t _ (by omega), mk1_f b2]
      rw [o2 a1]
      rw [if_neg (show ¬ (0 : Int) < ((i % 12 : Nat) : Int) by omega)]
      rw [if_pos (show ((i % 12 : Nat) : Int) < 11 by omega), s4, t _ (by omega), mk1_f d2]
      rw [show ((0 + 0 + 0 + 0 : Int32)) = 0 from by decide]
      exact go _ ⟨fun _ => ⟨fun q => by omega, fun _ => ⟨_, _, _, (by rw [s1 b1]; exact qb), fun _ => ⟨by decide, fun _ => ⟨by decide, fun q => by omega, fun _ => ⟨_, _, _, (by rw [s4]; exact qd), fun _ => rfl, fun q => absurd rfl q⟩⟩, fun q => by omega⟩, fun q => absurd rfl q⟩⟩, fun q => by omega⟩
  · skip
    have qb := mIs d (i := i + 12) (z := z) (f := f) (by omega)
    rcases Classical.em (0 < I (f 1 (67 + (i + 12)))) with b2 | b2
    · rw [mk1_t b2] at qb
      rw [s1 b1, t _ (by omega), mk1_t b2]
      rw [o2 a1]
      rw [if_neg (show ¬ (0 : Int) < ((i % 12 : Nat) : Int) by omega)]
      rw [if_neg (show ¬ ((i % 12 : Nat) : Int) < 11 by omega)]
      rw [show ((1 + 0 + 0 + 0 : Int32)) = (0 + 1) from by decide]
      exact go _ ⟨fun _ => ⟨fun q => by omega, fun _ => ⟨_, _, _, (by rw [s1 b1]; exact qb), fun q => absurd q (by decide), fun _ => ⟨by decide, fun _ => ⟨by decide, fun _ => rfl, fun q => by omega⟩, fun q => by omega⟩⟩⟩, fun q => by omega⟩
    · rw [mk1_f b2] at qb
      rw [s1 b1, t _ (by omega), mk1_f b2]
      rw [o2 a1]
      rw [if_neg (show ¬ (0 : Int) < ((i % 12 : Nat) : Int) by omega)]
      rw [if_neg (show ¬ ((i % 12 : Nat) : Int) < 11 by omega)]
      rw [show ((0 + 0 + 0 + 0 : Int32)) = 0 from by decide]
      exact go _ ⟨fun _ => ⟨fun q => by omega, fun _ => ⟨_, _, _, (by rw [s1 b1]; exact qb), fun _ => ⟨by decide, fun _ => ⟨by decide, fun _ => rfl, fun q => by omega⟩, fun q => by omega⟩, fun q => absurd rfl q⟩⟩, fun q => by omega⟩
  · skip
    have qc := mIs d (i := i - 1) (z := z) (f := f) (by omega)
    have qd := mIs d (i := i + 1) (z := z) (f := f) (by omega)
    rcases Classical.em (0 < I (f 1 (67 + (i - 1)))) with c2 | c2 <;> rcases Classical.em (0 < I (f 1 (67 + (i + 1)))) with d2 | d2
    · rw [mk1_t c2] at qc
      rw [mk1_t d2] at qd
      rw [o1 b1]
      rw [o2 a1]
      rw [if_pos (show (0 : Int) < ((i % 12 : Nat) : Int) by omega), s3 c1, t _ (by omega), mk1_t c2]
      rw [if_pos (show ((i % 12 : Nat) : Int) < 11 by omega), s4, t _ (by omega), mk1_t d2]
      rw [show ((0 + 0 + 1 + 1 : Int32)) = ((0 + 1) + 1) from by decide]
      exact go _ ⟨fun _ => ⟨fun _ => ⟨by decide, fun q => by omega, fun _ => ⟨_, _, _, (by rw [s3 c1]; exact qc), fun q => absurd q (by decide), fun _ => ⟨by decide, fun q => by omega, fun _ => ⟨_, _, _, (by rw [s4]; exact qd), fun q => absurd q (by decide), fun _ => rfl⟩⟩⟩⟩, fun q => by omega⟩, fun q => by omega⟩
    · rw [mk1_t c2] at qc
      rw [mk1_f d2] at qd
      rw [o1 b1]
      rw [o2 a1]
      rw [if_pos (show (0 : Int) < ((i % 12 : Nat) : Int) by omega), s3 c1, t _ (by omega), mk1_t c2]
      rw [if_pos (show ((i % 12 : Nat) : Int) < 11 by omega), s4, t _ (by omega), mk1_f d2]
      rw [show ((0 + 0 + 1 + 0 : Int32)) = (0 + 1) from by decide]
      exact go _ ⟨fun _ => ⟨fun _ => ⟨by decide, fun q => by omega, fun _ => ⟨_, _, _, (by rw [s3 c1]; exact qc), fun q => absurd q (by decide), fun _ => ⟨by decide, fun q => by omega, fun _ => ⟨_, _, _, (by rw [s4]; exact qd), fun _ => rfl, fun q => absurd rfl q⟩⟩⟩⟩, fun q => by omega⟩, fun q => by omega⟩
    · rw [mk1_f c2] at qc
      rw [mk1_t d2] at qd
      rw [o1 b1]
      rw [o2 a1]
      rw [if_pos (show (0 : Int) < ((i % 12 : Nat) : Int) by omega), s3 c1, t _ (by omega), mk1_f c2]
      rw [if_pos (show ((i % 12 : Nat) : Int) < 11 by omega), s4, t _ (by omega), mk1_t d2]
      rw [show ((0 + 0 + 0 + 1 : Int32)) = (0 + 1) from by decide]
      exact go _ ⟨fun _ => ⟨fun _ => ⟨by decide, fun q => by omega, fun _ => ⟨_, _, _, (by rw [s3 c1]; exact qc), fun _ => ⟨by decide, fun q => by omega, fun _ => ⟨_, _, _, (by rw [s4]; exact qd), fun q => absurd q (by decide), fun _ => rfl⟩⟩, fun q => absurd rfl q⟩⟩, fun q => by omega⟩, fun q => by omega⟩
    · rw [mk1_f c2] at qc
      rw [mk1_f d2] at qd
      rw [o1 b1]
      rw [o2 a1]
      rw [if_pos (show (0 : Int) < ((i % 12 : Nat) : Int) by omega), s3 c1, t _ (by omega), mk1_f c2]
      rw [if_pos (show ((i % 12 : Nat) : Int) < 11 by omega), s4, t _ (by omega), mk1_f d2]
      rw [show ((0 + 0 + 0 + 0 : Int32)) = 0 from by decide]
      exact go _ ⟨fun _ => ⟨fun _ => ⟨by decide, fun q => by omega, fun _ => ⟨_, _, _, (by rw [s3 c1]; exact qc), fun _ => ⟨by decide, fun q => by omega, fun _ => ⟨_, _, _, (by rw [s4]; exact qd), fun _ => rfl, fun q => absurd rfl q⟩⟩, fun q => absurd rfl q⟩⟩, fun q => by omega⟩, fun q => by omega⟩
  · skip
    have qc := mIs d (i := i - 1) (z := z) (f := f) (by omega)
    rcases Classical.em (0 < I (f 1 (67 + (i - 1)))) with c2 | c2
    · rw [mk1_t c2] at qc
      rw [o1 b1]
      rw [o2 a1]
      rw [if_pos (show (0 : Int) < ((i % 12 : Nat) : Int) by omega), s3 c1, t _ (by omega), mk1_t c2]
      rw [if_neg (show ¬ ((i % 12 : Nat) : Int) < 11 by omega)]
      rw [show ((0 + 0 + 1 + 0 : Int32)) = (0 + 1) from by decide]
      exact go _ ⟨fun _ => ⟨fun _ => ⟨by decide, fun q => by omega, fun _ => ⟨_, _, _, (by rw [s3 c1]; exact qc), fun q => absurd q (by decide), fun _ => ⟨by decide, fun _ => rfl, fun q => by omega⟩⟩⟩, fun q => by omega⟩, fun q => by omega⟩
    · rw [mk1_f c2] at qc
      rw [o1 b1]
      rw [o2 a1]
      rw [if_pos (show (0 : Int) < ((i % 12 : Nat) : Int) by omega), s3 c1, t _ (by omega), mk1_f c2]
      rw [if_neg (show ¬ ((i % 12 : Nat) : Int) < 11 by omega)]
      rw [show ((0 + 0 + 0 + 0 : Int32)) = 0 from by decide]
      exact go _ ⟨fun _ => ⟨fun _ => ⟨by decide, fun q => by omega, fun _ => ⟨_, _, _, (by rw [s3 c1]; exact qc), fun _ => ⟨by decide, fun _ => rfl, fun q => by omega⟩, fun q => absurd rfl q⟩⟩, fun q => by omega⟩, fun q => by omega⟩
  · skip
    have qd := mIs d (i := i + 1) (z := z) (f := f) (by omega)
    rcases Classical.em (0 < I (f 1 (67 + (i + 1)))) with d2 | d2
    · rw [mk1_t d2] at qd
      rw [o1 b1]
      rw [o2 a1]
      rw [if_neg (show ¬ (0 : Int) < ((i % 12 : Nat) : Int) by omega)]
      rw [if_pos (show ((i % 12 : Nat) : Int) < 11 by omega), s4, t _ (by omega), mk1_t d2]
      rw [show ((0 + 0 + 0 + 1 : Int32)) = (0 + 1) from by decide]
      exact go _ ⟨fun _ => ⟨fun _ => ⟨by decide, fun _ => ⟨by decide, fun q => by omega, fun _ => ⟨_, _, _, (by rw [s4]; exact qd), fun q => absurd q (by decide), fun _ => rfl⟩⟩, fun q => by omega⟩, fun q => by omega⟩, fun q => by omega⟩
    · rw [mk1_f d2] at qd
      rw [o1 b1]
      rw [o2 a1]
      rw [if_neg (show ¬ (0 : Int) < ((i % 12 : Nat) : Int) by omega)]
      rw [if_pos (show ((i % 12 : Nat) : Int) < 11 by omega), s4, t _ (by omega), mk1_f d2]
      rw [show ((0 + 0 + 0 + 0 : Int32)) = 0 from by decide]
      exact go _ ⟨fun _ => ⟨fun _ => ⟨by decide, fun _ => ⟨by decide, fun q => by omega, fun _ => ⟨_, _, _, (by rw [s4]; exact qd), fun _ => rfl, fun q => absurd rfl q⟩⟩, fun q => by omega⟩, fun q => by omega⟩, fun q => by omega⟩
  · skip
    rw [o1 b1]
    rw [o2 a1]
    rw [if_neg (show ¬ (0 : Int) < ((i % 12 : Nat) : Int) by omega)]
    rw [if_neg (show ¬ ((i % 12 : Nat) : Int) < 11 by omega)]
    rw [show ((0 + 0 + 0 + 0 : Int32)) = 0 from by decide]
    exact go _ ⟨fun _ => ⟨fun _ => ⟨by decide, fun _ => ⟨by decide, fun _ => rfl, fun q => by omega⟩, fun q => by omega⟩, fun q => by omega⟩, fun q => by omega⟩
