/-! the sky, the thumbs, the evening, an hour -/
/-- the sky on both sides -/
def SKR (W : TXW) (nv ns : Nat) (zr : Nat → Int32) (g : FA) : Prop := ns ≤ 16 ∧ wn W 2 = nI ns ∧ wN W 2 = 5 * ns ∧ zr 36 = nI ns ∧ ∀ i, i < ns → wg W 2 (5 * i) = g (5 * i) ∧ wg W 2 (5 * i + 2) = g (5 * i + 1) ∧ ((wg W 2 (5 * i + 1) = nI 307 ∧ g (5 * i + 2) = 0 ∧ wg W 2 (5 * i + 3) = g (5 * i + 3)) ∨ (wg W 2 (5 * i + 1) = nI 321 ∧ g (5 * i + 2) = 1 ∧ ∃ a b, a < 12 ∧ b < 12 ∧ wg W 2 (5 * i + 3) = nI a ∧ g (5 * i + 3) = nI a ∧ wg W 2 (5 * i + 4) = nI b ∧ g (5 * i + 4) = nI b) ∨ (wg W 2 (5 * i + 1) = nI 303 ∧ g (5 * i + 2) = 2 ∧ ∃ v x, v < nv ∧ (x = -1 ∨ x = 0 ∨ x = 1) ∧ wg W 2 (5 * i + 3) = nI v ∧ g (5 * i + 3) = nI v ∧ wg W 2 (5 * i + 4) = x ∧ g (5 * i + 4) = x))
/-- the ways on both sides -/
def WYR (W : TXW) (nv nw : Nat) (zr : Nat → Int32) (g : FA) : Prop := nw ≤ 16 ∧ wn W 1 = nI nw ∧ wN W 1 = 5 * nw ∧ zr 34 = nI nw ∧ ∀ i, i < nw → ∃ v a, v < nv ∧ a < 12 ∧ wg W 1 (5 * i) = nI v ∧ g (3 * i) = nI v ∧ wg W 1 (5 * i + 1) = g (3 * i + 1) ∧ wg W 1 (5 * i + 2) = nI a ∧ g (3 * i + 2) = nI a
set_option maxRecDepth 100000 in
theorem b202_1 (call : QC FA) (x1 : Int32) (z : Nat → Int32) (f : Nat → FA) (F : Nat) : rnG call 202 (F + 5) 0 [some (vR 0), some (vI x1)] [] (LR z f) = rnG call 202 F 5 [some (vR 0), some (vI x1)] [vI (x1 + 2), vR 19] (LR z f) := rfl
set_option maxRecDepth 100000 in
theorem b202_2 (call : QC FA) (x : Int32) (ls : List (Option PV)) (z : Nat → Int32) (f : Nat → FA) (F : Nat) : rnG call 202 (F + 1) 5 ls [vI x, vR 19] (LR z f) = bif (Nat.beq 0 0 && pin x 160) then rnG call 202 F 6 ls [vI (f 19 (ix x))] (LR z f) else none := rfl
set_option maxRecDepth 100000 in
theorem b202_3 (call : QC FA) (x : Int32) (ls : List (Option PV)) (L : QH FA) (F : Nat) : rnG call 202 (F + 1) 6 ls [vI x] L = bif pcmp 1 x 0 then rnG call 202 F 17 ls [] L else rnG call 202 F 7 ls [] L := rfl
set_option maxRecDepth 100000 in
theorem b202_4 (call : QC FA) (x1 : Int32) (z : Nat → Int32) (f : Nat → FA) (F : Nat) : rnG call 202 (F + 5) 17 [some (vR 0), some (vI x1)] [] (LR z f) = rnG call 202 F 22 [some (vR 0), some (vI x1)] [vI (x1 + 2), vR 19] (LR z f) := rfl
set_option maxRecDepth 100000 in
theorem b202_5 (call : QC FA) (x : Int32) (ls : List (Option PV)) (z : Nat → Int32) (f : Nat → FA) (F : Nat) : rnG call 202 (F + 1) 22 ls [vI x, vR 19] (LR z f) = bif (Nat.beq 0 0 && pin x 160) then rnG call 202 F 23 ls [vI (f 19 (ix x))] (LR z f) else none := rfl
set_option maxRecDepth 100000 in
theorem b202_6 (call : QC FA) (x1 : Int32) (s0 : Int32) (L : QH FA) (F : Nat) : rnG call 202 (F + 1) 23 [some (vR 0), some (vI x1)] [vI s0] L = rnG call 202 F 24 [some (vR 0), some (vI x1)] [vI 1, vI s0] L := rfl
set_option maxRecDepth 100000 in
theorem b202_7 (call : QC FA) (x y : Int32) (ls : List (Option PV)) (L : QH FA) (F : Nat) : rnG call 202 (F + 1) 24 ls [vI y, vI x] L = bif pcmp 1 x y then rnG call 202 F 42 ls [] L else rnG call 202 F 25 ls [] L := rfl
set_option maxRecDepth 100000 in
theorem b202_8 (call : QC FA) (x1 : Int32) (z : Nat → Int32) (f : Nat → FA) (F : Nat) : rnG call 202 (F + 5) 42 [some (vR 0), some (vI x1)] [] (LR z f) = rnG call 202 F 47 [some (vR 0), some (vI x1)] [vI (x1 + 2), vR 19] (LR z f) := rfl
set_option maxRecDepth 100000 in
theorem b202_9 (call : QC FA) (x : Int32) (ls : List (Option PV)) (z : Nat → Int32) (f : Nat → FA) (F : Nat) : rnG call 202 (F + 1) 47 ls [vI x, vR 19] (LR z f) = bif (Nat.beq 0 0 && pin x 160) then rnG call 202 F 48 ls [vI (f 19 (ix x))] (LR z f) else none := rfl
set_option maxRecDepth 100000 in
theorem b202_10 (call : QC FA) (x1 : Int32) (s0 : Int32) (L : QH FA) (F : Nat) : rnG call 202 (F + 1) 48 [some (vR 0), some (vI x1)] [vI s0] L = rnG call 202 F 49 [some (vR 0), some (vI x1)] [vI 2, vI s0] L := rfl
set_option maxRecDepth 100000 in
theorem b202_11 (call : QC FA) (x y : Int32) (ls : List (Option PV)) (L : QH FA) (F : Nat) : rnG call 202 (F + 1) 49 ls [vI y, vI x] L = bif pcmp 1 x y then rnG call 202 F 67 ls [] L else rnG call 202 F 50 ls [] L := rfl
set_option maxRecDepth 100000 in
theorem b202_12 (call : QC FA) (ls : List (Option PV)) (L : QH FA) (F : Nat) : rnG call 202 (F + 1) 67 ls [] L = some (none, L) := rfl
set_option maxRecDepth 100000 in
theorem b202_13 (call : QC FA) (x1 : Int32) (z : Nat → Int32) (f : Nat → FA) (F : Nat) : rnG call 202 (F + 8) 50 [some (vR 0), some (vI x1)] [] (LR z f) = rnG call 202 F 58 [some (vR 0), some (vI x1)] [vI (x1 + 3), vR 19, vI 7, vR 1] (LR z f) := rfl
set_option maxRecDepth 100000 in
theorem b202_14 (call : QC FA) (x : Int32) (s0 : Int32) (ls : List (Option PV)) (z : Nat → Int32) (f : Nat → FA) (F : Nat) : rnG call 202 (F + 1) 58 ls [vI x, vR 19, vI s0, vR 1] (LR z f) = bif (Nat.beq 0 0 && pin x 160) then rnG call 202 F 59 ls [vI (f 19 (ix x)), vI s0, vR 1] (LR z f) else none := rfl
set_option maxRecDepth 100000 in
theorem b202_15 (call : QC FA) (x1 : Int32) (s0 : Int32) (s1 : Int32) (z : Nat → Int32) (f : Nat → FA) (F : Nat) : rnG call 202 (F + 6) 59 [some (vR 0), some (vI x1)] [vI s0, vI s1, vR 1] (LR z f) = rnG call 202 F 65 [some (vR 0), some (vI x1)] [vI (x1 + 4), vR 19, vI (s1 + s0), vR 1] (LR z f) := rfl
set_option maxRecDepth 100000 in
theorem b202_16 (call : QC FA) (x : Int32) (s0 : Int32) (ls : List (Option PV)) (z : Nat → Int32) (f : Nat → FA) (F : Nat) : rnG call 202 (F + 1) 65 ls [vI x, vR 19, vI s0, vR 1] (LR z f) = bif (Nat.beq 0 0 && pin x 160) then rnG call 202 F 66 ls [vI (f 19 (ix x)), vI s0, vR 1] (LR z f) else none := rfl
set_option maxRecDepth 100000 in
theorem b202_17 (call : QC FA) (x y : Int32) (ls : List (Option PV)) (z : Nat → Int32) (f : Nat → FA) (F : Nat) : rnG call 202 (F + 1) 66 ls [vI y, vI x, vR 1] (LR z f) = bif (Nat.beq 0 0 && pin x 499) then rnG call 202 F 67 ls [] (LR z (uA f 1 (upd (f 1) (ix x) y))) else none := rfl
set_option maxRecDepth 100000 in
theorem b202_18 (call : QC FA) (x1 : Int32) (z : Nat → Int32) (f : Nat → FA) (F : Nat) : rnG call 202 (F + 7) 25 [some (vR 0), some (vI x1)] [] (LR z f) = rnG call 202 F 32 [some (vR 0), some (vI x1)] [vI (x1 + 4), vR 19, vI 12, vR 0] (LR z f) := rfl
set_option maxRecDepth 100000 in
theorem b202_19 (call : QC FA) (x : Int32) (s0 : Int32) (ls : List (Option PV)) (z : Nat → Int32) (f : Nat → FA) (F : Nat) : rnG call 202 (F + 1) 32 ls [vI x, vR 19, vI s0, vR 0] (LR z f) = bif (Nat.beq 0 0 && pin x 160) then rnG call 202 F 33 ls [vI (f 19 (ix x)), vI s0, vR 0] (LR z f) else none := rfl
set_option maxRecDepth 100000 in
theorem b202_20 (call : QC FA) (x1 : Int32) (s0 : Int32) (s1 : Int32) (z : Nat → Int32) (f : Nat → FA) (F : Nat) : rnG call 202 (F + 6) 33 [some (vR 0), some (vI x1)] [vI s0, vI s1, vR 0] (LR z f) = rnG call 202 F 39 [some (vR 0), some (vI x1)] [vI (x1 + 3), vR 19, vI (s1 * s0), vR 0] (LR z f) := rfl
set_option maxRecDepth 100000 in
theorem b202_21 (call : QC FA) (x : Int32) (s0 : Int32) (ls : List (Option PV)) (z : Nat → Int32) (f : Nat → FA) (F : Nat) : rnG call 202 (F + 1) 39 ls [vI x, vR 19, vI s0, vR 0] (LR z f) = bif (Nat.beq 0 0 && pin x 160) then rnG call 202 F 40 ls [vI (f 19 (ix x)), vI s0, vR 0] (LR z f) else none := rfl
set_option maxRecDepth 100000 in
theorem b202_22 (call : QC FA) (x1 : Int32) (s0 : Int32) (s1 : Int32) (L : QH FA) (F : Nat) : rnG call 202 (F + 1) 40 [some (vR 0), some (vI x1)] [vI s0, vI s1, vR 0] L = rnG call 202 F 41 [some (vR 0), some (vI x1)] [vI (s1 + s0), vR 0] L := rfl
set_option maxRecDepth 100000 in
theorem b202_23 (call : QC FA) (a0 : Int32) (ls : List (Option PV)) (z : Nat → Int32) (f : Nat → FA) (F : Nat) : rnG call 202 (F + 1) 41 ls [vI a0, vR 0] (LR z f) = cbd (call 223 [vR 0, vI a0] (LR z f)) (fun r L' => rnG call 202 F 42 ls (r.toList ++ []) L') := pcY (ih := rnG call 202 F) (call := call) (a := 223) (b := 1) (v := 12) (t := 42) (x := 0) (ls := ls) (As := [vI a0]) (st' := []) (L := LR z f) rfl rfl rfl
set_option maxRecDepth 100000 in
theorem b202_24 (call : QC FA) (x1 : Int32) (z : Nat → Int32) (f : Nat → FA) (F : Nat) : rnG call 202 (F + 8) 7 [some (vR 0), some (vI x1)] [] (LR z f) = rnG call 202 F 15 [some (vR 0), some (vI x1)] [vI (x1 + 3), vR 19, vI 4, vR 1] (LR z f) := rfl
set_option maxRecDepth 100000 in
theorem b202_25 (call : QC FA) (x : Int32) (s0 : Int32) (ls : List (Option PV)) (z : Nat → Int32) (f : Nat → FA) (F : Nat) : rnG call 202 (F + 1) 15 ls [vI x, vR 19, vI s0, vR 1] (LR z f) = bif (Nat.beq 0 0 && pin x 160) then rnG call 202 F 16 ls [vI (f 19 (ix x)), vI s0, vR 1] (LR z f) else none := rfl
set_option maxRecDepth 100000 in
theorem b202_26 (call : QC FA) (x y : Int32) (ls : List (Option PV)) (z : Nat → Int32) (f : Nat → FA) (F : Nat) : rnG call 202 (F + 1) 16 ls [vI y, vI x, vR 1] (LR z f) = bif (Nat.beq 0 0 && pin x 499) then rnG call 202 F 17 ls [] (LR z (uA f 1 (upd (f 1) (ix x) y))) else none := rfl
theorem vc202_0 (d : Nat) (x1 : Int32) (z : Nat → Int32) (f : Nat → FA) (res : Option PV × QH FA) (H : (pin (x1 + 2) 160 = true ∧ ((¬ f 19 (ix (x1 + 2)) = 0 → (pin (x1 + 2) 160 = true ∧ ((¬ f 19 (ix (x1 + 2)) = 1 → (pin (x1 + 2) 160 = true ∧ ((¬ f 19 (ix (x1 + 2)) = 2 → res = (none, LR z f)) ∧ (f 19 (ix (x1 + 2)) = 2 → (pin (x1 + 3) 160 = true ∧ (pin (x1 + 4) 160 = true ∧ (pin (7 + (f 19 (ix (x1 + 3)))) 499 = true ∧ res = (none, LR z (uA f 1 (upd (f 1) (ix (7 + (f 19 (ix (x1 + 3))))) (f 19 (ix (x1 + 4))))))))))))) ∧ (f 19 (ix (x1 + 2)) = 1 → (pin (x1 + 4) 160 = true ∧ (pin (x1 + 3) 160 = true ∧ (∃ (z1 : Nat → Int32) (f1 : Nat → FA), (mcall (d + 2)) 223 [vR 0, vI ((12 * (f 19 (ix (x1 + 4)))) + (f 19 (ix (x1 + 3))))] (LR z f) = some (none, LR z1 f1) ∧ (pin (x1 + 2) 160 = true ∧ ((¬ f1 19 (ix (x1 + 2)) = 2 → res = (none, LR z1 f1)) ∧ (f1 19 (ix (x1 + 2)) = 2 → (pin (x1 + 3) 160 = true ∧ (pin (x1 + 4) 160 = true ∧ (pin (7 + (f1 19 (ix (x1 + 3)))) 499 = true ∧ res = (none, LR z1 (uA f1 1 (upd (f1 1) (ix (7 + (f1 19 (ix (x1 + 3))))) (f1 19 (ix (x1 + 4))))))))))))))))))) ∧ (f 19 (ix (x1 + 2)) = 0 → (pin (x1 + 3) 160 = true ∧ (pin 4 499 = true ∧ (pin (x1 + 2) 160 = true ∧ ((¬ f 19 (ix (x1 + 2)) = 1 → (pin (x1 + 2) 160 = true ∧ ((¬ f 19 (ix (x1 + 2)) = 2 → res = (none, LR z (uA f 1 (upd (f 1) (ix 4) (f 19 (ix (x1 + 3))))))) ∧ (f 19 (ix (x1 + 2)) = 2 → (pin (x1 + 3) 160 = true ∧ (pin (x1 + 4) 160 = true ∧ (pin (7 + (f 19 (ix (x1 + 3)))) 499 = true ∧ res = (none, LR z (uA (uA f 1 (upd (f 1) (ix 4) (f 19 (ix (x1 + 3))))) 1 (upd (upd (f 1) (ix 4) (f 19 (ix (x1 + 3)))) (ix (7 + (f 19 (ix (x1 + 3))))) (f 19 (ix (x1 + 4))))))))))))) ∧ (f 19 (ix (x1 + 2)) = 1 → (pin (x1 + 4) 160 = true ∧ (pin (x1 + 3) 160 = true ∧ (∃ (z2 : Nat → Int32) (f2 : Nat → FA), (mcall (d + 2)) 223 [vR 0, vI ((12 * (f 19 (ix (x1 + 4)))) + (f 19 (ix (x1 + 3))))] (LR z (uA f 1 (upd (f 1) (ix 4) (f 19 (ix (x1 + 3)))))) = some (none, LR z2 f2) ∧ (pin (x1 + 2) 160 = true ∧ ((¬ f2 19 (ix (x1 + 2)) = 2 → res = (none, LR z2 f2)) ∧ (f2 19 (ix (x1 + 2)) = 2 → (pin (x1 + 3) 160 = true ∧ (pin (x1 + 4) 160 = true ∧ (pin (7 + (f2 19 (ix (x1 + 3)))) 499 = true ∧ res = (none, LR z2 (uA f2 1 (upd (f2 1) (ix (7 + (f2 19 (ix (x1 + 3))))) (f2 19 (ix (x1 + 4)))))))))))))))))))))))) : RC (mcall (d + 2)) (mP 202) 0 [some (vR 0), some (vI x1)] [] (LR z f) res := by
  refine rc_b (i' := 5) (ls' := [some (vR 0), some (vI x1)]) (st' := [vI (x1 + 2), vR 19]) (L' := LR z f) 5 (b202_1 (mcall (d + 2)) x1 z f) ?_
  obtain ⟨g1, H⟩ := H
  refine rc_g (i' := 6) (ls' := [some (vR 0), some (vI x1)]) (st' := [vI (f 19 (ix (x1 + 2)))]) (L' := LR z f) (b202_2 (mcall (d + 2)) (x1 + 2) _ z f) (pinG g1) ?_
  refine rc_if (it := 17) (ie := 7) (ls' := [some (vR 0), some (vI x1)]) (st' := []) (b202_3 (mcall (d + 2)) (f 19 (ix (x1 + 2))) _ _) (fun q1 => ?_) (fun q1 => ?_)
  · have H := H.1 (cI1t q1)
    refine rc_b (i' := 22) (ls' := [some (vR 0), some (vI x1)]) (st' := [vI (x1 + 2), vR 19]) (L' := LR z f) 5 (b202_4 (mcall (d + 2)) x1 z f) ?_
    obtain ⟨g1, H⟩ := H
    refine rc_g (i' := 23) (ls' := [some (vR 0), some (vI x1)]) (st' := [vI (f 19 (ix (x1 + 2)))]) (L' := LR z f) (b202_5 (mcall (d + 2)) (x1 + 2) _ z f) (pinG g1) ?_
    refine rc_b (i' := 24) (ls' := [some (vR 0), some (vI x1)]) (st' := [vI 1, vI (f 19 (ix (x1 + 2)))]) (L' := LR z f) 1 (b202_6 (mcall (d + 2)) x1 (f 19 (ix (x1 + 2))) _) ?_
    refine rc_if (it := 42) (ie := 25) (ls' := [some (vR 0), some (vI x1)]) (st' := []) (b202_7 (mcall (d + 2)) (f 19 (ix (x1 + 2))) 1 _ _) (fun q2 => ?_) (fun q2 => ?_)
    · have H := H.1 (cI1t q2)
      refine rc_b (i' := 47) (ls' := [some (vR 0), some (vI x1)]) (st' := [vI (x1 + 2), vR 19]) (L' := LR z f) 5 (b202_8 (mcall (d + 2)) x1 z f) ?_
      obtain ⟨g1, H⟩ := H
      refine rc_g (i' := 48) (ls' := [some (vR 0), some (vI x1)]) (st' := [vI (f 19 (ix (x1 + 2)))]) (L' := LR z f) (b202_9 (mcall (d + 2)) (x1 + 2) _ z f) (pinG g1) ?_
      refine rc_b (i' := 49) (ls' := [some (vR 0), some (vI x1)]) (st' := [vI 2, vI (f 19 (ix (x1 + 2)))]) (L' := LR z f) 1 (b202_10 (mcall (d + 2)) x1 (f 19 (ix (x1 + 2))) _) ?_
      refine rc_if (it := 67) (ie := 50) (ls' := [some (vR 0), some (vI x1)]) (st' := []) (b202_11 (mcall (d + 2)) (f 19 (ix (x1 + 2))) 2 _ _) (fun q3 => ?_) (fun q3 => ?_)
      · have H := H.1 (cI1t q3)
        subst H
        exact rc_ret (b202_12 (mcall (d + 2)) _ _)
      · have H := H.2 (cI1f q3)
        refine rc_b (i' := 58) (ls' := [some (vR 0), some (vI x1)]) (st' := [vI (x1 + 3), vR 19, vI 7, vR 1]) (L' := LR z f) 8 (b202_13 (mcall (d + 2)) x1 z f) ?_
        obtain ⟨g1, H⟩ := H
        refine rc_g (i' := 59) (ls' := [some (vR 0), some (vI x1)]) (st' := [vI (f 19 (ix (x1 + 3))), vI 7, vR 1]) (L' := LR z f) (b202_14 (mcall (d + 2)) (x1 + 3) 7 _ z f) (pinG g1) ?_
        refine rc_b (i' := 65) (ls' := [some (vR 0), some (vI x1)]) (st' := [vI (x1 + 4), vR 19, vI (7 + (f 19 (ix (x1 + 3)))), vR 1]) (L' := LR z f) 6 (b202_15 (mcall (d + 2)) x1 (f 19 (ix (x1 + 3))) 7 z f) ?_
        obtain ⟨g1, H⟩ := H
        refine rc_g (i' := 66) (ls' := [some (vR 0), some (vI x1)]) (st' := [vI (f 19 (ix (x1 + 4))), vI (7 + (f 19 (ix (x1 + 3)))), vR 1]) (L' := LR z f) (b202_16 (mcall (d + 2)) (x1 + 4) (7 + (f 19 (ix (x1 + 3)))) _ z f) (pinG g1) ?_
        obtain ⟨g1, H⟩ := H
        refine rc_g (i' := 67) (ls' := [some (vR 0), some (vI x1)]) (st' := []) (L' := LR z (uA f 1 (upd (f 1) (ix (7 + (f 19 (ix (x1 + 3))))) (f 19 (ix (x1 + 4)))))) (b202_17 (mcall (d + 2)) (7 + (f 19 (ix (x1 + 3)))) (f 19 (ix (x1 + 4))) _ z f) (pinG g1) ?_
        subst H
        exact rc_ret (b202_12 (mcall (d + 2)) _ _)
    · have H := H.2 (cI1f q2)
      refine rc_b (i' := 32) (ls' := [some (vR 0), some (vI x1)]) (st' := [vI (x1 + 4), vR 19, vI 12, vR 0]) (L' := LR z f) 7 (b202_18 (mcall (d + 2)) x1 z f) ?_
      obtain ⟨g1, H⟩ := H
      refine rc_g (i' := 33) (ls' := [some (vR 0), some (vI x1)]) (st' := [vI (f 19 (ix (x1 + 4))), vI 12, vR 0]) (L' := LR z f) (b202_19 (mcall (d + 2)) (x1 + 4) 12 _ z f) (pinG g1) ?_
      refine rc_b (i' := 39) (ls' := [some (vR 0), some (vI x1)]) (st' := [vI (x1 + 3), vR 19, vI (12 * (f 19 (ix (x1 + 4)))), vR 0]) (L' := LR z f) 6 (b202_20 (mcall (d + 2)) x1 (f 19 (ix (x1 + 4))) 12 z f) ?_
      obtain ⟨g1, H⟩ := H
      refine rc_g (i' := 40) (ls' := [some (vR 0), some (vI x1)]) (st' := [vI (f 19 (ix (x1 + 3))), vI (12 * (f 19 (ix (x1 + 4)))), vR 0]) (L' := LR z f) (b202_21 (mcall (d + 2)) (x1 + 3) (12 * (f 19 (ix (x1 + 4)))) _ z f) (pinG g1) ?_
      refine rc_b (i' := 41) (ls' := [some (vR 0), some (vI x1)]) (st' := [vI ((12 * (f 19 (ix (x1 + 4)))) + (f 19 (ix (x1 + 3)))), vR 0]) (L' := LR z f) 1 (b202_22 (mcall (d + 2)) x1 (f 19 (ix (x1 + 3))) (12 * (f 19 (ix (x1 + 4)))) _) ?_
      obtain ⟨z1, f1, hc, H⟩ := H
      refine rc_call (t := 42) (ls' := [some (vR 0), some (vI x1)]) (st' := []) (b202_23 (mcall (d + 2)) ((12 * (f 19 (ix (x1 + 4)))) + (f 19 (ix (x1 + 3)))) _ z f) hc ?_
      show RC (mcall (d + 2)) (mP 202) 42 [some (vR 0), some (vI x1)] [] (LR z1 f1) res
      refine rc_b (i' := 47) (ls' := [some (vR 0), some (vI x1)]) (st' := [vI (x1 + 2), vR 19]) (L' := LR z1 f1) 5 (b202_8 (mcall (d + 2)) x1 z1 f1) ?_
      obtain ⟨g1, H⟩ := H
      refine rc_g (i' := 48) (ls' := [some (vR 0), some (vI x1)]) (st' := [vI (f1 19 (ix (x1 + 2)))]) (L' := LR z1 f1) (b202_9 (mcall (d + 2)) (x1 + 2) _ z1 f1) (pinG g1) ?_
      refine rc_b (i' := 49) (ls' := [some (vR 0), some (vI x1)]) (st' := [vI 2, vI (f1 19 (ix (x1 + 2)))]) (L' := LR z1 f1) 1 (b202_10 (mcall (d + 2)) x1 (f1 19 (ix (x1 + 2))) _) ?_
      refine rc_if (it := 67) (ie := 50) (ls' := [some (vR 0), some (vI x1)]) (st' := []) (b202_11 (mcall (d + 2)) (f1 19 (ix (x1 + 2))) 2 _ _) (fun q4 => ?_) (fun q4 => ?_)
      · have H := H.1 (cI1t q4)
        subst H
        exact rc_ret (b202_12 (mcall (d + 2)) _ _)
      · have H := H.2 (cI1f q4)
        refine rc_b (i' := 58) (ls' := [some (vR 0), some (vI x1)]) (st' := [vI (x1 + 3), vR 19, vI 7, vR 1]) (L' := LR z1 f1) 8 (b202_13 (mcall (d + 2)) x1 z1 f1) ?_
        obtain ⟨g1, H⟩ := H
        refine rc_g (i' := 59) (ls' := [some (vR 0), some (vI x1)]) (st' := [vI (f1 19 (ix (x1 + 3))), vI 7, vR 1]) (L' := LR z1 f1) (b202_14 (mcall (d + 2)) (x1 + 3) 7 _ z1 f1) (pinG g1) ?_
        refine rc_b (i' := 65) (ls' := [some (vR 0), some (vI x1)]) (st' := [vI (x1 + 4), vR 19, vI (7 + (f1 19 (ix (x1 + 3)))), vR 1]) (L' := LR z1 f1) 6 (b202_15 (mcall (d + 2)) x1 (f1 19 (ix (x1 + 3))) 7 z1 f1) ?_
        obtain ⟨g1, H⟩ := H
        refine rc_g (i' := 66) (ls' := [some (vR 0), some (vI x1)]) (st' := [vI (f1 19 (ix (x1 + 4))), vI (7 + (f1 19 (ix (x1 + 3)))), vR 1]) (L' := LR z1 f1) (b202_16 (mcall (d + 2)) (x1 + 4) (7 + (f1 19 (ix (x1 + 3)))) _ z1 f1) (pinG g1) ?_
        obtain ⟨g1, H⟩ := H
        refine rc_g (i' := 67) (ls' := [some (vR 0), some (vI x1)]) (st' := []) (L' := LR z1 (uA f1 1 (upd (f1 1) (ix (7 + (f1 19 (ix (x1 + 3))))) (f1 19 (ix (x1 + 4)))))) (b202_17 (mcall (d + 2)) (7 + (f1 19 (ix (x1 + 3)))) (f1 19 (ix (x1 + 4))) _ z1 f1) (pinG g1) ?_
        subst H
        exact rc_ret (b202_12 (mcall (d + 2)) _ _)
  · have H := H.2 (cI1f q1)
    refine rc_b (i' := 15) (ls' := [some (vR 0), some (vI x1)]) (st' := [vI (x1 + 3), vR 19, vI 4, vR 1]) (L' := LR z f) 8 (b202_24 (mcall (d + 2)) x1 z f) ?_
    obtain ⟨g1, H⟩ := H
    refine rc_g (i' := 16) (ls' := [some (vR 0), some (vI x1)]) (st' := [vI (f 19 (ix (x1 + 3))), vI 4, vR 1]) (L' := LR z f) (b202_25 (mcall (d + 2)) (x1 + 3) 4 _ z f) (pinG g1) ?_
    obtain ⟨g1, H⟩ := H
    refine rc_g (i' := 17) (ls' := [some (vR 0), some (vI x1)]) (st' := []) (L' := LR z (uA f 1 (upd (f 1) (ix 4) (f 19 (ix (x1 + 3)))))) (b202_26 (mcall (d + 2)) 4 (f 19 (ix (x1 + 3))) _ z f) (pinG g1) ?_
    refine rc_b (i' := 22) (ls' := [some (vR 0), some (vI x1)]) (st' := [vI (x1 + 2), vR 19]) (L' := LR z (uA f 1 (upd (f 1) (ix 4) (f 19 (ix (x1 + 3)))))) 5 (b202_4 (mcall (d + 2)) x1 z (uA f 1 (upd (f 1) (ix 4) (f 19 (ix (x1 + 3)))))) ?_
    obtain ⟨g1, H⟩ := H
    refine rc_g (i' := 23) (ls' := [some (vR 0), some (vI x1)]) (st' := [vI (f 19 (ix (x1 + 2)))]) (L' := LR z (uA f 1 (upd (f 1) (ix 4) (f 19 (ix (x1 + 3)))))) (b202_5 (mcall (d + 2)) (x1 + 2) _ z (uA f 1 (upd (f 1) (ix 4) (f 19 (ix (x1 + 3)))))) (pinG g1) ?_
    refine rc_b (i' := 24) (ls' := [some (vR 0), some (vI x1)]) (st' := [vI 1, vI (f 19 (ix (x1 + 2)))]) (L' := LR z (uA f 1 (upd (f 1) (ix 4) (f 19 (ix (x1 + 3)))))) 1 (b202_6 (mcall (d + 2)) x1 (f 19 (ix (x1 + 2))) _) ?_
    refine rc_if (it := 42) (ie := 25) (ls' := [some (vR 0), some (vI x1)]) (st' := []) (b202_7 (mcall (d + 2)) (f 19 (ix (x1 + 2))) 1 _ _) (fun q5 => ?_) (fun q5 => ?_)
    · have H := H.1 (cI1t q5)
      refine rc_b (i' := 47) (ls' := [some (vR 0), some (vI x1)]) (st' := [vI (x1 + 2), vR 19]) (L' := LR z (uA f 1 (upd (f 1) (ix 4) (f 19 (ix (x1 + 3)))))) 5 (b202_8 (mcall (d + 2)) x1 z (uA f 1 (upd (f 1) (ix 4) (f 19 (ix (x1 + 3)))))) ?_
      obtain ⟨g1, H⟩ := H
      refine rc_g (i' := 48) (ls' := [some (vR 0), some (vI x1)]) (st' := [vI (f 19 (ix (x1 + 2)))]) (L' := LR z (uA f 1 (upd (f 1) (ix 4) (f 19 (ix (x1 + 3)))))) (b202_9 (mcall (d + 2)) (x1 + 2) _ z (uA f 1 (upd (f 1) (ix 4) (f 19 (ix (x1 + 3)))))) (pinG g1) ?_
      refine rc_b (i' := 49) (ls' := [some (vR 0), some (vI x1)]) (st' := [vI 2, vI (f 19 (ix (x1 + 2)))]) (L' := LR z (uA f 1 (upd (f 1) (ix 4) (f 19 (ix (x1 + 3)))))) 1 (b202_10 (mcall (d + 2)) x1 (f 19 (ix (x1 + 2))) _) ?_
      refine rc_if (it := 67) (ie := 50) (ls' := [some (vR 0), some (vI x1)]) (st' := []) (b202_11 (mcall (d + 2)) (f 19 (ix (x1 + 2))) 2 _ _) (fun q6 => ?_) (fun q6 => ?_)
      · have H := H.1 (cI1t q6)
        subst H
        exact rc_ret (b202_12 (mcall (d + 2)) _ _)
      · have H := H.2 (cI1f q6)
        refine rc_b (i' := 58) (ls' := [some (vR 0), some (vI x1)]) (st' := [vI (x1 + 3), vR 19, vI 7, vR 1]) (L' := LR z (uA f 1 (upd (f 1) (ix 4) (f 19 (ix (x1 + 3)))))) 8 (b202_13 (mcall (d + 2)) x1 z (uA f 1 (upd (f 1) (ix 4) (f 19 (ix (x1 + 3)))))) ?_
        obtain ⟨g1, H⟩ := H
        refine rc_g (i' := 59) (ls' := [some (vR 0), some (vI x1)]) (st' := [vI (f 19 (ix (x1 + 3))), vI 7, vR 1]) (L' := LR z (uA f 1 (upd (f 1) (ix 4) (f 19 (ix (x1 + 3)))))) (b202_14 (mcall (d + 2)) (x1 + 3) 7 _ z (uA f 1 (upd (f 1) (ix 4) (f 19 (ix (x1 + 3)))))) (pinG g1) ?_
        refine rc_b (i' := 65) (ls' := [some (vR 0), some (vI x1)]) (st' := [vI (x1 + 4), vR 19, vI (7 + (f 19 (ix (x1 + 3)))), vR 1]) (L' := LR z (uA f 1 (upd (f 1) (ix 4) (f 19 (ix (x1 + 3)))))) 6 (b202_15 (mcall (d + 2)) x1 (f 19 (ix (x1 + 3))) 7 z (uA f 1 (upd (f 1) (ix 4) (f 19 (ix (x1 + 3)))))) ?_
        obtain ⟨g1, H⟩ := H
        refine rc_g (i' := 66) (ls' := [some (vR 0), some (vI x1)]) (st' := [vI (f 19 (ix (x1 + 4))), vI (7 + (f 19 (ix (x1 + 3)))), vR 1]) (L' := LR z (uA f 1 (upd (f 1) (ix 4) (f 19 (ix (x1 + 3)))))) (b202_16 (mcall (d + 2)) (x1 + 4) (7 + (f 19 (ix (x1 + 3)))) _ z (uA f 1 (upd (f 1) (ix 4) (f 19 (ix (x1 + 3)))))) (pinG g1) ?_
        obtain ⟨g1, H⟩ := H
        refine rc_g (i' := 67) (ls' := [some (vR 0), some (vI x1)]) (st' := []) (L' := LR z (uA (uA f 1 (upd (f 1) (ix 4) (f 19 (ix (x1 + 3))))) 1 (upd (upd (f 1) (ix 4) (f 19 (ix (x1 + 3)))) (ix (7 + (f 19 (ix (x1 + 3))))) (f 19 (ix (x1 + 4)))))) (b202_17 (mcall (d + 2)) (7 + (f 19 (ix (x1 + 3)))) (f 19 (ix (x1 + 4))) _ z (uA f 1 (upd (f 1) (ix 4) (f 19 (ix (x1 + 3)))))) (pinG g1) ?_
        subst H
        exact rc_ret (b202_12 (mcall (d + 2)) _ _)
    · have H := H.2 (cI1f q5)
      refine rc_b (i' := 32) (ls' := [some (vR 0), some (vI x1)]) (st' := [vI (x1 + 4), vR 19, vI 12, vR 0]) (L' := LR z (uA f 1 (upd (f 1) (ix 4) (f 19 (ix (x1 + 3)))))) 7 (b202_18 (mcall (d + 2)) x1 z (uA f 1 (upd (f 1) (ix 4) (f 19 (ix (x1 + 3)))))) ?_
      obtain ⟨g1, H⟩ := H
      refine rc_g (i' := 33) (ls' := [some (vR 0), some (vI x1)]) (st' := [vI (f 19 (ix (x1 + 4))), vI 12, vR 0]) (L' := LR z (uA f 1 (upd (f 1) (ix 4) (f 19 (ix (x1 + 3)))))) (b202_19 (mcall (d + 2)) (x1 + 4) 12 _ z (uA f 1 (upd (f 1) (ix 4) (f 19 (ix (x1 + 3)))))) (pinG g1) ?_
      refine rc_b (i' := 39) (ls' := [some (vR 0), some (vI x1)]) (st' := [vI (x1 + 3), vR 19, vI (12 * (f 19 (ix (x1 + 4)))), vR 0]) (L' := LR z (uA f 1 (upd (f 1) (ix 4) (f 19 (ix (x1 + 3)))))) 6 (b202_20 (mcall (d + 2)) x1 (f 19 (ix (x1 + 4))) 12 z (uA f 1 (upd (f 1) (ix 4) (f 19 (ix (x1 + 3)))))) ?_
      obtain ⟨g1, H⟩ := H
      refine rc_g (i' := 40) (ls' := [some (vR 0), some (vI x1)]) (st' := [vI (f 19 (ix (x1 + 3))), vI (12 * (f 19 (ix (x1 + 4)))), vR 0]) (L' := LR z (uA f 1 (upd (f 1) (ix 4) (f 19 (ix (x1 + 3)))))) (b202_21 (mcall (d + 2)) (x1 + 3) (12 * (f 19 (ix (x1 + 4)))) _ z (uA f 1 (upd (f 1) (ix 4) (f 19 (ix (x1 + 3)))))) (pinG g1) ?_
      refine rc_b (i' := 41) (ls' := [some (vR 0), some (vI x1)]) (st' := [vI ((12 * (f 19 (ix (x1 + 4)))) + (f 19 (ix (x1 + 3)))), vR 0]) (L' := LR z (uA f 1 (upd (f 1) (ix 4) (f 19 (ix (x1 + 3)))))) 1 (b202_22 (mcall (d + 2)) x1 (f 19 (ix (x1 + 3))) (12 * (f 19 (ix (x1 + 4)))) _) ?_
      obtain ⟨z2, f2, hc, H⟩ := H
      refine rc_call (t := 42) (ls' := [some (vR 0), some (vI x1)]) (st' := []) (b202_23 (mcall (d + 2)) ((12 * (f 19 (ix (x1 + 4)))) + (f 19 (ix (x1 + 3)))) _ z (uA f 1 (upd (f 1) (ix 4) (f 19 (ix (x1 + 3)))))) hc ?_
      show RC (mcall (d + 2)) (mP 202) 42 [some (vR 0), some (vI x1)] [] (LR z2 f2) res
      refine rc_b (i' := 47) (ls' := [some (vR 0), some (vI x1)]) (st' := [vI (x1 + 2), vR 19]) (L' := LR z2 f2) 5 (b202_8 (mcall (d + 2)) x1 z2 f2) ?_
      obtain ⟨g1, H⟩ := H
      refine rc_g (i' := 48) (ls' := [some (vR 0), some (vI x1)]) (st' := [vI (f2 19 (ix (x1 + 2)))]) (L' := LR z2 f2) (b202_9 (mcall (d + 2)) (x1 + 2) _ z2 f2) (pinG g1) ?_
      refine rc_b (i' := 49) (ls' := [some (vR 0), some (vI x1)]) (st' := [vI 2, vI (f2 19 (ix (x1 + 2)))]) (L' := LR z2 f2) 1 (b202_10 (mcall (d + 2)) x1 (f2 19 (ix (x1 + 2))) _) ?_
      refine rc_if (it := 67) (ie := 50) (ls' := [some (vR 0), some (vI x1)]) (st' := []) (b202_11 (mcall (d + 2)) (f2 19 (ix (x1 + 2))) 2 _ _) (fun q7 => ?_) (fun q7 => ?_)
      · have H := H.1 (cI1t q7)
        subst H
        exact rc_ret (b202_12 (mcall (d + 2)) _ _)
      · have H := H.2 (cI1f q7)
        refine rc_b (i' := 58) (ls' := [some (vR 0), some (vI x1)]) (st' := [vI (x1 + 3), vR 19, vI 7, vR 1]) (L' := LR z2 f2) 8 (b202_13 (mcall (d + 2)) x1 z2 f2) ?_
        obtain ⟨g1, H⟩ := H
        refine rc_g (i' := 59) (ls' := [some (vR 0), some (vI x1)]) (st' := [vI (f2 19 (ix (x1 + 3))), vI 7, vR 1]) (L' := LR z2 f2) (b202_14 (mcall (d + 2)) (x1 + 3) 7 _ z2 f2) (pinG g1) ?_
        refine rc_b (i' := 65) (ls' := [some (vR 0), some (vI x1)]) (st' := [vI (x1 + 4), vR 19, vI (7 + (f2 19 (ix (x1 + 3)))), vR 1]) (L' := LR z2 f2) 6 (b202_15 (mcall (d + 2)) x1 (f2 19 (ix (x1 + 3))) 7 z2 f2) ?_
        obtain ⟨g1, H⟩ := H
        refine rc_g (i' := 66) (ls' := [some (vR 0), some (vI x1)]) (st' := [vI (f2 19 (ix (x1 + 4))), vI (7 + (f2 19 (ix (x1 + 3)))), vR 1]) (L' := LR z2 f2) (b202_16 (mcall (d + 2)) (x1 + 4) (7 + (f2 19 (ix (x1 + 3)))) _ z2 f2) (pinG g1) ?_
        obtain ⟨g1, H⟩ := H
        refine rc_g (i' := 67) (ls' := [some (vR 0), some (vI x1)]) (st' := []) (L' := LR z2 (uA f2 1 (upd (f2 1) (ix (7 + (f2 19 (ix (x1 + 3))))) (f2 19 (ix (x1 + 4)))))) (b202_17 (mcall (d + 2)) (7 + (f2 19 (ix (x1 + 3)))) (f2 19 (ix (x1 + 4))) _ z2 f2) (pinG g1) ?_
        subst H
        exact rc_ret (b202_12 (mcall (d + 2)) _ _)
set_option maxRecDepth 100000 in
theorem b209_1 (call : QC FA) (o1 : Option PV) (o2 : Option PV) (L : QH FA) (F : Nat) : rnG call 209 (F + 1) 0 [some (vR 0), o1, o2] [] L = rnG call 209 F 1 [some (vR 0), o1, o2] [vR 0] L := rfl
set_option maxRecDepth 100000 in
theorem b209_2 (call : QC FA) (ls : List (Option PV)) (z : Nat → Int32) (f : Nat → FA) (F : Nat) : rnG call 209 (F + 1) 1 ls [vR 0] (LR z f) = cbd (call 48 [vR 0] (LR z f)) (fun r L' => rnG call 209 F 2 ls (r.toList ++ []) L') := pcY (ih := rnG call 209 F) (call := call) (a := 48) (b := 0) (v := 12) (t := 2) (x := 0) (ls := ls) (As := []) (st' := []) (L := LR z f) rfl rfl rfl
set_option maxRecDepth 100000 in
theorem b209_3 (call : QC FA) (o1 : Option PV) (o2 : Option PV) (s0 : Int32) (L : QH FA) (F : Nat) : rnG call 209 (F + 5) 2 [some (vR 0), o1, o2] [vI s0] L = rnG call 209 F 7 [some (vR 0), some (vI s0), o2] [vI s0, vI ((-1)), vI 4, vR 0] L := rfl
set_option maxRecDepth 100000 in
theorem b209_4 (call : QC FA) (a0 : Int32) (a1 : Int32) (a2 : Int32) (ls : List (Option PV)) (z : Nat → Int32) (f : Nat → FA) (F : Nat) : rnG call 209 (F + 1) 7 ls [vI a2, vI a1, vI a0, vR 0] (LR z f) = cbd (call 243 [vR 0, vI a0, vI a1, vI a2] (LR z f)) (fun r L' => rnG call 209 F 8 ls (r.toList ++ []) L') := pcY (ih := rnG call 209 F) (call := call) (a := 243) (b := 3) (v := 12) (t := 8) (x := 0) (ls := ls) (As := [vI a0, vI a1, vI a2]) (st' := []) (L := LR z f) rfl rfl rfl
set_option maxRecDepth 100000 in
theorem b209_5 (call : QC FA) (x1 : Int32) (o2 : Option PV) (L : QH FA) (F : Nat) : rnG call 209 (F + 1) 8 [some (vR 0), some (vI x1), o2] [] L = rnG call 209 F 9 [some (vR 0), some (vI x1), o2] [vI x1] L := rfl
set_option maxRecDepth 100000 in
theorem b209_6 (call : QC FA) (x : Int32) (ls : List (Option PV)) (L : QH FA) (F : Nat) : rnG call 209 (F + 1) 9 ls [vI x] L = bif pcmp 5 x 0 then rnG call 209 F 21 ls [] L else rnG call 209 F 10 ls [] L := rfl
set_option maxRecDepth 100000 in
theorem b209_7 (call : QC FA) (x1 : Int32) (o2 : Option PV) (z : Nat → Int32) (f : Nat → FA) (F : Nat) : rnG call 209 (F + 6) 21 [some (vR 0), some (vI x1), o2] [] (LR z f) = rnG call 209 F 27 [some (vR 0), some (vI x1), o2] [vI 6, vR 1, vI 6, vR 1] (LR z f) := rfl
set_option maxRecDepth 100000 in
theorem b209_8 (call : QC FA) (x : Int32) (s0 : Int32) (ls : List (Option PV)) (z : Nat → Int32) (f : Nat → FA) (F : Nat) : rnG call 209 (F + 1) 27 ls [vI x, vR 1, vI s0, vR 1] (LR z f) = bif (Nat.beq 0 0 && pin x 499) then rnG call 209 F 28 ls [vI (f 1 (ix x)), vI s0, vR 1] (LR z f) else none := rfl
set_option maxRecDepth 100000 in
theorem b209_9 (call : QC FA) (x1 : Int32) (o2 : Option PV) (s0 : Int32) (s1 : Int32) (L : QH FA) (F : Nat) : rnG call 209 (F + 2) 28 [some (vR 0), some (vI x1), o2] [vI s0, vI s1, vR 1] L = rnG call 209 F 30 [some (vR 0), some (vI x1), o2] [vI (s0 + 1), vI s1, vR 1] L := rfl
set_option maxRecDepth 100000 in
theorem b209_10 (call : QC FA) (x y : Int32) (ls : List (Option PV)) (z : Nat → Int32) (f : Nat → FA) (F : Nat) : rnG call 209 (F + 1) 30 ls [vI y, vI x, vR 1] (LR z f) = bif (Nat.beq 0 0 && pin x 499) then rnG call 209 F 31 ls [] (LR z (uA f 1 (upd (f 1) (ix x) y))) else none := rfl
set_option maxRecDepth 100000 in
theorem b209_11 (call : QC FA) (x1 : Int32) (o2 : Option PV) (L : QH FA) (F : Nat) : rnG call 209 (F + 2) 31 [some (vR 0), some (vI x1), o2] [] L = rnG call 209 F 33 [some (vR 0), some (vI x1), some (vI 0)] [] L := rfl
set_option maxRecDepth 100000 in
theorem b209_12 (call : QC FA) (x1 : Int32) (o2 : Option PV) (z : Nat → Int32) (f : Nat → FA) (F : Nat) : rnG call 209 (F + 6) 10 [some (vR 0), some (vI x1), o2] [] (LR z f) = rnG call 209 F 16 [some (vR 0), some (vI x1), o2] [vI 5, vR 1, vI 5, vR 1] (LR z f) := rfl
set_option maxRecDepth 100000 in
theorem b209_13 (call : QC FA) (x : Int32) (s0 : Int32) (ls : List (Option PV)) (z : Nat → Int32) (f : Nat → FA) (F : Nat) : rnG call 209 (F + 1) 16 ls [vI x, vR 1, vI s0, vR 1] (LR z f) = bif (Nat.beq 0 0 && pin x 499) then rnG call 209 F 17 ls [vI (f 1 (ix x)), vI s0, vR 1] (LR z f) else none := rfl
set_option maxRecDepth 100000 in
theorem b209_14 (call : QC FA) (x1 : Int32) (o2 : Option PV) (s0 : Int32) (s1 : Int32) (L : QH FA) (F : Nat) : rnG call 209 (F + 2) 17 [some (vR 0), some (vI x1), o2] [vI s0, vI s1, vR 1] L = rnG call 209 F 19 [some (vR 0), some (vI x1), o2] [vI (s0 + 1), vI s1, vR 1] L := rfl
set_option maxRecDepth 100000 in
theorem b209_15 (call : QC FA) (x y : Int32) (ls : List (Option PV)) (z : Nat → Int32) (f : Nat → FA) (F : Nat) : rnG call 209 (F + 1) 19 ls [vI y, vI x, vR 1] (LR z f) = bif (Nat.beq 0 0 && pin x 499) then rnG call 209 F 20 ls [] (LR z (uA f 1 (upd (f 1) (ix x) y))) else none := rfl
set_option maxRecDepth 100000 in
theorem b209_16 (call : QC FA) (x1 : Int32) (o2 : Option PV) (L : QH FA) (F : Nat) : rnG call 209 (F + 3) 20 [some (vR 0), some (vI x1), o2] [] L = rnG call 209 F 33 [some (vR 0), some (vI x1), some (vI 0)] [] L := rfl
theorem vc209_0 (d : Nat) (o1 : Option PV) (o2 : Option PV) (z : Nat → Int32) (f : Nat → FA) (res : Option PV × QH FA) (H : (∃ (r1 : Int32) (z1 : Nat → Int32) (f1 : Nat → FA), (mcall (d + 5)) 48 [vR 0] (LR z f) = some (some (vI r1), LR z1 f1) ∧ (∃ (z2 : Nat → Int32) (f2 : Nat → FA), (mcall (d + 5)) 243 [vR 0, vI 4, vI ((-1)), vI r1] (LR z1 f1) = some (none, LR z2 f2) ∧ ((I r1 ≤ 0 → (pin 6 499 = true ∧ (pin 6 499 = true ∧ RC (mcall (d + 5)) (mP 209) 33 [some (vR 0), some (vI r1), some (vI 0)] [] (LR z2 (uA f2 1 (upd (f2 1) (ix 6) ((f2 1 (ix 6)) + 1)))) res))) ∧ (0 < I r1 → (pin 5 499 = true ∧ (pin 5 499 = true ∧ RC (mcall (d + 5)) (mP 209) 33 [some (vR 0), some (vI r1), some (vI 0)] [] (LR z2 (uA f2 1 (upd (f2 1) (ix 5) ((f2 1 (ix 5)) + 1)))) res))))))) : RC (mcall (d + 5)) (mP 209) 0 [some (vR 0), o1, o2] [] (LR z f) res := by
  refine rc_b (i' := 1) (ls' := [some (vR 0), o1, o2]) (st' := [vR 0]) (L' := LR z f) 1 (b209_1 (mcall (d + 5)) o1 o2 _) ?_
  obtain ⟨r1, z1, f1, hc, H⟩ := H
  refine rc_call (t := 2) (ls' := [some (vR 0), o1, o2]) (st' := []) (b209_2 (mcall (d + 5)) _ z f) hc ?_
  show RC (mcall (d + 5)) (mP 209) 2 [some (vR 0), o1, o2] [vI r1] (LR z1 f1) res
  refine rc_b (i' := 7) (ls' := [some (vR 0), some (vI r1), o2]) (st' := [vI r1, vI ((-1)), vI 4, vR 0]) (L' := LR z1 f1) 5 (b209_3 (mcall (d + 5)) o1 o2 r1 _) ?_
  obtain ⟨z2, f2, hc, H⟩ := H
  refine rc_call (t := 8) (ls' := [some (vR 0), some (vI r1), o2]) (st' := []) (b209_4 (mcall (d + 5)) 4 ((-1)) r1 _ z1 f1) hc ?_
  show RC (mcall (d + 5)) (mP 209) 8 [some (vR 0), some (vI r1), o2] [] (LR z2 f2) res
  refine rc_b (i' := 9) (ls' := [some (vR 0), some (vI r1), o2]) (st' := [vI r1]) (L' := LR z2 f2) 1 (b209_5 (mcall (d + 5)) r1 o2 _) ?_
  refine rc_if (it := 21) (ie := 10) (ls' := [some (vR 0), some (vI r1), o2]) (st' := []) (b209_6 (mcall (d + 5)) r1 _ _) (fun q1 => ?_) (fun q1 => ?_)
  · have H := H.1 (cI5t q1 rfl rfl)
    refine rc_b (i' := 27) (ls' := [some (vR 0), some (vI r1), o2]) (st' := [vI 6, vR 1, vI 6, vR 1]) (L' := LR z2 f2) 6 (b209_7 (mcall (d + 5)) r1 o2 z2 f2) ?_
    obtain ⟨g1, H⟩ := H
    refine rc_g (i' := 28) (ls' := [some (vR 0), some (vI r1), o2]) (st' := [vI (f2 1 (ix 6)), vI 6, vR 1]) (L' := LR z2 f2) (b209_8 (mcall (d + 5)) 6 6 _ z2 f2) (pinG g1) ?_
    refine rc_b (i' := 30) (ls' := [some (vR 0), some (vI r1), o2]) (st' := [vI ((f2 1 (ix 6)) + 1), vI 6, vR 1]) (L' := LR z2 f2) 2 (b209_9 (mcall (d + 5)) r1 o2 (f2 1 (ix 6)) 6 _) ?_
    obtain ⟨g1, H⟩ := H
    refine rc_g (i' := 31) (ls' := [some (vR 0), some (vI r1), o2]) (st' := []) (L' := LR z2 (uA f2 1 (upd (f2 1) (ix 6) ((f2 1 (ix 6)) + 1)))) (b209_10 (mcall (d + 5)) 6 ((f2 1 (ix 6)) + 1) _ z2 f2) (pinG g1) ?_
    refine rc_b (i' := 33) (ls' := [some (vR 0), some (vI r1), some (vI 0)]) (st' := []) (L' := LR z2 (uA f2 1 (upd (f2 1) (ix 6) ((f2 1 (ix 6)) + 1)))) 2 (b209_11 (mcall (d + 5)) r1 o2 _) ?_
    exact H
  · have H := H.2 (cI5f q1 rfl rfl)
    refine rc_b (i' := 16) (ls' := [some (vR 0), some (vI r1), o2]) (st' := [vI 5, vR 1, vI 5, vR 1]) (L' := LR z2 f2) 6 (b209_12 (mcall (d + 5)) r1 o2 z2 f2) ?_
    obtain ⟨g1, H⟩ := H
    refine rc_g (i' := 17) (ls' := [some (vR 0), some (vI r1), o2]) (st' := [vI (f2 1 (ix 5)), vI 5, vR 1]) (L' := LR z2 f2) (b209_13 (mcall (d + 5)) 5 5 _ z2 f2) (pinG g1) ?_
    refine rc_b (i' := 19) (ls' := [some (vR 0), some (vI r1), o2]) (st' := [vI ((f2 1 (ix 5)) + 1), vI 5, vR 1]) (L' := LR z2 f2) 2 (b209_14 (mcall (d + 5)) r1 o2 (f2 1 (ix 5)) 5 _) ?_
    obtain ⟨g1, H⟩ := H
    refine rc_g (i' := 20) (ls' := [some (vR 0), some (vI r1), o2]) (st' := []) (L' := LR z2 (uA f2 1 (upd (f2 1) (ix 5) ((f2 1 (ix 5)) + 1)))) (b209_15 (mcall (d + 5)) 5 ((f2 1 (ix 5)) + 1) _ z2 f2) (pinG g1) ?_
    refine rc_b (i' := 33) (ls' := [some (vR 0), some (vI r1), some (vI 0)]) (st' := []) (L' := LR z2 (uA f2 1 (upd (f2 1) (ix 5) ((f2 1 (ix 5)) + 1)))) 3 (b209_16 (mcall (d + 5)) r1 o2 _) ?_
    exact H
set_option maxRecDepth 100000 in
theorem bc33_209_1 (call : QC FA) (o1 : Option PV) (x2 : Int32) (L : QH FA) (F : Nat) : rnG call 209 (F + 2) 33 [some (vR 0), o1, some (vI x2)] [] L = rnG call 209 F 35 [some (vR 0), o1, some (vI x2)] [vI 144, vI x2] L := rfl
set_option maxRecDepth 100000 in
theorem bc33_209_2 (call : QC FA) (x y : Int32) (ls : List (Option PV)) (L : QH FA) (F : Nat) : rnG call 209 (F + 1) 35 ls [vI y, vI x] L = bif pcmp 3 x y then rnG call 209 F 41 ls [] L else rnG call 209 F 36 ls [] L := rfl
set_option maxRecDepth 100000 in
theorem bc33_209_3 (call : QC FA) (o1 : Option PV) (x2 : Int32) (z : Nat → Int32) (f : Nat → FA) (F : Nat) : rnG call 209 (F + 4) 41 [some (vR 0), o1, some (vI x2)] [] (LR z f) = rnG call 209 F 45 [some (vR 0), o1, some (vI x2)] [vI 0, vI 1, vR 1] (LR z f) := rfl
set_option maxRecDepth 100000 in
theorem bc33_209_4 (call : QC FA) (x y : Int32) (ls : List (Option PV)) (z : Nat → Int32) (f : Nat → FA) (F : Nat) : rnG call 209 (F + 1) 45 ls [vI y, vI x, vR 1] (LR z f) = bif (Nat.beq 0 0 && pin x 499) then rnG call 209 F 46 ls [] (LR z (uA f 1 (upd (f 1) (ix x) y))) else none := rfl
set_option maxRecDepth 100000 in
theorem bc33_209_5 (call : QC FA) (o1 : Option PV) (x2 : Int32) (z : Nat → Int32) (f : Nat → FA) (F : Nat) : rnG call 209 (F + 6) 46 [some (vR 0), o1, some (vI x2)] [] (LR z f) = rnG call 209 F 52 [some (vR 0), o1, some (vI x2)] [vI 0, vR 1, vI 0, vR 1] (LR z f) := rfl
set_option maxRecDepth 100000 in
theorem bc33_209_6 (call : QC FA) (x : Int32) (s0 : Int32) (ls : List (Option PV)) (z : Nat → Int32) (f : Nat → FA) (F : Nat) : rnG call 209 (F + 1) 52 ls [vI x, vR 1, vI s0, vR 1] (LR z f) = bif (Nat.beq 0 0 && pin x 499) then rnG call 209 F 53 ls [vI (f 1 (ix x)), vI s0, vR 1] (LR z f) else none := rfl
set_option maxRecDepth 100000 in
theorem bc33_209_7 (call : QC FA) (o1 : Option PV) (x2 : Int32) (s0 : Int32) (s1 : Int32) (L : QH FA) (F : Nat) : rnG call 209 (F + 2) 53 [some (vR 0), o1, some (vI x2)] [vI s0, vI s1, vR 1] L = rnG call 209 F 55 [some (vR 0), o1, some (vI x2)] [vI (s0 + 1), vI s1, vR 1] L := rfl
set_option maxRecDepth 100000 in
theorem bc33_209_8 (call : QC FA) (x y : Int32) (ls : List (Option PV)) (z : Nat → Int32) (f : Nat → FA) (F : Nat) : rnG call 209 (F + 1) 55 ls [vI y, vI x, vR 1] (LR z f) = bif (Nat.beq 0 0 && pin x 499) then rnG call 209 F 56 ls [] (LR z (uA f 1 (upd (f 1) (ix x) y))) else none := rfl
set_option maxRecDepth 100000 in
theorem bc33_209_9 (call : QC FA) (ls : List (Option PV)) (L : QH FA) (F : Nat) : rnG call 209 (F + 1) 56 ls [] L = some (none, L) := rfl
set_option maxRecDepth 100000 in
theorem bc33_209_10 (call : QC FA) (o1 : Option PV) (x2 : Int32) (L : QH FA) (F : Nat) : rnG call 209 (F + 2) 36 [some (vR 0), o1, some (vI x2)] [] L = rnG call 209 F 38 [some (vR 0), o1, some (vI x2)] [vI x2, vR 0] L := rfl
set_option maxRecDepth 100000 in
theorem bc33_209_11 (call : QC FA) (a0 : Int32) (ls : List (Option PV)) (z : Nat → Int32) (f : Nat → FA) (F : Nat) : rnG call 209 (F + 1) 38 ls [vI a0, vR 0] (LR z f) = cbd (call 220 [vR 0, vI a0] (LR z f)) (fun r L' => rnG call 209 F 39 ls (r.toList ++ []) L') := pcY (ih := rnG call 209 F) (call := call) (a := 220) (b := 1) (v := 12) (t := 39) (x := 0) (ls := ls) (As := [vI a0]) (st' := []) (L := LR z f) rfl rfl rfl
set_option maxRecDepth 100000 in
theorem bc33_209_12 (call : QC FA) (o1 : Option PV) (x2 : Int32) (L : QH FA) (F : Nat) : rnG call 209 (F + 1) 39 [some (vR 0), o1, some (vI x2)] [] L = rnG call 209 F 40 [some (vR 0), o1, some (vI (x2 + 1))] [] L := rfl
set_option maxRecDepth 100000 in
theorem bc33_209_13 (call : QC FA) (o1 : Option PV) (x2 : Int32) (L : QH FA) (F : Nat) : rnG call 209 (F + 1) 40 [some (vR 0), o1, some (vI x2)] [] L = rnG call 209 F 33 [some (vR 0), o1, some (vI x2)] [] L := rfl
theorem vcc33_209_33 (d : Nat) (o1 : Option PV) (x2 : Int32) (z : Nat → Int32) (f : Nat → FA) (res : Option PV × QH FA) (H : ((144 ≤ I x2 → (pin 1 499 = true ∧ (pin 0 499 = true ∧ (pin 0 499 = true ∧ res = (none, LR z (uA (uA f 1 (upd (f 1) (ix 1) 0)) 1 (upd (upd (f 1) (ix 1) 0) (ix 0) (((upd (f 1) (ix 1) 0) (ix 0)) + 1)))))))) ∧ (I x2 < 144 → (∃ (z1 : Nat → Int32) (f1 : Nat → FA), (mcall (d + 5)) 220 [vR 0, vI x2] (LR z f) = some (none, LR z1 f1) ∧ RC (mcall (d + 5)) (mP 209) 33 [some (vR 0), o1, some (vI (x2 + 1))] [] (LR z1 f1) res)))) : RC (mcall (d + 5)) (mP 209) 33 [some (vR 0), o1, some (vI x2)] [] (LR z f) res := by
  refine rc_b (i' := 35) (ls' := [some (vR 0), o1, some (vI x2)]) (st' := [vI 144, vI x2]) (L' := LR z f) 2 (bc33_209_1 (mcall (d + 5)) o1 x2 _) ?_
  refine rc_if (it := 41) (ie := 36) (ls' := [some (vR 0), o1, some (vI x2)]) (st' := []) (bc33_209_2 (mcall (d + 5)) x2 144 _ _) (fun q1 => ?_) (fun q1 => ?_)
  · have H := H.1 (cI3t q1 rfl rfl)
    refine rc_b (i' := 45) (ls' := [some (vR 0), o1, some (vI x2)]) (st' := [vI 0, vI 1, vR 1]) (L' := LR z f) 4 (bc33_209_3 (mcall (d + 5)) o1 x2 z f) ?_
    obtain ⟨g1, H⟩ := H
    refine rc_g (i' := 46) (ls' := [some (vR 0), o1, some (vI x2)]) (st' := []) (L' := LR z (uA f 1 (upd (f 1) (ix 1) 0))) (bc33_209_4 (mcall (d + 5)) 1 0 _ z f) (pinG g1) ?_
    refine rc_b (i' := 52) (ls' := [some (vR 0), o1, some (vI x2)]) (st' := [vI 0, vR 1, vI 0, vR 1]) (L' := LR z (uA f 1 (upd (f 1) (ix 1) 0))) 6 (bc33_209_5 (mcall (d + 5)) o1 x2 z (uA f 1 (upd (f 1) (ix 1) 0))) ?_
    obtain ⟨g1, H⟩ := H
    refine rc_g (i' := 53) (ls' := [some (vR 0), o1, some (vI x2)]) (st' := [vI ((upd (f 1) (ix 1) 0) (ix 0)), vI 0, vR 1]) (L' := LR z (uA f 1 (upd (f 1) (ix 1) 0))) (bc33_209_6 (mcall (d + 5)) 0 0 _ z (uA f 1 (upd (f 1) (ix 1) 0))) (pinG g1) ?_
    refine rc_b (i' := 55) (ls' := [some (vR 0), o1, some (vI x2)]) (st' := [vI (((upd (f 1) (ix 1) 0) (ix 0)) + 1), vI 0, vR 1]) (L' := LR z (uA f 1 (upd (f 1) (ix 1) 0))) 2 (bc33_209_7 (mcall (d + 5)) o1 x2 ((upd (f 1) (ix 1) 0) (ix 0)) 0 _) ?_
    obtain ⟨g1, H⟩ := H
    refine rc_g (i' := 56) (ls' := [some (vR 0), o1, some (vI x2)]) (st' := []) (L' := LR z (uA (uA f 1 (upd (f 1) (ix 1) 0)) 1 (upd (upd (f 1) (ix 1) 0) (ix 0) (((upd (f 1) (ix 1) 0) (ix 0)) + 1)))) (bc33_209_8 (mcall (d + 5)) 0 (((upd (f 1) (ix 1) 0) (ix 0)) + 1) _ z (uA f 1 (upd (f 1) (ix 1) 0))) (pinG g1) ?_
    subst H
    exact rc_ret (bc33_209_9 (mcall (d + 5)) _ _)
  · have H := H.2 (cI3f q1 rfl rfl)
    refine rc_b (i' := 38) (ls' := [some (vR 0), o1, some (vI x2)]) (st' := [vI x2, vR 0]) (L' := LR z f) 2 (bc33_209_10 (mcall (d + 5)) o1 x2 _) ?_
    obtain ⟨z1, f1, hc, H⟩ := H
    refine rc_call (t := 39) (ls' := [some (vR 0), o1, some (vI x2)]) (st' := []) (bc33_209_11 (mcall (d + 5)) x2 _ z f) hc ?_
    show RC (mcall (d + 5)) (mP 209) 39 [some (vR 0), o1, some (vI x2)] [] (LR z1 f1) res
    refine rc_b (i' := 40) (ls' := [some (vR 0), o1, some (vI (x2 + 1))]) (st' := []) (L' := LR z1 f1) 1 (bc33_209_12 (mcall (d + 5)) o1 x2 _) ?_
    refine rc_b (i' := 33) (ls' := [some (vR 0), o1, some (vI (x2 + 1))]) (st' := []) (L' := LR z1 f1) 1 (bc33_209_13 (mcall (d + 5)) o1 (x2 + 1) _) ?_
    exact H
theorem mCan (d : Nat) {v : Nat} (hv : v < 20) {z : Nat → Int32} {r : Nat → FA} : mcall (d + 1) 193 [vR 0, vI (nI v)] (LR z r) = some (some (vI (mk1 (r 1 (27 + v) = 0 ∧ ¬ r 1 (7 + v) = 0))), LR z r) := by
  have e27 : (27 : Int32) + nI v = nI (27 + v) := nI_add 27 v
  have e7 : (7 : Int32) + nI v = nI (7 + v) := nI_add 7 v
  have go : ∀ res, _ → mcall (d + 1) 193 [vR 0, vI (nI v)] (LR z r) = some res := fun res H => mcall_i (mq193 (cu := [])).2.2 rfl (vc193_0 (mcall d) (nI v) z r res H)
  rw [e27, e7, ix_nI (j := 27 + v) (by omega), ix_nI (j := 7 + v) (by omega)] at go
  refine go _ ⟨pin_nI (by omega) (by omega), fun q => ?_, fun q => ⟨pin_nI (by omega) (by omega), fun q2 => ?_, fun q2 => ?_⟩⟩
  · rw [mk1_f (fun c => q c.1)]
  · rw [mk1_f (fun c => c.2 q2)]
  · rw [mk1_t ⟨q, q2⟩]
def zr9 (g : FA) (n : Nat) : FA := fun j => if j < n then 0 else g j
theorem zr9_0 (g : FA) : zr9 g 0 = g := by
  funext j
  exact if_neg (Nat.not_lt_zero j)
theorem zr9_s (g : FA) (n : Nat) : upd (zr9 g n) n 0 = zr9 g (n + 1) := by
  funext j
  unfold upd zr9
  by_cases e : j = n
  · subst e
    simp
  · simp only [e, if_false]
    by_cases q : j < n
    · rw [if_pos q, if_pos (by omega)]
    · rw [if_neg q, if_neg (by omega)]
/-- all marks gone, the hour put back, a day more: the reference's loop -/
theorem mEvl (d : Nat) (o1 : Option PV) {z : Nat → Int32} : ∀ t i, i + t = 144 → ∀ r : Nat → FA, (∀ j, j < i → r 1 (67 + j) = 0 ∧ r 1 (211 + j) = 0 ∧ r 1 (355 + j) = 0) → ∃ G, (∀ j, 67 ≤ j → j < 499 → G j = 0) ∧ G 1 = 0 ∧ G 0 = r 1 0 + 1 ∧ (∀ j, 2 ≤ j → j < 67 → G j = r 1 j) ∧ RC (mcall (d + 5)) (mP 209) 33 [some (vR 0), o1, some (vI (nI i))] [] (LR z r) (none, LR z (uA r 1 G)) := by
  have x0 : ix 0 = 0 := by decide
  have x1 : ix 1 = 1 := by decide
  intro t
  induction t with
  | zero =>
    intro i hi r h
    obtain rfl : i = 144 := by omega
    refine ⟨upd (upd (r 1) 1 0) 0 (r 1 0 + 1), fun j h1 h2 => ?_, ?_, pk_us, fun j h1 h2 => by rw [pk_un (by omega), pk_un (by omega)], vcc33_209_33 d _ _ _ _ _ ⟨fun _ => ⟨by decide, by decide, by decide, ?_⟩, fun q => absurd q (by decide)⟩⟩
    · rw [pk_un (by omega), pk_un (by omega)]
      rcases Nat.lt_or_ge j 211 with c | c
      · have := (h (j - 67) (by omega)).1
        rw [show 67 + (j - 67) = j by omega] at this
        exact this
      · rcases Nat.lt_or_ge j 355 with c2 | c2
        · have := (h (j - 211) (by omega)).2.1
          rw [show 211 + (j - 211) = j by omega] at this
          exact this
        · have := (h (j - 355) (by omega)).2.2
          rw [show 355 + (j - 355) = j by omega] at this
          exact this
    · rw [pk_un (by omega), pk_us]
    · rw [x0, x1, uA_uA, pk_un (show (0 : Nat) ≠ 1 by decide)]
  | succ t ih =>
    intro i hi r h
    obtain ⟨G, g1, g2, g3, g4, g5⟩ := ih (i + 1) (by omega) (uA r 1 (upd (upd (upd (r 1) (67 + i) 0) (211 + i) 0) (355 + i) 0)) (fun j hj => by
      rw [uA_self]
      by_cases c : j = i
      · subst c
        exact ⟨by rw [pk_un (by omega), pk_un (by omega), pk_us], by rw [pk_un (by omega), pk_us], pk_us⟩
      · obtain ⟨a1, a2, a3⟩ := h j (by omega)
        exact ⟨by rw [pk_un (by omega), pk_un (by omega), pk_un (by omega)]; exact a1, by rw [pk_un (by omega), pk_un (by omega), pk_un (by omega)]; exact a2, by rw [pk_un (by omega), pk_un (by omega), pk_un (by omega)]; exact a3⟩)
    rw [uA_uA] at g5
    rw [uA_self, pk_un (by omega), pk_un (by omega), pk_un (by omega)] at g3
    refine ⟨G, g1, g2, g3, fun j h1 h2 => by rw [g4 j h1 h2, uA_self, pk_un (by omega), pk_un (by omega), pk_un (by omega)], vcc33_209_33 d _ _ _ _ _ ⟨fun q => by rw [I_nI (n := i) (by omega)] at q; omega, fun _ => ⟨_, _, mBare (d + 4) (by omega), ?_⟩⟩⟩
    rw [show nI i + 1 = nI (i + 1) from nI_add i 1]
    exact g5
