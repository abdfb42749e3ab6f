/-! a sky, ways, twins to their ends -/
theorem BNDz.rn {z z' : Nat → Int32} {t a : Nat} {f : Nat → FA} (h : BNDz z) (hn : RNz z z') (hs : TS t a z' f) : BNDz z' := by
  have hal := hs.a_le
  obtain ⟨h0, h1, h2, h3, h4, h5, ⟨s, s1, s2, s3⟩, h7⟩ := hs
  intro e he
  by_cases c1 : e.1 = 13
  · have : e = (13, 2147483648, 2147484048) := by
      have key : ∀ e, e ∈ FBl → e.1 = 13 → e = (13, 2147483648, 2147484048) := by decide
      exact key e he c1
    subst this
    rw [s1]
    exact inb_nI (lo := 0) (hi := 400) (by omega) (by omega) (by omega)
  · by_cases c2 : e.1 = 14
    · have : e = (14, 2147483648, 2147484048) := by
        have key : ∀ e, e ∈ FBl → e.1 = 14 → e = (14, 2147483648, 2147484048) := by decide
        exact key e he c2
      subst this
      rw [h3]
      exact inb_nI (lo := 0) (hi := 400) (by omega) (by omega) (by omega)
    · have key : ∀ e, e ∈ FBl → e.1 ≠ 15 ∧ e.1 ≠ 16 ∧ e.1 ≠ 30 ∧ e.1 ≠ 31 := by decide
      obtain ⟨k1, k2, k3, k4⟩ := key e he
      rw [hn e.1 c1 c2 k1 k2 k3 k4]
      exact h e he
theorem i999 : I (999 : Int32) = 999 := by decide
theorem i11 : I (11 : Int32) = 11 := by decide
/-- a line of a sky that may come into force -/
def GLn (f : Nat → FA) (n : Nat) : Prop := inb 2147483648 2147484647 (f 19 (80 + 5 * n)) ∧ GD f n ∧ (f 19 (80 + 5 * n + 2) = 1 → inb 2147483648 2147483659 (f 19 (80 + 5 * n + 3)) ∧ inb 2147483648 2147483659 (f 19 (80 + 5 * n + 4)))
set_option maxRecDepth 100000 in
theorem b253_1 (call : QC FA) (x1 : Int32) (o2 : Option PV) (o3 : Option PV) (z : Nat → Int32) (f : Nat → FA) (F : Nat) : rnG call 253 (F + 7) 0 [some (vR 0), some (vI x1), o2, o3] [] (LR z f) = rnG call 253 F 7 [some (vR 0), some (vI x1), o2, o3] [vI 999, vI 0, vI 20, vR 0, vI x1, vR 19] (LR z f) := rfl
set_option maxRecDepth 100000 in
theorem b253_2 (call : QC FA) (a0 : Int32) (a1 : Int32) (a2 : Int32) (s0 : Int32) (ls : List (Option PV)) (z : Nat → Int32) (f : Nat → FA) (F : Nat) : rnG call 253 (F + 1) 7 ls [vI a2, vI a1, vI a0, vR 0, vI s0, vR 19] (LR z f) = cbd (call 263 [vR 0, vI a0, vI a1, vI a2] (LR z f)) (fun r L' => rnG call 253 F 8 ls (r.toList ++ [vI s0, vR 19]) L') := pcY (ih := rnG call 253 F) (call := call) (a := 263) (b := 3) (v := 12) (t := 8) (x := 0) (ls := ls) (As := [vI a0, vI a1, vI a2]) (st' := [vI s0, vR 19]) (L := LR z f) rfl rfl rfl
set_option maxRecDepth 100000 in
theorem b253_3 (call : QC FA) (x y : Int32) (ls : List (Option PV)) (z : Nat → Int32) (f : Nat → FA) (F : Nat) : rnG call 253 (F + 1) 8 ls [vI y, vI x, vR 19] (LR z f) = bif (Nat.beq 0 0 && pin x 160) then rnG call 253 F 9 ls [] (LR z (uA f 19 (upd (f 19) (ix x) y))) else none := rfl
set_option maxRecDepth 100000 in
theorem b253_4 (call : QC FA) (x1 : Int32) (o2 : Option PV) (o3 : Option PV) (z : Nat → Int32) (f : Nat → FA) (F : Nat) : rnG call 253 (F + 3) 9 [some (vR 0), some (vI x1), o2, o3] [] (LR z f) = rnG call 253 F 12 [some (vR 0), some (vI x1), o2, o3] [vI x1, vR 19] (LR z f) := rfl
set_option maxRecDepth 100000 in
theorem b253_5 (call : QC FA) (x : Int32) (ls : List (Option PV)) (z : Nat → Int32) (f : Nat → FA) (F : Nat) : rnG call 253 (F + 1) 12 ls [vI x, vR 19] (LR z f) = bif (Nat.beq 0 0 && pin x 160) then rnG call 253 F 13 ls [vI (f 19 (ix x))] (LR z f) else none := rfl
set_option maxRecDepth 100000 in
theorem b253_6 (call : QC FA) (x1 : Int32) (o2 : Option PV) (o3 : Option PV) (s0 : Int32) (L : QH FA) (F : Nat) : rnG call 253 (F + 1) 13 [some (vR 0), some (vI x1), o2, o3] [vI s0] L = rnG call 253 F 14 [some (vR 0), some (vI x1), o2, o3] [vI ((-1)), vI s0] L := rfl
set_option maxRecDepth 100000 in
theorem b253_7 (call : QC FA) (x y : Int32) (ls : List (Option PV)) (L : QH FA) (F : Nat) : rnG call 253 (F + 1) 14 ls [vI y, vI x] L = bif pcmp 1 x y then rnG call 253 F 17 ls [] L else rnG call 253 F 15 ls [] L := rfl
set_option maxRecDepth 100000 in
theorem b253_8 (call : QC FA) (x1 : Int32) (o2 : Option PV) (o3 : Option PV) (L : QH FA) (F : Nat) : rnG call 253 (F + 2) 17 [some (vR 0), some (vI x1), o2, o3] [] L = rnG call 253 F 19 [some (vR 0), some (vI x1), o2, o3] [vI 11, vR 0] L := rfl
set_option maxRecDepth 100000 in
theorem b253_9 (call : QC FA) (a0 : Int32) (ls : List (Option PV)) (z : Nat → Int32) (f : Nat → FA) (F : Nat) : rnG call 253 (F + 1) 19 ls [vI a0, vR 0] (LR z f) = cbd (call 228 [vR 0, vI a0] (LR z f)) (fun r L' => rnG call 253 F 20 ls (r.toList ++ []) L') := pcY (ih := rnG call 253 F) (call := call) (a := 228) (b := 1) (v := 12) (t := 20) (x := 0) (ls := ls) (As := [vI a0]) (st' := []) (L := LR z f) rfl rfl rfl
set_option maxRecDepth 100000 in
theorem b253_10 (call : QC FA) (x : Int32) (ls : List (Option PV)) (L : QH FA) (F : Nat) : rnG call 253 (F + 1) 20 ls [vI x] L = bif pcmp 0 x 0 then rnG call 253 F 23 ls [] L else rnG call 253 F 21 ls [] L := rfl
set_option maxRecDepth 100000 in
theorem b253_11 (call : QC FA) (x1 : Int32) (o2 : Option PV) (o3 : Option PV) (L : QH FA) (F : Nat) : rnG call 253 (F + 2) 23 [some (vR 0), some (vI x1), o2, o3] [] L = rnG call 253 F 25 [some (vR 0), some (vI x1), o2, o3] [vI 21, vR 0] L := rfl
set_option maxRecDepth 100000 in
theorem b253_12 (call : QC FA) (a0 : Int32) (ls : List (Option PV)) (z : Nat → Int32) (f : Nat → FA) (F : Nat) : rnG call 253 (F + 1) 25 ls [vI a0, vR 0] (LR z f) = cbd (call 228 [vR 0, vI a0] (LR z f)) (fun r L' => rnG call 253 F 26 ls (r.toList ++ []) L') := pcY (ih := rnG call 253 F) (call := call) (a := 228) (b := 1) (v := 12) (t := 26) (x := 0) (ls := ls) (As := [vI a0]) (st' := []) (L := LR z f) rfl rfl rfl
set_option maxRecDepth 100000 in
theorem b253_13 (call : QC FA) (x : Int32) (ls : List (Option PV)) (L : QH FA) (F : Nat) : rnG call 253 (F + 1) 26 ls [vI x] L = bif pcmp 0 x 0 then rnG call 253 F 29 ls [] L else rnG call 253 F 27 ls [] L := rfl
set_option maxRecDepth 100000 in
theorem b253_14 (call : QC FA) (x1 : Int32) (o2 : Option PV) (o3 : Option PV) (L : QH FA) (F : Nat) : rnG call 253 (F + 2) 29 [some (vR 0), some (vI x1), o2, o3] [] L = rnG call 253 F 31 [some (vR 0), some (vI x1), o2, o3] [vI 7, vR 0] L := rfl
set_option maxRecDepth 100000 in
theorem b253_15 (call : QC FA) (a0 : Int32) (ls : List (Option PV)) (z : Nat → Int32) (f : Nat → FA) (F : Nat) : rnG call 253 (F + 1) 31 ls [vI a0, vR 0] (LR z f) = cbd (call 228 [vR 0, vI a0] (LR z f)) (fun r L' => rnG call 253 F 32 ls (r.toList ++ []) L') := pcY (ih := rnG call 253 F) (call := call) (a := 228) (b := 1) (v := 12) (t := 32) (x := 0) (ls := ls) (As := [vI a0]) (st' := []) (L := LR z f) rfl rfl rfl
set_option maxRecDepth 100000 in
theorem b253_16 (call : QC FA) (x : Int32) (ls : List (Option PV)) (L : QH FA) (F : Nat) : rnG call 253 (F + 1) 32 ls [vI x] L = bif pcmp 0 x 0 then rnG call 253 F 35 ls [] L else rnG call 253 F 33 ls [] L := rfl
set_option maxRecDepth 100000 in
theorem b253_17 (call : QC FA) (x1 : Int32) (o2 : Option PV) (o3 : Option PV) (L : QH FA) (F : Nat) : rnG call 253 (F + 4) 35 [some (vR 0), some (vI x1), o2, o3] [] L = rnG call 253 F 39 [some (vR 0), some (vI x1), some (vI ((-1))), o3] [vI ((-1)), vI ((-1))] L := rfl
set_option maxRecDepth 100000 in
theorem b253_18 (call : QC FA) (x y : Int32) (ls : List (Option PV)) (L : QH FA) (F : Nat) : rnG call 253 (F + 1) 39 ls [vI y, vI x] L = bif pcmp 1 x y then rnG call 253 F 44 ls [] L else rnG call 253 F 40 ls [] L := rfl
set_option maxRecDepth 100000 in
theorem b253_19 (call : QC FA) (x1 : Int32) (x2 : Int32) (o3 : Option PV) (L : QH FA) (F : Nat) : rnG call 253 (F + 2) 40 [some (vR 0), some (vI x1), some (vI x2), o3] [] L = rnG call 253 F 42 [some (vR 0), some (vI x1), some (vI x2), o3] [vI 1, vR 0] L := rfl
set_option maxRecDepth 100000 in
theorem b253_20 (call : QC FA) (a0 : Int32) (ls : List (Option PV)) (z : Nat → Int32) (f : Nat → FA) (F : Nat) : rnG call 253 (F + 1) 42 ls [vI a0, vR 0] (LR z f) = cbd (call 208 [vR 0, vI a0] (LR z f)) (fun r L' => rnG call 253 F 43 ls (r.toList ++ []) L') := pcY (ih := rnG call 253 F) (call := call) (a := 208) (b := 1) (v := 12) (t := 43) (x := 0) (ls := ls) (As := [vI a0]) (st' := []) (L := LR z f) rfl rfl rfl
set_option maxRecDepth 100000 in
theorem b253_21 (call : QC FA) (x : Int32) (ls : List (Option PV)) (L : QH FA) (F : Nat) : rnG call 253 (F + 1) 43 ls [vI x] L = some (some (vI x), L) := rfl
set_option maxRecDepth 100000 in
theorem b253_22 (call : QC FA) (x1 : Int32) (o2 : Option PV) (o3 : Option PV) (L : QH FA) (F : Nat) : rnG call 253 (F + 5) 33 [some (vR 0), some (vI x1), o2, o3] [] L = rnG call 253 F 39 [some (vR 0), some (vI x1), some (vI 2), o3] [vI ((-1)), vI 2] L := rfl
set_option maxRecDepth 100000 in
theorem b253_23 (call : QC FA) (x1 : Int32) (o2 : Option PV) (o3 : Option PV) (L : QH FA) (F : Nat) : rnG call 253 (F + 5) 27 [some (vR 0), some (vI x1), o2, o3] [] L = rnG call 253 F 39 [some (vR 0), some (vI x1), some (vI 1), o3] [vI ((-1)), vI 1] L := rfl
set_option maxRecDepth 100000 in
theorem b253_24 (call : QC FA) (x1 : Int32) (o2 : Option PV) (o3 : Option PV) (L : QH FA) (F : Nat) : rnG call 253 (F + 5) 21 [some (vR 0), some (vI x1), o2, o3] [] L = rnG call 253 F 39 [some (vR 0), some (vI x1), some (vI 0), o3] [vI ((-1)), vI 0] L := rfl
set_option maxRecDepth 100000 in
theorem b253_25 (call : QC FA) (x1 : Int32) (o2 : Option PV) (o3 : Option PV) (L : QH FA) (F : Nat) : rnG call 253 (F + 1) 15 [some (vR 0), some (vI x1), o2, o3] [] L = rnG call 253 F 16 [some (vR 0), some (vI x1), o2, o3] [vI ((-1))] L := rfl
set_option maxRecDepth 100000 in
theorem b253_26 (call : QC FA) (x : Int32) (ls : List (Option PV)) (L : QH FA) (F : Nat) : rnG call 253 (F + 1) 16 ls [vI x] L = some (some (vI x), L) := rfl
theorem vc253_0 (d : Nat) (x1 : Int32) (o2 : Option PV) (o3 : Option PV) (z : Nat → Int32) (f : Nat → FA) (res : Option PV × QH FA) (H : (∃ (r1 : Int32) (z1 : Nat → Int32) (f1 : Nat → FA), (mcall (d + 6)) 263 [vR 0, vI 20, vI 0, vI 999] (LR z f) = some (some (vI r1), LR z1 f1) ∧ (pin x1 160 = true ∧ (pin x1 160 = true ∧ ((¬ (upd (f1 19) (ix x1) r1) (ix x1) = (-1) → (((z1 15 = 2 ∧ z1 16 = 11) → RC (mcall (d + 6)) (mP 253) 44 [some (vR 0), some (vI x1), some (vI 0), o3] [] (LR z1 (uA f1 19 (upd (f1 19) (ix x1) r1))) res) ∧ ((¬ (z1 15 = 2 ∧ z1 16 = 11)) → (((z1 15 = 2 ∧ z1 16 = 21) → RC (mcall (d + 6)) (mP 253) 44 [some (vR 0), some (vI x1), some (vI 1), o3] [] (LR z1 (uA f1 19 (upd (f1 19) (ix x1) r1))) res) ∧ ((¬ (z1 15 = 2 ∧ z1 16 = 21)) → (((z1 15 = 2 ∧ z1 16 = 7) → RC (mcall (d + 6)) (mP 253) 44 [some (vR 0), some (vI x1), some (vI 2), o3] [] (LR z1 (uA f1 19 (upd (f1 19) (ix x1) r1))) res) ∧ ((¬ (z1 15 = 2 ∧ z1 16 = 7)) → (∃ (r2 : Int32) (z2 : Nat → Int32) (f2 : Nat → FA), (mcall (d + 6)) 208 [vR 0, vI 1] (LR z1 (uA f1 19 (upd (f1 19) (ix x1) r1))) = some (some (vI r2), LR z2 f2) ∧ res = (some (vI r2), LR z2 f2))))))))) ∧ ((upd (f1 19) (ix x1) r1) (ix x1) = (-1) → res = (some (vI ((-1))), LR z1 (uA f1 19 (upd (f1 19) (ix x1) r1))))))))) : RC (mcall (d + 6)) (mP 253) 0 [some (vR 0), some (vI x1), o2, o3] [] (LR z f) res := by
  refine rc_b (i' := 7) (ls' := [some (vR 0), some (vI x1), o2, o3]) (st' := [vI 999, vI 0, vI 20, vR 0, vI x1, vR 19]) (L' := LR z f) 7 (b253_1 (mcall (d + 6)) x1 o2 o3 z f) ?_
  obtain ⟨r1, z1, f1, hc, H⟩ := H
  refine rc_call (t := 8) (ls' := [some (vR 0), some (vI x1), o2, o3]) (st' := [vI x1, vR 19]) (b253_2 (mcall (d + 6)) 20 0 999 x1 _ z f) hc ?_
  show RC (mcall (d + 6)) (mP 253) 8 [some (vR 0), some (vI x1), o2, o3] [vI r1, vI x1, vR 19] (LR z1 f1) res
  obtain ⟨g1, H⟩ := H
  refine rc_g (i' := 9) (ls' := [some (vR 0), some (vI x1), o2, o3]) (st' := []) (L' := LR z1 (uA f1 19 (upd (f1 19) (ix x1) r1))) (b253_3 (mcall (d + 6)) x1 r1 _ z1 f1) (pinG g1) ?_
  refine rc_b (i' := 12) (ls' := [some (vR 0), some (vI x1), o2, o3]) (st' := [vI x1, vR 19]) (L' := LR z1 (uA f1 19 (upd (f1 19) (ix x1) r1))) 3 (b253_4 (mcall (d + 6)) x1 o2 o3 z1 (uA f1 19 (upd (f1 19) (ix x1) r1))) ?_
  obtain ⟨g1, H⟩ := H
  refine rc_g (i' := 13) (ls' := [some (vR 0), some (vI x1), o2, o3]) (st' := [vI ((upd (f1 19) (ix x1) r1) (ix x1))]) (L' := LR z1 (uA f1 19 (upd (f1 19) (ix x1) r1))) (b253_5 (mcall (d + 6)) x1 _ z1 (uA f1 19 (upd (f1 19) (ix x1) r1))) (pinG g1) ?_
  refine rc_b (i' := 14) (ls' := [some (vR 0), some (vI x1), o2, o3]) (st' := [vI ((-1)), vI ((upd (f1 19) (ix x1) r1) (ix x1))]) (L' := LR z1 (uA f1 19 (upd (f1 19) (ix x1) r1))) 1 (b253_6 (mcall (d + 6)) x1 o2 o3 ((upd (f1 19) (ix x1) r1) (ix x1)) _) ?_
  refine rc_if (it := 17) (ie := 15) (ls' := [some (vR 0), some (vI x1), o2, o3]) (st' := []) (b253_7 (mcall (d + 6)) ((upd (f1 19) (ix x1) r1) (ix x1)) ((-1)) _ _) (fun q1 => ?_) (fun q1 => ?_)
  · have H := H.1 (cI1t q1)
    refine rc_b (i' := 19) (ls' := [some (vR 0), some (vI x1), o2, o3]) (st' := [vI 11, vR 0]) (L' := LR z1 (uA f1 19 (upd (f1 19) (ix x1) r1))) 2 (b253_8 (mcall (d + 6)) x1 o2 o3 _) ?_
    refine rc_call (t := 20) (ls' := [some (vR 0), some (vI x1), o2, o3]) (st' := []) (b253_9 (mcall (d + 6)) 11 _ z1 (uA f1 19 (upd (f1 19) (ix x1) r1))) (isWord_r _ 11 z1 (uA f1 19 (upd (f1 19) (ix x1) r1))) ?_
    show RC (mcall (d + 6)) (mP 253) 20 [some (vR 0), some (vI x1), o2, o3] [vI (bI (z1 15 = 2 ∧ z1 16 = 11))] (LR z1 (uA f1 19 (upd (f1 19) (ix x1) r1))) res
    refine rc_bz (it := 23) (ie := 21) (ls' := [some (vR 0), some (vI x1), o2, o3]) (st' := []) (b253_10 (mcall (d + 6)) (bI (z1 15 = 2 ∧ z1 16 = 11)) _ _) (fun q2 => ?_) (fun q2 => ?_)
    · have H := H.2 q2
      refine rc_b (i' := 25) (ls' := [some (vR 0), some (vI x1), o2, o3]) (st' := [vI 21, vR 0]) (L' := LR z1 (uA f1 19 (upd (f1 19) (ix x1) r1))) 2 (b253_11 (mcall (d + 6)) x1 o2 o3 _) ?_
      refine rc_call (t := 26) (ls' := [some (vR 0), some (vI x1), o2, o3]) (st' := []) (b253_12 (mcall (d + 6)) 21 _ z1 (uA f1 19 (upd (f1 19) (ix x1) r1))) (isWord_r _ 21 z1 (uA f1 19 (upd (f1 19) (ix x1) r1))) ?_
      show RC (mcall (d + 6)) (mP 253) 26 [some (vR 0), some (vI x1), o2, o3] [vI (bI (z1 15 = 2 ∧ z1 16 = 21))] (LR z1 (uA f1 19 (upd (f1 19) (ix x1) r1))) res
      refine rc_bz (it := 29) (ie := 27) (ls' := [some (vR 0), some (vI x1), o2, o3]) (st' := []) (b253_13 (mcall (d + 6)) (bI (z1 15 = 2 ∧ z1 16 = 21)) _ _) (fun q3 => ?_) (fun q3 => ?_)
      · have H := H.2 q3
        refine rc_b (i' := 31) (ls' := [some (vR 0), some (vI x1), o2, o3]) (st' := [vI 7, vR 0]) (L' := LR z1 (uA f1 19 (upd (f1 19) (ix x1) r1))) 2 (b253_14 (mcall (d + 6)) x1 o2 o3 _) ?_
        refine rc_call (t := 32) (ls' := [some (vR 0), some (vI x1), o2, o3]) (st' := []) (b253_15 (mcall (d + 6)) 7 _ z1 (uA f1 19 (upd (f1 19) (ix x1) r1))) (isWord_r _ 7 z1 (uA f1 19 (upd (f1 19) (ix x1) r1))) ?_
        show RC (mcall (d + 6)) (mP 253) 32 [some (vR 0), some (vI x1), o2, o3] [vI (bI (z1 15 = 2 ∧ z1 16 = 7))] (LR z1 (uA f1 19 (upd (f1 19) (ix x1) r1))) res
        refine rc_bz (it := 35) (ie := 33) (ls' := [some (vR 0), some (vI x1), o2, o3]) (st' := []) (b253_16 (mcall (d + 6)) (bI (z1 15 = 2 ∧ z1 16 = 7)) _ _) (fun q4 => ?_) (fun q4 => ?_)
        · have H := H.2 q4
          refine rc_b (i' := 39) (ls' := [some (vR 0), some (vI x1), some (vI ((-1))), o3]) (st' := [vI ((-1)), vI ((-1))]) (L' := LR z1 (uA f1 19 (upd (f1 19) (ix x1) r1))) 4 (b253_17 (mcall (d + 6)) x1 o2 o3 _) ?_
          refine rc_f (it := 44) (ie := 40) (ls' := [some (vR 0), some (vI x1), some (vI ((-1))), o3]) (st' := []) (b253_18 (mcall (d + 6)) ((-1)) ((-1)) _ _) (by decide) ?_
          refine rc_b (i' := 42) (ls' := [some (vR 0), some (vI x1), some (vI ((-1))), o3]) (st' := [vI 1, vR 0]) (L' := LR z1 (uA f1 19 (upd (f1 19) (ix x1) r1))) 2 (b253_19 (mcall (d + 6)) x1 ((-1)) o3 _) ?_
          obtain ⟨r2, z2, f2, hc, H⟩ := H
          refine rc_call (t := 43) (ls' := [some (vR 0), some (vI x1), some (vI ((-1))), o3]) (st' := []) (b253_20 (mcall (d + 6)) 1 _ z1 (uA f1 19 (upd (f1 19) (ix x1) r1))) hc ?_
          show RC (mcall (d + 6)) (mP 253) 43 [some (vR 0), some (vI x1), some (vI ((-1))), o3] [vI r2] (LR z2 f2) res
          subst H
          exact rc_ret (b253_21 (mcall (d + 6)) _ _ _)
        · have H := H.1 q4
          refine rc_b (i' := 39) (ls' := [some (vR 0), some (vI x1), some (vI 2), o3]) (st' := [vI ((-1)), vI 2]) (L' := LR z1 (uA f1 19 (upd (f1 19) (ix x1) r1))) 5 (b253_22 (mcall (d + 6)) x1 o2 o3 _) ?_
          refine rc_t (it := 44) (ie := 40) (ls' := [some (vR 0), some (vI x1), some (vI 2), o3]) (st' := []) (b253_18 (mcall (d + 6)) 2 ((-1)) _ _) (by decide) ?_
          exact H
      · have H := H.1 q3
        refine rc_b (i' := 39) (ls' := [some (vR 0), some (vI x1), some (vI 1), o3]) (st' := [vI ((-1)), vI 1]) (L' := LR z1 (uA f1 19 (upd (f1 19) (ix x1) r1))) 5 (b253_23 (mcall (d + 6)) x1 o2 o3 _) ?_
        refine rc_t (it := 44) (ie := 40) (ls' := [some (vR 0), some (vI x1), some (vI 1), o3]) (st' := []) (b253_18 (mcall (d + 6)) 1 ((-1)) _ _) (by decide) ?_
        exact H
    · have H := H.1 q2
      refine rc_b (i' := 39) (ls' := [some (vR 0), some (vI x1), some (vI 0), o3]) (st' := [vI ((-1)), vI 0]) (L' := LR z1 (uA f1 19 (upd (f1 19) (ix x1) r1))) 5 (b253_24 (mcall (d + 6)) x1 o2 o3 _) ?_
      refine rc_t (it := 44) (ie := 40) (ls' := [some (vR 0), some (vI x1), some (vI 0), o3]) (st' := []) (b253_18 (mcall (d + 6)) 0 ((-1)) _ _) (by decide) ?_
      exact H
  · have H := H.2 (cI1f q1)
    refine rc_b (i' := 16) (ls' := [some (vR 0), some (vI x1), o2, o3]) (st' := [vI ((-1))]) (L' := LR z1 (uA f1 19 (upd (f1 19) (ix x1) r1))) 1 (b253_25 (mcall (d + 6)) x1 o2 o3 _) ?_
    subst H
    exact rc_ret (b253_26 (mcall (d + 6)) _ _ _)
set_option maxRecDepth 100000 in
theorem bc44_253_1 (call : QC FA) (x1 : Int32) (x2 : Int32) (o3 : Option PV) (L : QH FA) (F : Nat) : rnG call 253 (F + 1) 44 [some (vR 0), some (vI x1), some (vI x2), o3] [] L = rnG call 253 F 45 [some (vR 0), some (vI x1), some (vI x2), o3] [vR 0] L := rfl
set_option maxRecDepth 100000 in
theorem bc44_253_2 (call : QC FA) (ls : List (Option PV)) (z : Nat → Int32) (f : Nat → FA) (F : Nat) : rnG call 253 (F + 1) 45 ls [vR 0] (LR z f) = cbd (call 269 [vR 0] (LR z f)) (fun r L' => rnG call 253 F 46 ls (r.toList ++ []) L') := pcY (ih := rnG call 253 F) (call := call) (a := 269) (b := 0) (v := 12) (t := 46) (x := 0) (ls := ls) (As := []) (st' := []) (L := LR z f) rfl rfl rfl
set_option maxRecDepth 100000 in
theorem bc44_253_3 (call : QC FA) (x1 : Int32) (x2 : Int32) (o3 : Option PV) (z : Nat → Int32) (f : Nat → FA) (F : Nat) : rnG call 253 (F + 6) 46 [some (vR 0), some (vI x1), some (vI x2), o3] [] (LR z f) = rnG call 253 F 52 [some (vR 0), some (vI x1), some (vI x2), o3] [vI x2, vI (x1 + 2), vR 19] (LR z f) := rfl
set_option maxRecDepth 100000 in
theorem bc44_253_4 (call : QC FA) (x y : Int32) (ls : List (Option PV)) (z : Nat → Int32) (f : Nat → FA) (F : Nat) : rnG call 253 (F + 1) 52 ls [vI y, vI x, vR 19] (LR z f) = bif (Nat.beq 0 0 && pin x 160) then rnG call 253 F 53 ls [] (LR z (uA f 19 (upd (f 19) (ix x) y))) else none := rfl
set_option maxRecDepth 100000 in
theorem bc44_253_5 (call : QC FA) (x1 : Int32) (x2 : Int32) (o3 : Option PV) (L : QH FA) (F : Nat) : rnG call 253 (F + 1) 53 [some (vR 0), some (vI x1), some (vI x2), o3] [] L = rnG call 253 F 54 [some (vR 0), some (vI x1), some (vI x2), o3] [vI x2] L := rfl
set_option maxRecDepth 100000 in
theorem bc44_253_6 (call : QC FA) (x : Int32) (ls : List (Option PV)) (L : QH FA) (F : Nat) : rnG call 253 (F + 1) 54 ls [vI x] L = bif pcmp 1 x 0 then rnG call 253 F 59 ls [] L else rnG call 253 F 55 ls [] L := rfl
set_option maxRecDepth 100000 in
theorem bc44_253_7 (call : QC FA) (x1 : Int32) (x2 : Int32) (o3 : Option PV) (L : QH FA) (F : Nat) : rnG call 253 (F + 2) 59 [some (vR 0), some (vI x1), some (vI x2), o3] [] L = rnG call 253 F 61 [some (vR 0), some (vI x1), some (vI x2), o3] [vI 1, vI x2] L := rfl
set_option maxRecDepth 100000 in
theorem bc44_253_8 (call : QC FA) (x y : Int32) (ls : List (Option PV)) (L : QH FA) (F : Nat) : rnG call 253 (F + 1) 61 ls [vI y, vI x] L = bif pcmp 1 x y then rnG call 253 F 66 ls [] L else rnG call 253 F 62 ls [] L := rfl
set_option maxRecDepth 100000 in
theorem bc44_253_9 (call : QC FA) (x1 : Int32) (x2 : Int32) (o3 : Option PV) (L : QH FA) (F : Nat) : rnG call 253 (F + 2) 66 [some (vR 0), some (vI x1), some (vI x2), o3] [] L = rnG call 253 F 68 [some (vR 0), some (vI x1), some (vI x2), o3] [vI x1, vR 0] L := rfl
set_option maxRecDepth 100000 in
theorem bc44_253_10 (call : QC FA) (a0 : Int32) (ls : List (Option PV)) (z : Nat → Int32) (f : Nat → FA) (F : Nat) : rnG call 253 (F + 1) 68 ls [vI a0, vR 0] (LR z f) = cbd (call 257 [vR 0, vI a0] (LR z f)) (fun r L' => rnG call 253 F 69 ls (r.toList ++ []) L') := pcY (ih := rnG call 253 F) (call := call) (a := 257) (b := 1) (v := 12) (t := 69) (x := 0) (ls := ls) (As := [vI a0]) (st' := []) (L := LR z f) rfl rfl rfl
set_option maxRecDepth 100000 in
theorem bc44_253_11 (call : QC FA) (x1 : Int32) (x2 : Int32) (o3 : Option PV) (s0 : Int32) (L : QH FA) (F : Nat) : rnG call 253 (F + 1) 69 [some (vR 0), some (vI x1), some (vI x2), o3] [vI s0] L = rnG call 253 F 70 [some (vR 0), some (vI x1), some (vI x2), some (vI s0)] [] L := rfl
set_option maxRecDepth 100000 in
theorem bc44_253_12 (call : QC FA) (x1 : Int32) (x2 : Int32) (o3 : Option PV) (L : QH FA) (F : Nat) : rnG call 253 (F + 2) 62 [some (vR 0), some (vI x1), some (vI x2), o3] [] L = rnG call 253 F 64 [some (vR 0), some (vI x1), some (vI x2), o3] [vI x1, vR 0] L := rfl
set_option maxRecDepth 100000 in
theorem bc44_253_13 (call : QC FA) (a0 : Int32) (ls : List (Option PV)) (z : Nat → Int32) (f : Nat → FA) (F : Nat) : rnG call 253 (F + 1) 64 ls [vI a0, vR 0] (LR z f) = cbd (call 260 [vR 0, vI a0] (LR z f)) (fun r L' => rnG call 253 F 65 ls (r.toList ++ []) L') := pcY (ih := rnG call 253 F) (call := call) (a := 260) (b := 1) (v := 12) (t := 65) (x := 0) (ls := ls) (As := [vI a0]) (st' := []) (L := LR z f) rfl rfl rfl
set_option maxRecDepth 100000 in
theorem bc44_253_14 (call : QC FA) (x1 : Int32) (x2 : Int32) (o3 : Option PV) (s0 : Int32) (L : QH FA) (F : Nat) : rnG call 253 (F + 2) 65 [some (vR 0), some (vI x1), some (vI x2), o3] [vI s0] L = rnG call 253 F 70 [some (vR 0), some (vI x1), some (vI x2), some (vI s0)] [] L := rfl
set_option maxRecDepth 100000 in
theorem bc44_253_15 (call : QC FA) (x1 : Int32) (x2 : Int32) (o3 : Option PV) (L : QH FA) (F : Nat) : rnG call 253 (F + 2) 55 [some (vR 0), some (vI x1), some (vI x2), o3] [] L = rnG call 253 F 57 [some (vR 0), some (vI x1), some (vI x2), o3] [vI x1, vR 0] L := rfl
set_option maxRecDepth 100000 in
theorem bc44_253_16 (call : QC FA) (a0 : Int32) (ls : List (Option PV)) (z : Nat → Int32) (f : Nat → FA) (F : Nat) : rnG call 253 (F + 1) 57 ls [vI a0, vR 0] (LR z f) = cbd (call 254 [vR 0, vI a0] (LR z f)) (fun r L' => rnG call 253 F 58 ls (r.toList ++ []) L') := pcY (ih := rnG call 253 F) (call := call) (a := 254) (b := 1) (v := 12) (t := 58) (x := 0) (ls := ls) (As := [vI a0]) (st' := []) (L := LR z f) rfl rfl rfl
set_option maxRecDepth 100000 in
theorem bc44_253_17 (call : QC FA) (x1 : Int32) (x2 : Int32) (o3 : Option PV) (s0 : Int32) (L : QH FA) (F : Nat) : rnG call 253 (F + 2) 58 [some (vR 0), some (vI x1), some (vI x2), o3] [vI s0] L = rnG call 253 F 70 [some (vR 0), some (vI x1), some (vI x2), some (vI s0)] [] L := rfl
theorem vcc44_253_44 (d : Nat) (x1 : Int32) (x2 : Int32) (o3 : Option PV) (z : Nat → Int32) (f : Nat → FA) (res : Option PV × QH FA) (H : (∃ (z1 : Nat → Int32) (f1 : Nat → FA), (mcall (d + 6)) 269 [vR 0] (LR z f) = some (none, LR z1 f1) ∧ (pin (x1 + 2) 160 = true ∧ ((¬ x2 = 0 → ((¬ x2 = 1 → (∃ (r2 : Int32) (z2 : Nat → Int32) (f2 : Nat → FA), (mcall (d + 6)) 257 [vR 0, vI x1] (LR z1 (uA f1 19 (upd (f1 19) (ix (x1 + 2)) x2))) = some (some (vI r2), LR z2 f2) ∧ RC (mcall (d + 6)) (mP 253) 70 [some (vR 0), some (vI x1), some (vI x2), some (vI r2)] [] (LR z2 f2) res)) ∧ (x2 = 1 → (∃ (r3 : Int32) (z3 : Nat → Int32) (f3 : Nat → FA), (mcall (d + 6)) 260 [vR 0, vI x1] (LR z1 (uA f1 19 (upd (f1 19) (ix (x1 + 2)) x2))) = some (some (vI r3), LR z3 f3) ∧ RC (mcall (d + 6)) (mP 253) 70 [some (vR 0), some (vI x1), some (vI x2), some (vI r3)] [] (LR z3 f3) res)))) ∧ (x2 = 0 → (∃ (r4 : Int32) (z4 : Nat → Int32) (f4 : Nat → FA), (mcall (d + 6)) 254 [vR 0, vI x1] (LR z1 (uA f1 19 (upd (f1 19) (ix (x1 + 2)) x2))) = some (some (vI r4), LR z4 f4) ∧ RC (mcall (d + 6)) (mP 253) 70 [some (vR 0), some (vI x1), some (vI x2), some (vI r4)] [] (LR z4 f4) res)))))) : RC (mcall (d + 6)) (mP 253) 44 [some (vR 0), some (vI x1), some (vI x2), o3] [] (LR z f) res := by
  refine rc_b (i' := 45) (ls' := [some (vR 0), some (vI x1), some (vI x2), o3]) (st' := [vR 0]) (L' := LR z f) 1 (bc44_253_1 (mcall (d + 6)) x1 x2 o3 _) ?_
  obtain ⟨z1, f1, hc, H⟩ := H
  refine rc_call (t := 46) (ls' := [some (vR 0), some (vI x1), some (vI x2), o3]) (st' := []) (bc44_253_2 (mcall (d + 6)) _ z f) hc ?_
  show RC (mcall (d + 6)) (mP 253) 46 [some (vR 0), some (vI x1), some (vI x2), o3] [] (LR z1 f1) res
  refine rc_b (i' := 52) (ls' := [some (vR 0), some (vI x1), some (vI x2), o3]) (st' := [vI x2, vI (x1 + 2), vR 19]) (L' := LR z1 f1) 6 (bc44_253_3 (mcall (d + 6)) x1 x2 o3 z1 f1) ?_
  obtain ⟨g1, H⟩ := H
  refine rc_g (i' := 53) (ls' := [some (vR 0), some (vI x1), some (vI x2), o3]) (st' := []) (L' := LR z1 (uA f1 19 (upd (f1 19) (ix (x1 + 2)) x2))) (bc44_253_4 (mcall (d + 6)) (x1 + 2) x2 _ z1 f1) (pinG g1) ?_
  refine rc_b (i' := 54) (ls' := [some (vR 0), some (vI x1), some (vI x2), o3]) (st' := [vI x2]) (L' := LR z1 (uA f1 19 (upd (f1 19) (ix (x1 + 2)) x2))) 1 (bc44_253_5 (mcall (d + 6)) x1 x2 o3 _) ?_
  refine rc_if (it := 59) (ie := 55) (ls' := [some (vR 0), some (vI x1), some (vI x2), o3]) (st' := []) (bc44_253_6 (mcall (d + 6)) x2 _ _) (fun q1 => ?_) (fun q1 => ?_)
  · have H := H.1 (cI1t q1)
    refine rc_b (i' := 61) (ls' := [some (vR 0), some (vI x1), some (vI x2), o3]) (st' := [vI 1, vI x2]) (L' := LR z1 (uA f1 19 (upd (f1 19) (ix (x1 + 2)) x2))) 2 (bc44_253_7 (mcall (d + 6)) x1 x2 o3 _) ?_
    refine rc_if (it := 66) (ie := 62) (ls' := [some (vR 0), some (vI x1), some (vI x2), o3]) (st' := []) (bc44_253_8 (mcall (d + 6)) x2 1 _ _) (fun q2 => ?_) (fun q2 => ?_)
    · have H := H.1 (cI1t q2)
      refine rc_b (i' := 68) (ls' := [some (vR 0), some (vI x1), some (vI x2), o3]) (st' := [vI x1, vR 0]) (L' := LR z1 (uA f1 19 (upd (f1 19) (ix (x1 + 2)) x2))) 2 (bc44_253_9 (mcall (d + 6)) x1 x2 o3 _) ?_
      obtain ⟨r2, z2, f2, hc, H⟩ := H
      refine rc_call (t := 69) (ls' := [some (vR 0), some (vI x1), some (vI x2), o3]) (st' := []) (bc44_253_10 (mcall (d + 6)) x1 _ z1 (uA f1 19 (upd (f1 19) (ix (x1 + 2)) x2))) hc ?_
      show RC (mcall (d + 6)) (mP 253) 69 [some (vR 0), some (vI x1), some (vI x2), o3] [vI r2] (LR z2 f2) res
      refine rc_b (i' := 70) (ls' := [some (vR 0), some (vI x1), some (vI x2), some (vI r2)]) (st' := []) (L' := LR z2 f2) 1 (bc44_253_11 (mcall (d + 6)) x1 x2 o3 r2 _) ?_
      exact H
    · have H := H.2 (cI1f q2)
      refine rc_b (i' := 64) (ls' := [some (vR 0), some (vI x1), some (vI x2), o3]) (st' := [vI x1, vR 0]) (L' := LR z1 (uA f1 19 (upd (f1 19) (ix (x1 + 2)) x2))) 2 (bc44_253_12 (mcall (d + 6)) x1 x2 o3 _) ?_
      obtain ⟨r3, z3, f3, hc, H⟩ := H
      refine rc_call (t := 65) (ls' := [some (vR 0), some (vI x1), some (vI x2), o3]) (st' := []) (bc44_253_13 (mcall (d + 6)) x1 _ z1 (uA f1 19 (upd (f1 19) (ix (x1 + 2)) x2))) hc ?_
      show RC (mcall (d + 6)) (mP 253) 65 [some (vR 0), some (vI x1), some (vI x2), o3] [vI r3] (LR z3 f3) res
      refine rc_b (i' := 70) (ls' := [some (vR 0), some (vI x1), some (vI x2), some (vI r3)]) (st' := []) (L' := LR z3 f3) 2 (bc44_253_14 (mcall (d + 6)) x1 x2 o3 r3 _) ?_
      exact H
  · have H := H.2 (cI1f q1)
    refine rc_b (i' := 57) (ls' := [some (vR 0), some (vI x1), some (vI x2), o3]) (st' := [vI x1, vR 0]) (L' := LR z1 (uA f1 19 (upd (f1 19) (ix (x1 + 2)) x2))) 2 (bc44_253_15 (mcall (d + 6)) x1 x2 o3 _) ?_
    obtain ⟨r4, z4, f4, hc, H⟩ := H
    refine rc_call (t := 58) (ls' := [some (vR 0), some (vI x1), some (vI x2), o3]) (st' := []) (bc44_253_16 (mcall (d + 6)) x1 _ z1 (uA f1 19 (upd (f1 19) (ix (x1 + 2)) x2))) hc ?_
    show RC (mcall (d + 6)) (mP 253) 58 [some (vR 0), some (vI x1), some (vI x2), o3] [vI r4] (LR z4 f4) res
    refine rc_b (i' := 70) (ls' := [some (vR 0), some (vI x1), some (vI x2), some (vI r4)]) (st' := []) (L' := LR z4 f4) 2 (bc44_253_17 (mcall (d + 6)) x1 x2 o3 r4 _) ?_
    exact H
set_option maxRecDepth 100000 in
theorem bc70_253_1 (call : QC FA) (o1 : Option PV) (o2 : Option PV) (x3 : Int32) (L : QH FA) (F : Nat) : rnG call 253 (F + 2) 70 [some (vR 0), o1, o2, some (vI x3)] [] L = rnG call 253 F 72 [some (vR 0), o1, o2, some (vI x3)] [vI ((-1)), vI x3] L := rfl
set_option maxRecDepth 100000 in
theorem bc70_253_2 (call : QC FA) (x y : Int32) (ls : List (Option PV)) (L : QH FA) (F : Nat) : rnG call 253 (F + 1) 72 ls [vI y, vI x] L = bif pcmp 1 x y then rnG call 253 F 75 ls [] L else rnG call 253 F 73 ls [] L := rfl
set_option maxRecDepth 100000 in
theorem bc70_253_3 (call : QC FA) (o1 : Option PV) (o2 : Option PV) (x3 : Int32) (L : QH FA) (F : Nat) : rnG call 253 (F + 2) 75 [some (vR 0), o1, o2, some (vI x3)] [] L = rnG call 253 F 77 [some (vR 0), o1, o2, some (vI x3)] [vI 59, vR 0] L := rfl
set_option maxRecDepth 100000 in
theorem bc70_253_4 (call : QC FA) (a0 : Int32) (ls : List (Option PV)) (z : Nat → Int32) (f : Nat → FA) (F : Nat) : rnG call 253 (F + 1) 77 ls [vI a0, vR 0] (LR z f) = cbd (call 256 [vR 0, vI a0] (LR z f)) (fun r L' => rnG call 253 F 78 ls (r.toList ++ []) L') := pcY (ih := rnG call 253 F) (call := call) (a := 256) (b := 1) (v := 12) (t := 78) (x := 0) (ls := ls) (As := [vI a0]) (st' := []) (L := LR z f) rfl rfl rfl
set_option maxRecDepth 100000 in
theorem bc70_253_5 (call : QC FA) (x : Int32) (ls : List (Option PV)) (L : QH FA) (F : Nat) : rnG call 253 (F + 1) 78 ls [vI x] L = some (some (vI x), L) := rfl
set_option maxRecDepth 100000 in
theorem bc70_253_6 (call : QC FA) (o1 : Option PV) (o2 : Option PV) (x3 : Int32) (L : QH FA) (F : Nat) : rnG call 253 (F + 2) 73 [some (vR 0), o1, o2, some (vI x3)] [] L = rnG call 253 F 78 [some (vR 0), o1, o2, some (vI x3)] [vI ((-1))] L := rfl
theorem vcc70_253_70 (d : Nat) (o1 : Option PV) (o2 : Option PV) (x3 : Int32) (z : Nat → Int32) (f : Nat → FA) (res : Option PV × QH FA) (H : ((¬ x3 = (-1) → (∃ (r1 : Int32) (z1 : Nat → Int32) (f1 : Nat → FA), (mcall (d + 6)) 256 [vR 0, vI 59] (LR z f) = some (some (vI r1), LR z1 f1) ∧ res = (some (vI r1), LR z1 f1))) ∧ (x3 = (-1) → res = (some (vI ((-1))), LR z f)))) : RC (mcall (d + 6)) (mP 253) 70 [some (vR 0), o1, o2, some (vI x3)] [] (LR z f) res := by
  refine rc_b (i' := 72) (ls' := [some (vR 0), o1, o2, some (vI x3)]) (st' := [vI ((-1)), vI x3]) (L' := LR z f) 2 (bc70_253_1 (mcall (d + 6)) o1 o2 x3 _) ?_
  refine rc_if (it := 75) (ie := 73) (ls' := [some (vR 0), o1, o2, some (vI x3)]) (st' := []) (bc70_253_2 (mcall (d + 6)) x3 ((-1)) _ _) (fun q1 => ?_) (fun q1 => ?_)
  · have H := H.1 (cI1t q1)
    refine rc_b (i' := 77) (ls' := [some (vR 0), o1, o2, some (vI x3)]) (st' := [vI 59, vR 0]) (L' := LR z f) 2 (bc70_253_3 (mcall (d + 6)) o1 o2 x3 _) ?_
    obtain ⟨r1, z1, f1, hc, H⟩ := H
    refine rc_call (t := 78) (ls' := [some (vR 0), o1, o2, some (vI x3)]) (st' := []) (bc70_253_4 (mcall (d + 6)) 59 _ z f) hc ?_
    show RC (mcall (d + 6)) (mP 253) 78 [some (vR 0), o1, o2, some (vI x3)] [vI r1] (LR z1 f1) res
    subst H
    exact rc_ret (bc70_253_5 (mcall (d + 6)) _ _ _)
  · have H := H.2 (cI1f q1)
    refine rc_b (i' := 78) (ls' := [some (vR 0), o1, o2, some (vI x3)]) (st' := [vI ((-1))]) (L' := LR z f) 2 (bc70_253_6 (mcall (d + 6)) o1 o2 x3 _) ?_
    subst H
    exact rc_ret (bc70_253_5 (mcall (d + 6)) _ _ _)
theorem rd70 (d0 : Nat) {t a : Nat} {z : Nat → Int32} {f : Nat → FA} (o1 o2 : Option PV) (x : Int32) (h : TS t a z f) : ∃ r z' a', RC (mcall (d0 + 6)) (mP 253) 70 [some (vR 0), o1, o2, some (vI x)] [] (LR z f) (some (vI r), LR z' f) ∧ RNz z z' ∧ TS t a' z' f ∧ a ≤ a' ∧ (r = -1 ∨ (r = 0 ∧ ¬ x = -1)) := by
  by_cases c : x = -1
  · exact ⟨-1, z, a, vcc70_253_70 _ _ _ _ _ _ _ ⟨fun q => absurd c q, fun _ => rfl⟩, RNz.refl z, h, Nat.le_refl _, Or.inl rfl⟩
  · obtain ⟨r, z1, a1, u1, u2, u3, u4, u5⟩ := readMark_r (d0 + 2) 59 h
    refine ⟨r, z1, a1, vcc70_253_70 _ _ _ _ _ _ _ ⟨fun _ => ⟨r, z1, f, u1, rfl⟩, fun q => absurd q c⟩, u2, u3, u4, ?_⟩
    rcases u5 with u5 | ⟨u5, -⟩
    · exact Or.inl u5
    · exact Or.inr ⟨u5, c⟩
theorem rd44 (d0 : Nat) {t a n : Nat} {z : Nat → Int32} {f : Nat → FA} (o3 : Option PV) (w : Int32) (hw : w = 0 ∨ w = 1 ∨ w = 2) (hn : n < 16) (hz : BNDz z) (h : TS t a z f) (h15 : ¬ z 15 = 0) (hB : BNDf f) : ∃ r z' f' a', RC (mcall (d0 + 6)) (mP 253) 44 [some (vR 0), some (vI (nI (80 + 5 * n))), some (vI w), o3] [] (LR z f) (some (vI r), LR z' f') ∧ DFr 19 (80 + 5 * n) 5 z f z' f' ∧ TS t a' z' f' ∧ a < a' ∧ BNDf f' ∧ f' 19 (80 + 5 * n) = f 19 (80 + 5 * n) ∧ (r = -1 ∨ (r = 0 ∧ GD f' n ∧ (f' 19 (80 + 5 * n + 2) = 1 → inb 2147483648 2147483659 (f' 19 (80 + 5 * n + 3)) ∧ inb 2147483648 2147483659 (f' 19 (80 + 5 * n + 4))))) := by
  have e2 : nI (80 + 5 * n) + 2 = nI (80 + 5 * n + 2) := nI_add _ 2
  have go : ∀ res, _ → RC (mcall (d0 + 6)) (mP 253) 44 [some (vR 0), some (vI (nI (80 + 5 * n))), some (vI w), o3] [] (LR z f) res := fun res H => vcc44_253_44 d0 (nI (80 + 5 * n)) w o3 z f res H
  rw [e2, ix_nI (by omega)] at go
  obtain ⟨z1, a1, g1, g2, g3, g4⟩ := rd_c (d0 + 3) h h15
  have hz1 := hz.rn g4.n (g2.weak (Nat.zero_le _))
  have B1 : BNDf (uA f 19 (upd (f 19) (80 + 5 * n + 2) w)) := w19_2 hB hn (by rcases hw with rfl | rfl | rfl <;> decide) (by rcases hw with rfl | rfl | rfl <;> decide)
  have C1 : TS t a1 z1 (uA f 19 (upd (f 19) (80 + 5 * n + 2) w)) := (g2.weak (Nat.zero_le _)).fk (by decide)
  have D1 : DFr 19 (80 + 5 * n) 5 z f z1 (uA f 19 (upd (f 19) (80 + 5 * n + 2) w)) := (DFr.z g4.n).trans (DFr.w (by omega) (by omega))
  have K1 : uA f 19 (upd (f 19) (80 + 5 * n + 2) w) 19 (80 + 5 * n + 2) = w := by rw [uA_self, pk_us]
  have K0 : uA f 19 (upd (f 19) (80 + 5 * n + 2) w) 19 (80 + 5 * n) = f 19 (80 + 5 * n) := by rw [uA_self, pk_un (by omega)]
  -- the first number stays: the three below write behind it
  have fin : ∀ r2 z2 f2 a2, DFr 19 (80 + 5 * n) 5 z1 (uA f 19 (upd (f 19) (80 + 5 * n + 2) w)) z2 f2 → TS t a2 z2 f2 → a1 ≤ a2 → BNDf f2 → f2 19 (80 + 5 * n + 2) = w → f2 19 (80 + 5 * n) = f 19 (80 + 5 * n) → (r2 = -1 ∨ (GD f2 n ∧ (w = 1 → inb 2147483648 2147483659 (f2 19 (80 + 5 * n + 3)) ∧ inb 2147483648 2147483659 (f2 19 (80 + 5 * n + 4))))) → ∃ r z' a', RC (mcall (d0 + 6)) (mP 253) 70 [some (vR 0), some (vI (nI (80 + 5 * n))), some (vI w), some (vI r2)] [] (LR z2 f2) (some (vI r), LR z' f2) ∧ DFr 19 (80 + 5 * n) 5 z f z' f2 ∧ TS t a' z' f2 ∧ a < a' ∧ BNDf f2 ∧ f2 19 (80 + 5 * n) = f 19 (80 + 5 * n) ∧ (r = -1 ∨ (r = 0 ∧ GD f2 n ∧ (f2 19 (80 + 5 * n + 2) = 1 → inb 2147483648 2147483659 (f2 19 (80 + 5 * n + 3)) ∧ inb 2147483648 2147483659 (f2 19 (80 + 5 * n + 4))))) := by
    intro r2 z2 f2 a2 q1 q2 q3 q4 q5 q6 q7
    obtain ⟨r, z3, a3, u1, u2, u3, u4, u5⟩ := rd70 d0 (some (vI (nI (80 + 5 * n)))) (some (vI w)) r2 q2
    refine ⟨r, z3, a3, u1, (D1.trans q1).trans (DFr.z u2), u3, by omega, q4, q6, ?_⟩
    rcases u5 with u5 | ⟨u5, u6⟩
    · exact Or.inl u5
    · obtain ⟨q8, q9⟩ := q7.resolve_left u6
      exact Or.inr ⟨u5, q8, fun e => q9 (q5.symm.trans e)⟩
  rcases hw with rfl | rfl | rfl
  · obtain ⟨r2, z2, f2, a2, u1, u2, u3, u4, u5, u6, u8⟩ := readHeat_r d0 hn hz1 C1 B1
    obtain ⟨r, z', a', v1, v2⟩ := fin r2 z2 f2 a2 u2 u3 u4 u5 ((u6 2 (Or.inr rfl)).trans K1) ((u6 0 (Or.inl rfl)).trans K0) (u8.imp id (fun q => ⟨q, fun e => absurd e (by decide)⟩))
    exact ⟨r, z', f2, a', go _ ⟨z1, f, g1, pin_nI (by omega) (by omega), fun q => absurd rfl q, fun _ => ⟨r2, z2, f2, u1, v1⟩⟩, v2⟩
  · obtain ⟨r2, z2, f2, a2, u1, u2, u3, u4, u5, u6, u8⟩ := readPutty_r d0 hn hz1 C1 B1
    obtain ⟨r, z', a', v1, v2⟩ := fin r2 z2 f2 a2 u2 u3 u4 u5 ((u6 2 (Or.inr rfl)).trans K1) ((u6 0 (Or.inl rfl)).trans K0) (u8.imp id (fun q => ⟨q.1, fun _ => q.2⟩))
    exact ⟨r, z', f2, a', go _ ⟨z1, f, g1, pin_nI (by omega) (by omega), fun _ => ⟨fun q => absurd rfl q, fun _ => ⟨r2, z2, f2, u1, v1⟩⟩, fun q => absurd q (by decide)⟩, v2⟩
  · obtain ⟨r2, z2, f2, a2, u1, u2, u3, u4, u5, u6, u8⟩ := readMind_r d0 hn hz1 C1 B1
    obtain ⟨r, z', a', v1, v2⟩ := fin r2 z2 f2 a2 u2 u3 u4 u5 ((u6 2 (Or.inr rfl)).trans K1) ((u6 0 (Or.inl rfl)).trans K0) (u8.imp id (fun q => ⟨q, fun e => absurd e (by decide)⟩))
    exact ⟨r, z', f2, a', go _ ⟨z1, f, g1, pin_nI (by omega) (by omega), fun _ => ⟨fun _ => ⟨r2, z2, f2, u1, v1⟩, fun q => absurd q (by decide)⟩, fun q => absurd q (by decide)⟩, v2⟩
theorem readDeed_r (d0 : Nat) {t a n : Nat} {z : Nat → Int32} {f : Nat → FA} (hn : n < 16) (hz : BNDz z) (h : TS t a z f) (hB : BNDf f) : ∃ r z' f' a', mcall (d0 + 7) 253 [vR 0, vI (nI (80 + 5 * n))] (LR z f) = some (some (vI r), LR z' f') ∧ DFr 19 (80 + 5 * n) 5 z f z' f' ∧ TS t a' z' f' ∧ a ≤ a' ∧ BNDf f' ∧ (r = -1 ∨ (a < a' ∧ GLn f' n)) := by
  have go : ∀ res, _ → mcall (d0 + 7) 253 [vR 0, vI (nI (80 + 5 * n))] (LR z f) = some res := fun res H => mcall_i (mq253 (cu := [])).2.2 rfl (vc253_0 d0 _ none none z f res H)
  rw [ix_nI (by omega)] at go
  obtain ⟨r1, z1, a1, u1, u2, u3, u4, u5⟩ := readTold_r (d0 + 1) 20 0 999 h
  obtain ⟨b1, b2, b3⟩ := res_I u5 (by decide)
  have q9 := i999
  have B1 := w19_0 (x := r1) hB hn (by omega) (by omega)
  rw [Nat.add_zero] at B1
  have C1 := u3.fk (k := 19) (g := upd (f 19) (80 + 5 * n) r1) (by decide)
  have D1 : DFr 19 (80 + 5 * n) 5 z f z1 (uA f 19 (upd (f 19) (80 + 5 * n) r1)) := (DFr.z u2).trans (DFr.w (by omega) (by omega))
  have hz1 := hz.rn u2 u3
  have K0 : uA f 19 (upd (f 19) (80 + 5 * n) r1) 19 (80 + 5 * n) = r1 := by rw [uA_self, pk_us]
  by_cases c1 : r1 = -1
  · exact ⟨-1, z1, _, a1, go _ ⟨r1, z1, f, u1, pin_nI (by omega) (by omega), pin_nI (by omega) (by omega), fun q => absurd (by rw [pk_us]; exact c1) q, fun _ => rfl⟩, D1, C1, u4, B1, Or.inl rfl⟩
  · have bb : inb 2147483648 2147484647 r1 := by
      rcases b2 with b2 | b2
      · exact absurd b2 c1
      · exact inb_J (by omega) (by omega)
    have n1 : ∀ q : upd (f 19) (80 + 5 * n) r1 (80 + 5 * n) = -1, False := fun q => by rw [pk_us] at q; exact c1 q
    have fin : ∀ w : Int32, (w = 0 ∨ w = 1 ∨ w = 2) → z1 15 = 2 → ∃ r z' f' a', RC (mcall (d0 + 6)) (mP 253) 44 [some (vR 0), some (vI (nI (80 + 5 * n))), some (vI w), none] [] (LR z1 (uA f 19 (upd (f 19) (80 + 5 * n) r1))) (some (vI r), LR z' f') ∧ DFr 19 (80 + 5 * n) 5 z f z' f' ∧ TS t a' z' f' ∧ a ≤ a' ∧ BNDf f' ∧ (r = -1 ∨ (a < a' ∧ GLn f' n)) := by
      intro w hw h15
      obtain ⟨r, z', f', a', v1, v2, v3, v4, v5, v6, v7⟩ := rd44 d0 none w hw hn hz1 C1 (by rw [h15]; decide) B1
      refine ⟨r, z', f', a', v1, D1.trans v2, v3, by omega, v5, ?_⟩
      rcases v7 with v7 | ⟨-, v8, v9⟩
      · exact Or.inl v7
      · exact Or.inr ⟨by omega, by rw [v6, K0]; exact bb, v8, v9⟩
    by_cases c2 : z1 15 = 2 ∧ z1 16 = 11
    · obtain ⟨r, z', f', a', v1, v2⟩ := fin 0 (Or.inl rfl) c2.1
      exact ⟨r, z', f', a', go _ ⟨r1, z1, f, u1, pin_nI (by omega) (by omega), pin_nI (by omega) (by omega), fun _ => ⟨fun _ => v1, fun q => absurd c2 q⟩, fun q => (n1 q).elim⟩, v2⟩
    · by_cases c3 : z1 15 = 2 ∧ z1 16 = 21
      · obtain ⟨r, z', f', a', v1, v2⟩ := fin 1 (Or.inr (Or.inl rfl)) c3.1
        exact ⟨r, z', f', a', go _ ⟨r1, z1, f, u1, pin_nI (by omega) (by omega), pin_nI (by omega) (by omega), fun _ => ⟨fun q => absurd q c2, fun _ => ⟨fun _ => v1, fun q => absurd c3 q⟩⟩, fun q => (n1 q).elim⟩, v2⟩
      · by_cases c4 : z1 15 = 2 ∧ z1 16 = 7
        · obtain ⟨r, z', f', a', v1, v2⟩ := fin 2 (Or.inr (Or.inr rfl)) c4.1
          exact ⟨r, z', f', a', go _ ⟨r1, z1, f, u1, pin_nI (by omega) (by omega), pin_nI (by omega) (by omega), fun _ => ⟨fun q => absurd q c2, fun _ => ⟨fun q => absurd q c3, fun _ => ⟨fun _ => v1, fun q => absurd c4 q⟩⟩⟩, fun q => (n1 q).elim⟩, v2⟩
        · exact ⟨-1, _, _, a1, go _ ⟨r1, z1, f, u1, pin_nI (by omega) (by omega), pin_nI (by omega) (by omega), fun _ => ⟨fun q => absurd q c2, fun _ => ⟨fun q => absurd q c3, fun _ => ⟨fun q => absurd q c4, fun _ => ⟨-1, _, _, errs_r (d0 + 5) 1 z1 _, rfl⟩⟩⟩⟩, fun q => (n1 q).elim⟩, D1.trans (DFr.z RNz.er), C1.er, u4, B1, Or.inl rfl⟩
set_option maxRecDepth 100000 in
theorem b261_1 (call : QC FA) (o1 : Option PV) (L : QH FA) (F : Nat) : rnG call 261 (F + 2) 0 [some (vR 0), o1] [] L = rnG call 261 F 2 [some (vR 0), some (vI 0)] [] L := rfl
theorem vc261_0 (d : Nat) (o1 : Option PV) (z : Nat → Int32) (f : Nat → FA) (res : Option PV × QH FA) (H : RC (mcall (d + 7)) (mP 261) 2 [some (vR 0), some (vI 0)] [] (LR z f) res) : RC (mcall (d + 7)) (mP 261) 0 [some (vR 0), o1] [] (LR z f) res := by
  refine rc_b (i' := 2) (ls' := [some (vR 0), some (vI 0)]) (st' := []) (L' := LR z f) 2 (b261_1 (mcall (d + 7)) o1 _) ?_
  exact H
set_option maxRecDepth 100000 in
theorem bc2_261_1 (call : QC FA) (x1 : Int32) (L : QH FA) (F : Nat) : rnG call 261 (F + 2) 2 [some (vR 0), some (vI x1)] [] L = rnG call 261 F 4 [some (vR 0), some (vI x1)] [vI 20, vR 0] L := rfl
set_option maxRecDepth 100000 in
theorem bc2_261_2 (call : QC FA) (a0 : Int32) (ls : List (Option PV)) (z : Nat → Int32) (f : Nat → FA) (F : Nat) : rnG call 261 (F + 1) 4 ls [vI a0, vR 0] (LR z f) = cbd (call 228 [vR 0, vI a0] (LR z f)) (fun r L' => rnG call 261 F 5 ls (r.toList ++ []) L') := pcY (ih := rnG call 261 F) (call := call) (a := 228) (b := 1) (v := 12) (t := 5) (x := 0) (ls := ls) (As := [vI a0]) (st' := []) (L := LR z f) rfl rfl rfl
set_option maxRecDepth 100000 in
theorem bc2_261_3 (call : QC FA) (x : Int32) (ls : List (Option PV)) (L : QH FA) (F : Nat) : rnG call 261 (F + 1) 5 ls [vI x] L = bif pcmp 0 x 0 then rnG call 261 F 29 ls [] L else rnG call 261 F 6 ls [] L := rfl
set_option maxRecDepth 100000 in
theorem bc2_261_4 (call : QC FA) (x1 : Int32) (z : Nat → Int32) (f : Nat → FA) (F : Nat) : rnG call 261 (F + 2) 29 [some (vR 0), some (vI x1)] [] (LR z f) = rnG call 261 F 31 [some (vR 0), some (vI x1)] [vI (z 15)] (LR z f) := rfl
set_option maxRecDepth 100000 in
theorem bc2_261_5 (call : QC FA) (x : Int32) (ls : List (Option PV)) (L : QH FA) (F : Nat) : rnG call 261 (F + 1) 31 ls [vI x] L = bif pcmp 1 x 0 then rnG call 261 F 34 ls [] L else rnG call 261 F 32 ls [] L := rfl
set_option maxRecDepth 100000 in
theorem bc2_261_6 (call : QC FA) (x1 : Int32) (L : QH FA) (F : Nat) : rnG call 261 (F + 2) 34 [some (vR 0), some (vI x1)] [] L = rnG call 261 F 36 [some (vR 0), some (vI x1)] [vI 1, vR 0] L := rfl
set_option maxRecDepth 100000 in
theorem bc2_261_7 (call : QC FA) (a0 : Int32) (ls : List (Option PV)) (z : Nat → Int32) (f : Nat → FA) (F : Nat) : rnG call 261 (F + 1) 36 ls [vI a0, vR 0] (LR z f) = cbd (call 208 [vR 0, vI a0] (LR z f)) (fun r L' => rnG call 261 F 37 ls (r.toList ++ []) L') := pcY (ih := rnG call 261 F) (call := call) (a := 208) (b := 1) (v := 12) (t := 37) (x := 0) (ls := ls) (As := [vI a0]) (st' := []) (L := LR z f) rfl rfl rfl
set_option maxRecDepth 100000 in
theorem bc2_261_8 (call : QC FA) (x : Int32) (ls : List (Option PV)) (L : QH FA) (F : Nat) : rnG call 261 (F + 1) 37 ls [vI x] L = some (some (vI x), L) := rfl
set_option maxRecDepth 100000 in
theorem bc2_261_9 (call : QC FA) (x1 : Int32) (L : QH FA) (F : Nat) : rnG call 261 (F + 2) 32 [some (vR 0), some (vI x1)] [] L = rnG call 261 F 37 [some (vR 0), some (vI x1)] [vI x1] L := rfl
set_option maxRecDepth 100000 in
theorem bc2_261_10 (call : QC FA) (x1 : Int32) (L : QH FA) (F : Nat) : rnG call 261 (F + 2) 6 [some (vR 0), some (vI x1)] [] L = rnG call 261 F 8 [some (vR 0), some (vI x1)] [vI 16, vI x1] L := rfl
set_option maxRecDepth 100000 in
theorem bc2_261_11 (call : QC FA) (x y : Int32) (ls : List (Option PV)) (L : QH FA) (F : Nat) : rnG call 261 (F + 1) 8 ls [vI y, vI x] L = bif pcmp 1 x y then rnG call 261 F 13 ls [] L else rnG call 261 F 9 ls [] L := rfl
set_option maxRecDepth 100000 in
theorem bc2_261_12 (call : QC FA) (x1 : Int32) (L : QH FA) (F : Nat) : rnG call 261 (F + 6) 13 [some (vR 0), some (vI x1)] [] L = rnG call 261 F 19 [some (vR 0), some (vI x1)] [vI (80 + (5 * x1)), vR 0] L := rfl
set_option maxRecDepth 100000 in
theorem bc2_261_13 (call : QC FA) (a0 : Int32) (ls : List (Option PV)) (z : Nat → Int32) (f : Nat → FA) (F : Nat) : rnG call 261 (F + 1) 19 ls [vI a0, vR 0] (LR z f) = cbd (call 253 [vR 0, vI a0] (LR z f)) (fun r L' => rnG call 261 F 20 ls (r.toList ++ []) L') := pcY (ih := rnG call 261 F) (call := call) (a := 253) (b := 1) (v := 12) (t := 20) (x := 0) (ls := ls) (As := [vI a0]) (st' := []) (L := LR z f) rfl rfl rfl
set_option maxRecDepth 100000 in
theorem bc2_261_14 (call : QC FA) (x1 : Int32) (s0 : Int32) (L : QH FA) (F : Nat) : rnG call 261 (F + 1) 20 [some (vR 0), some (vI x1)] [vI s0] L = rnG call 261 F 21 [some (vR 0), some (vI x1)] [vI ((-1)), vI s0] L := rfl
set_option maxRecDepth 100000 in
theorem bc2_261_15 (call : QC FA) (x y : Int32) (ls : List (Option PV)) (L : QH FA) (F : Nat) : rnG call 261 (F + 1) 21 ls [vI y, vI x] L = bif pcmp 1 x y then rnG call 261 F 24 ls [] L else rnG call 261 F 22 ls [] L := rfl
set_option maxRecDepth 100000 in
theorem bc2_261_16 (call : QC FA) (x1 : Int32) (L : QH FA) (F : Nat) : rnG call 261 (F + 5) 24 [some (vR 0), some (vI x1)] [] L = rnG call 261 F 2 [some (vR 0), some (vI (x1 + 1))] [] L := rfl
set_option maxRecDepth 100000 in
theorem bc2_261_17 (call : QC FA) (x1 : Int32) (L : QH FA) (F : Nat) : rnG call 261 (F + 1) 22 [some (vR 0), some (vI x1)] [] L = rnG call 261 F 23 [some (vR 0), some (vI x1)] [vI ((-1))] L := rfl
set_option maxRecDepth 100000 in
theorem bc2_261_18 (call : QC FA) (x : Int32) (ls : List (Option PV)) (L : QH FA) (F : Nat) : rnG call 261 (F + 1) 23 ls [vI x] L = some (some (vI x), L) := rfl
set_option maxRecDepth 100000 in
theorem bc2_261_19 (call : QC FA) (x1 : Int32) (L : QH FA) (F : Nat) : rnG call 261 (F + 2) 9 [some (vR 0), some (vI x1)] [] L = rnG call 261 F 11 [some (vR 0), some (vI x1)] [vI 3, vR 0] L := rfl
set_option maxRecDepth 100000 in
theorem bc2_261_20 (call : QC FA) (a0 : Int32) (ls : List (Option PV)) (z : Nat → Int32) (f : Nat → FA) (F : Nat) : rnG call 261 (F + 1) 11 ls [vI a0, vR 0] (LR z f) = cbd (call 208 [vR 0, vI a0] (LR z f)) (fun r L' => rnG call 261 F 12 ls (r.toList ++ []) L') := pcY (ih := rnG call 261 F) (call := call) (a := 208) (b := 1) (v := 12) (t := 12) (x := 0) (ls := ls) (As := [vI a0]) (st' := []) (L := LR z f) rfl rfl rfl
set_option maxRecDepth 100000 in
theorem bc2_261_21 (call : QC FA) (x : Int32) (ls : List (Option PV)) (L : QH FA) (F : Nat) : rnG call 261 (F + 1) 12 ls [vI x] L = some (some (vI x), L) := rfl
theorem vcc2_261_2 (d : Nat) (x1 : Int32) (z : Nat → Int32) (f : Nat → FA) (res : Option PV × QH FA) (H : (((z 15 = 2 ∧ z 16 = 20) → ((¬ x1 = 16 → (∃ (r2 : Int32) (z2 : Nat → Int32) (f2 : Nat → FA), (mcall (d + 7)) 253 [vR 0, vI (80 + (5 * x1))] (LR z f) = some (some (vI r2), LR z2 f2) ∧ ((¬ r2 = (-1) → RC (mcall (d + 7)) (mP 261) 2 [some (vR 0), some (vI (x1 + 1))] [] (LR z2 f2) res) ∧ (r2 = (-1) → res = (some (vI ((-1))), LR z2 f2))))) ∧ (x1 = 16 → (∃ (r3 : Int32) (z3 : Nat → Int32) (f3 : Nat → FA), (mcall (d + 7)) 208 [vR 0, vI 3] (LR z f) = some (some (vI r3), LR z3 f3) ∧ res = (some (vI r3), LR z3 f3))))) ∧ ((¬ (z 15 = 2 ∧ z 16 = 20)) → ((¬ z 15 = 0 → (∃ (r1 : Int32) (z1 : Nat → Int32) (f1 : Nat → FA), (mcall (d + 7)) 208 [vR 0, vI 1] (LR z f) = some (some (vI r1), LR z1 f1) ∧ res = (some (vI r1), LR z1 f1))) ∧ (z 15 = 0 → res = (some (vI x1), LR z f)))))) : RC (mcall (d + 7)) (mP 261) 2 [some (vR 0), some (vI x1)] [] (LR z f) res := by
  refine rc_b (i' := 4) (ls' := [some (vR 0), some (vI x1)]) (st' := [vI 20, vR 0]) (L' := LR z f) 2 (bc2_261_1 (mcall (d + 7)) x1 _) ?_
  refine rc_call (t := 5) (ls' := [some (vR 0), some (vI x1)]) (st' := []) (bc2_261_2 (mcall (d + 7)) 20 _ z f) (isWord_r _ 20 z f) ?_
  show RC (mcall (d + 7)) (mP 261) 5 [some (vR 0), some (vI x1)] [vI (bI (z 15 = 2 ∧ z 16 = 20))] (LR z f) res
  refine rc_bz (it := 29) (ie := 6) (ls' := [some (vR 0), some (vI x1)]) (st' := []) (bc2_261_3 (mcall (d + 7)) (bI (z 15 = 2 ∧ z 16 = 20)) _ _) (fun q1 => ?_) (fun q1 => ?_)
  · have H := H.2 q1
    refine rc_b (i' := 31) (ls' := [some (vR 0), some (vI x1)]) (st' := [vI (z 15)]) (L' := LR z f) 2 (bc2_261_4 (mcall (d + 7)) x1 z f) ?_
    refine rc_if (it := 34) (ie := 32) (ls' := [some (vR 0), some (vI x1)]) (st' := []) (bc2_261_5 (mcall (d + 7)) (z 15) _ _) (fun q2 => ?_) (fun q2 => ?_)
    · have H := H.1 (cI1t q2)
      refine rc_b (i' := 36) (ls' := [some (vR 0), some (vI x1)]) (st' := [vI 1, vR 0]) (L' := LR z f) 2 (bc2_261_6 (mcall (d + 7)) x1 _) ?_
      obtain ⟨r1, z1, f1, hc, H⟩ := H
      refine rc_call (t := 37) (ls' := [some (vR 0), some (vI x1)]) (st' := []) (bc2_261_7 (mcall (d + 7)) 1 _ z f) hc ?_
      show RC (mcall (d + 7)) (mP 261) 37 [some (vR 0), some (vI x1)] [vI r1] (LR z1 f1) res
      subst H
      exact rc_ret (bc2_261_8 (mcall (d + 7)) _ _ _)
    · have H := H.2 (cI1f q2)
      refine rc_b (i' := 37) (ls' := [some (vR 0), some (vI x1)]) (st' := [vI x1]) (L' := LR z f) 2 (bc2_261_9 (mcall (d + 7)) x1 _) ?_
      subst H
      exact rc_ret (bc2_261_8 (mcall (d + 7)) _ _ _)
  · have H := H.1 q1
    refine rc_b (i' := 8) (ls' := [some (vR 0), some (vI x1)]) (st' := [vI 16, vI x1]) (L' := LR z f) 2 (bc2_261_10 (mcall (d + 7)) x1 _) ?_
    refine rc_if (it := 13) (ie := 9) (ls' := [some (vR 0), some (vI x1)]) (st' := []) (bc2_261_11 (mcall (d + 7)) x1 16 _ _) (fun q3 => ?_) (fun q3 => ?_)
    · have H := H.1 (cI1t q3)
      refine rc_b (i' := 19) (ls' := [some (vR 0), some (vI x1)]) (st' := [vI (80 + (5 * x1)), vR 0]) (L' := LR z f) 6 (bc2_261_12 (mcall (d + 7)) x1 _) ?_
      obtain ⟨r2, z2, f2, hc, H⟩ := H
      refine rc_call (t := 20) (ls' := [some (vR 0), some (vI x1)]) (st' := []) (bc2_261_13 (mcall (d + 7)) (80 + (5 * x1)) _ z f) hc ?_
      show RC (mcall (d + 7)) (mP 261) 20 [some (vR 0), some (vI x1)] [vI r2] (LR z2 f2) res
      refine rc_b (i' := 21) (ls' := [some (vR 0), some (vI x1)]) (st' := [vI ((-1)), vI r2]) (L' := LR z2 f2) 1 (bc2_261_14 (mcall (d + 7)) x1 r2 _) ?_
      refine rc_if (it := 24) (ie := 22) (ls' := [some (vR 0), some (vI x1)]) (st' := []) (bc2_261_15 (mcall (d + 7)) r2 ((-1)) _ _) (fun q4 => ?_) (fun q4 => ?_)
      · have H := H.1 (cI1t q4)
        refine rc_b (i' := 2) (ls' := [some (vR 0), some (vI (x1 + 1))]) (st' := []) (L' := LR z2 f2) 5 (bc2_261_16 (mcall (d + 7)) x1 _) ?_
        exact H
      · have H := H.2 (cI1f q4)
        refine rc_b (i' := 23) (ls' := [some (vR 0), some (vI x1)]) (st' := [vI ((-1))]) (L' := LR z2 f2) 1 (bc2_261_17 (mcall (d + 7)) x1 _) ?_
        subst H
        exact rc_ret (bc2_261_18 (mcall (d + 7)) _ _ _)
    · have H := H.2 (cI1f q3)
      refine rc_b (i' := 11) (ls' := [some (vR 0), some (vI x1)]) (st' := [vI 3, vR 0]) (L' := LR z f) 2 (bc2_261_19 (mcall (d + 7)) x1 _) ?_
      obtain ⟨r3, z3, f3, hc, H⟩ := H
      refine rc_call (t := 12) (ls' := [some (vR 0), some (vI x1)]) (st' := []) (bc2_261_20 (mcall (d + 7)) 3 _ z f) hc ?_
      show RC (mcall (d + 7)) (mP 261) 12 [some (vR 0), some (vI x1)] [vI r3] (LR z3 f3) res
      subst H
      exact rc_ret (bc2_261_21 (mcall (d + 7)) _ _ _)
/-- a draft in row r from b on -/
def DFb (r b : Nat) (z : Nat → Int32) (f : Nat → FA) (z' : Nat → Int32) (f' : Nat → FA) : Prop := RNz z z' ∧ (∀ k, k ≠ r → f' k = f k) ∧ (∀ j, j < b → f' r j = f r j)
theorem DFb.refl {r b : Nat} {z : Nat → Int32} {f : Nat → FA} : DFb r b z f z f := ⟨RNz.refl z, fun _ _ => rfl, fun _ _ => rfl⟩
theorem DFb.trans {r b : Nat} {z z1 z2 : Nat → Int32} {f f1 f2 : Nat → FA} (h1 : DFb r b z f z1 f1) (h2 : DFb r b z1 f1 z2 f2) : DFb r b z f z2 f2 := ⟨h1.1.trans h2.1, fun k hk => (h2.2.1 k hk).trans (h1.2.1 k hk), fun j hj => (h2.2.2 j hj).trans (h1.2.2 j hj)⟩
theorem DFr.b {r b c b' : Nat} {z z1 : Nat → Int32} {f f1 : Nat → FA} (h : DFr r b c z f z1 f1) (hb : b' ≤ b) : DFb r b' z f z1 f1 := ⟨h.1, h.2.1, fun j hj => h.2.2 j (Or.inl (by omega))⟩
theorem DFb.z {r b : Nat} {z z1 : Nat → Int32} {f : Nat → FA} (h : RNz z z1) : DFb r b z f z1 f := ⟨h, fun _ _ => rfl, fun _ _ => rfl⟩
theorem GLn.tr {f f' : Nat → FA} {n : Nat} (h : GLn f n) (hf : ∀ c, c < 5 → f' 19 (80 + 5 * n + c) = f 19 (80 + 5 * n + c)) : GLn f' n := by
  have h0 := hf 0 (by omega)
  rw [Nat.add_zero] at h0
  unfold GLn GD at *
  rw [h0, hf 1 (by omega), hf 2 (by omega), hf 3 (by omega), hf 4 (by omega)]
  exact h
theorem sk2 (d0 t : Nat) : ∀ m n a z f, t - a < m → n ≤ 16 → BNDz z → TS t a z f → BNDf f → (∀ l, l < n → GLn f l) → ∃ r z' f' a', RC (mcall (d0 + 7)) (mP 261) 2 [some (vR 0), some (vI (nI n))] [] (LR z f) (some (vI r), LR z' f') ∧ DFb 19 80 z f z' f' ∧ TS t a' z' f' ∧ BNDf f' ∧ (r = -1 ∨ ∃ n', r = nI n' ∧ n' ≤ 16 ∧ ∀ l, l < n' → GLn f' l) := by
  intro m
  induction m with
  | zero => intro n a z f hm; omega
  | succ m ih =>
    intro n a z f hm hn hz h hB hG
    have hal := h.a_le
    by_cases c1 : z 15 = 2 ∧ z 16 = 20
    · by_cases c2 : n = 16
      · subst c2
        exact ⟨-1, _, f, a, vcc2_261_2 _ _ _ _ _ ⟨fun _ => ⟨fun q => absurd rfl q, fun _ => ⟨-1, _, f, errs_r (d0 + 6) 3 z f, rfl⟩⟩, fun q => absurd c1 q⟩, DFb.z RNz.er, h.er, hB, Or.inl rfl⟩
      · have n16 : ¬ nI n = 16 := fun q => c2 (nI_inj (b := 16) (by omega) (by omega) q)
        have ea : (80 : Int32) + 5 * nI n = nI (80 + 5 * n) := by rw [nmul (x := 5) (y := nI n) (a := 5) (b := n) rfl rfl]; exact nI_add 80 (5 * n)
        obtain ⟨r, z1, f1, a1, u1, u2, u3, u4, u5, u6⟩ := readDeed_r d0 (n := n) (by omega) hz h hB
        have hal1 := u3.a_le
        by_cases c3 : r = -1
        · refine ⟨-1, z1, f1, a1, vcc2_261_2 _ _ _ _ _ ⟨fun _ => ⟨fun _ => ⟨r, z1, f1, by rw [ea]; exact u1, fun q => absurd c3 q, fun _ => rfl⟩, fun q => absurd q n16⟩, fun q => absurd c1 q⟩, u2.b (by omega), u3, u5, Or.inl rfl⟩
        · obtain ⟨u7, u8⟩ := u6.resolve_left c3
          obtain ⟨r', z', f', a', v1, v2, v3⟩ := ih (n + 1) a1 z1 f1 (by omega) (by omega) (hz.rn u2.1 u3) u3 u5 (fun l hl => by
            by_cases e : l = n
            · subst e; exact u8
            · exact (hG l (by omega)).tr (fun c hc => u2.2.2 _ (Or.inl (by omega))))
          refine ⟨r', z', f', a', vcc2_261_2 _ _ _ _ _ ⟨fun _ => ⟨fun _ => ⟨r, z1, f1, by rw [ea]; exact u1, fun _ => ?_, fun q => absurd q c3⟩, fun q => absurd q n16⟩, fun q => absurd c1 q⟩, (u2.b (by omega)).trans v2, v3⟩
          rw [show nI n + 1 = nI (n + 1) from nI_add n 1]
          exact v1
    · by_cases c2 : z 15 = 0
      · exact ⟨nI n, z, f, a, vcc2_261_2 _ _ _ _ _ ⟨fun q => absurd q c1, fun _ => ⟨fun q => absurd c2 q, fun _ => rfl⟩⟩, DFb.refl, h, hB, Or.inr ⟨n, rfl, hn, hG⟩⟩
      · exact ⟨-1, _, f, a, vcc2_261_2 _ _ _ _ _ ⟨fun q => absurd q c1, fun _ => ⟨fun _ => ⟨-1, _, f, errs_r (d0 + 6) 1 z f, rfl⟩, fun q => absurd q c2⟩⟩, DFb.z RNz.er, h.er, hB, Or.inl rfl⟩
theorem readSky_r (d0 : Nat) {t a : Nat} {z : Nat → Int32} {f : Nat → FA} (hz : BNDz z) (h : TS t a z f) (hB : BNDf f) : ∃ r z' f' a', mcall (d0 + 8) 261 [vR 0] (LR z f) = some (some (vI r), LR z' f') ∧ DFb 19 80 z f z' f' ∧ TS t a' z' f' ∧ BNDf f' ∧ (r = -1 ∨ ∃ n', r = nI n' ∧ n' ≤ 16 ∧ ∀ l, l < n' → GLn f' l) := by
  obtain ⟨r, z', f', a', v1, v2⟩ := sk2 d0 t _ 0 a z f (Nat.lt_succ_self _) (by omega) hz h hB (fun l hl => absurd hl (by omega))
  exact ⟨r, z', f', a', mcall_i (mq261 (cu := [])).2.2 rfl (vc261_0 _ _ _ _ _ v1), v2⟩
set_option maxRecDepth 100000 in
theorem b267_1 (call : QC FA) (x1 : Int32) (z : Nat → Int32) (f : Nat → FA) (F : Nat) : rnG call 267 (F + 10) 0 [some (vR 0), some (vI x1)] [] (LR z f) = rnG call 267 F 10 [some (vR 0), some (vI x1)] [vI ((z 6) - 1), vI 0, vI 17, vR 0, vI x1, vR 18] (LR z f) := rfl
set_option maxRecDepth 100000 in
theorem b267_2 (call : QC FA) (a0 : Int32) (a1 : Int32) (a2 : Int32) (s0 : Int32) (ls : List (Option PV)) (z : Nat → Int32) (f : Nat → FA) (F : Nat) : rnG call 267 (F + 1) 10 ls [vI a2, vI a1, vI a0, vR 0, vI s0, vR 18] (LR z f) = cbd (call 263 [vR 0, vI a0, vI a1, vI a2] (LR z f)) (fun r L' => rnG call 267 F 11 ls (r.toList ++ [vI s0, vR 18]) L') := pcY (ih := rnG call 267 F) (call := call) (a := 263) (b := 3) (v := 12) (t := 11) (x := 0) (ls := ls) (As := [vI a0, vI a1, vI a2]) (st' := [vI s0, vR 18]) (L := LR z f) rfl rfl rfl
set_option maxRecDepth 100000 in
theorem b267_3 (call : QC FA) (x y : Int32) (ls : List (Option PV)) (z : Nat → Int32) (f : Nat → FA) (F : Nat) : rnG call 267 (F + 1) 11 ls [vI y, vI x, vR 18] (LR z f) = bif (Nat.beq 0 0 && pin x 96) then rnG call 267 F 12 ls [] (LR z (uA f 18 (upd (f 18) (ix x) y))) else none := rfl
set_option maxRecDepth 100000 in
theorem b267_4 (call : QC FA) (x1 : Int32) (z : Nat → Int32) (f : Nat → FA) (F : Nat) : rnG call 267 (F + 3) 12 [some (vR 0), some (vI x1)] [] (LR z f) = rnG call 267 F 15 [some (vR 0), some (vI x1)] [vI x1, vR 18] (LR z f) := rfl
set_option maxRecDepth 100000 in
theorem b267_5 (call : QC FA) (x : Int32) (ls : List (Option PV)) (z : Nat → Int32) (f : Nat → FA) (F : Nat) : rnG call 267 (F + 1) 15 ls [vI x, vR 18] (LR z f) = bif (Nat.beq 0 0 && pin x 96) then rnG call 267 F 16 ls [vI (f 18 (ix x))] (LR z f) else none := rfl
set_option maxRecDepth 100000 in
theorem b267_6 (call : QC FA) (x1 : Int32) (s0 : Int32) (L : QH FA) (F : Nat) : rnG call 267 (F + 1) 16 [some (vR 0), some (vI x1)] [vI s0] L = rnG call 267 F 17 [some (vR 0), some (vI x1)] [vI ((-1)), vI s0] L := rfl
set_option maxRecDepth 100000 in
theorem b267_7 (call : QC FA) (x y : Int32) (ls : List (Option PV)) (L : QH FA) (F : Nat) : rnG call 267 (F + 1) 17 ls [vI y, vI x] L = bif pcmp 1 x y then rnG call 267 F 20 ls [] L else rnG call 267 F 18 ls [] L := rfl
set_option maxRecDepth 100000 in
theorem b267_8 (call : QC FA) (x1 : Int32) (z : Nat → Int32) (f : Nat → FA) (F : Nat) : rnG call 267 (F + 9) 20 [some (vR 0), some (vI x1)] [] (LR z f) = rnG call 267 F 29 [some (vR 0), some (vI x1)] [vI 11, vI 0, vI 18, vR 0, vI (x1 + 1), vR 18] (LR z f) := rfl
set_option maxRecDepth 100000 in
theorem b267_9 (call : QC FA) (a0 : Int32) (a1 : Int32) (a2 : Int32) (s0 : Int32) (ls : List (Option PV)) (z : Nat → Int32) (f : Nat → FA) (F : Nat) : rnG call 267 (F + 1) 29 ls [vI a2, vI a1, vI a0, vR 0, vI s0, vR 18] (LR z f) = cbd (call 263 [vR 0, vI a0, vI a1, vI a2] (LR z f)) (fun r L' => rnG call 267 F 30 ls (r.toList ++ [vI s0, vR 18]) L') := pcY (ih := rnG call 267 F) (call := call) (a := 263) (b := 3) (v := 12) (t := 30) (x := 0) (ls := ls) (As := [vI a0, vI a1, vI a2]) (st' := [vI s0, vR 18]) (L := LR z f) rfl rfl rfl
set_option maxRecDepth 100000 in
theorem b267_10 (call : QC FA) (x y : Int32) (ls : List (Option PV)) (z : Nat → Int32) (f : Nat → FA) (F : Nat) : rnG call 267 (F + 1) 30 ls [vI y, vI x, vR 18] (LR z f) = bif (Nat.beq 0 0 && pin x 96) then rnG call 267 F 31 ls [] (LR z (uA f 18 (upd (f 18) (ix x) y))) else none := rfl
set_option maxRecDepth 100000 in
theorem b267_11 (call : QC FA) (x1 : Int32) (z : Nat → Int32) (f : Nat → FA) (F : Nat) : rnG call 267 (F + 5) 31 [some (vR 0), some (vI x1)] [] (LR z f) = rnG call 267 F 36 [some (vR 0), some (vI x1)] [vI (x1 + 1), vR 18] (LR z f) := rfl
set_option maxRecDepth 100000 in
theorem b267_12 (call : QC FA) (x : Int32) (ls : List (Option PV)) (z : Nat → Int32) (f : Nat → FA) (F : Nat) : rnG call 267 (F + 1) 36 ls [vI x, vR 18] (LR z f) = bif (Nat.beq 0 0 && pin x 96) then rnG call 267 F 37 ls [vI (f 18 (ix x))] (LR z f) else none := rfl
set_option maxRecDepth 100000 in
theorem b267_13 (call : QC FA) (x1 : Int32) (s0 : Int32) (L : QH FA) (F : Nat) : rnG call 267 (F + 1) 37 [some (vR 0), some (vI x1)] [vI s0] L = rnG call 267 F 38 [some (vR 0), some (vI x1)] [vI ((-1)), vI s0] L := rfl
set_option maxRecDepth 100000 in
theorem b267_14 (call : QC FA) (x y : Int32) (ls : List (Option PV)) (L : QH FA) (F : Nat) : rnG call 267 (F + 1) 38 ls [vI y, vI x] L = bif pcmp 1 x y then rnG call 267 F 41 ls [] L else rnG call 267 F 39 ls [] L := rfl
set_option maxRecDepth 100000 in
theorem b267_15 (call : QC FA) (x1 : Int32) (z : Nat → Int32) (f : Nat → FA) (F : Nat) : rnG call 267 (F + 9) 41 [some (vR 0), some (vI x1)] [] (LR z f) = rnG call 267 F 50 [some (vR 0), some (vI x1)] [vI 11, vI 0, vI 19, vR 0, vI (x1 + 2), vR 18] (LR z f) := rfl
set_option maxRecDepth 100000 in
theorem b267_16 (call : QC FA) (a0 : Int32) (a1 : Int32) (a2 : Int32) (s0 : Int32) (ls : List (Option PV)) (z : Nat → Int32) (f : Nat → FA) (F : Nat) : rnG call 267 (F + 1) 50 ls [vI a2, vI a1, vI a0, vR 0, vI s0, vR 18] (LR z f) = cbd (call 263 [vR 0, vI a0, vI a1, vI a2] (LR z f)) (fun r L' => rnG call 267 F 51 ls (r.toList ++ [vI s0, vR 18]) L') := pcY (ih := rnG call 267 F) (call := call) (a := 263) (b := 3) (v := 12) (t := 51) (x := 0) (ls := ls) (As := [vI a0, vI a1, vI a2]) (st' := [vI s0, vR 18]) (L := LR z f) rfl rfl rfl
set_option maxRecDepth 100000 in
theorem b267_17 (call : QC FA) (x y : Int32) (ls : List (Option PV)) (z : Nat → Int32) (f : Nat → FA) (F : Nat) : rnG call 267 (F + 1) 51 ls [vI y, vI x, vR 18] (LR z f) = bif (Nat.beq 0 0 && pin x 96) then rnG call 267 F 52 ls [] (LR z (uA f 18 (upd (f 18) (ix x) y))) else none := rfl
set_option maxRecDepth 100000 in
theorem b267_18 (call : QC FA) (x1 : Int32) (z : Nat → Int32) (f : Nat → FA) (F : Nat) : rnG call 267 (F + 5) 52 [some (vR 0), some (vI x1)] [] (LR z f) = rnG call 267 F 57 [some (vR 0), some (vI x1)] [vI (x1 + 2), vR 18] (LR z f) := rfl
set_option maxRecDepth 100000 in
theorem b267_19 (call : QC FA) (x : Int32) (ls : List (Option PV)) (z : Nat → Int32) (f : Nat → FA) (F : Nat) : rnG call 267 (F + 1) 57 ls [vI x, vR 18] (LR z f) = bif (Nat.beq 0 0 && pin x 96) then rnG call 267 F 58 ls [vI (f 18 (ix x))] (LR z f) else none := rfl
set_option maxRecDepth 100000 in
theorem b267_20 (call : QC FA) (x1 : Int32) (s0 : Int32) (L : QH FA) (F : Nat) : rnG call 267 (F + 1) 58 [some (vR 0), some (vI x1)] [vI s0] L = rnG call 267 F 59 [some (vR 0), some (vI x1)] [vI ((-1)), vI s0] L := rfl
set_option maxRecDepth 100000 in
theorem b267_21 (call : QC FA) (x y : Int32) (ls : List (Option PV)) (L : QH FA) (F : Nat) : rnG call 267 (F + 1) 59 ls [vI y, vI x] L = bif pcmp 1 x y then rnG call 267 F 62 ls [] L else rnG call 267 F 60 ls [] L := rfl
set_option maxRecDepth 100000 in
theorem b267_22 (call : QC FA) (x1 : Int32) (L : QH FA) (F : Nat) : rnG call 267 (F + 2) 62 [some (vR 0), some (vI x1)] [] L = rnG call 267 F 64 [some (vR 0), some (vI x1)] [vI 59, vR 0] L := rfl
set_option maxRecDepth 100000 in
theorem b267_23 (call : QC FA) (a0 : Int32) (ls : List (Option PV)) (z : Nat → Int32) (f : Nat → FA) (F : Nat) : rnG call 267 (F + 1) 64 ls [vI a0, vR 0] (LR z f) = cbd (call 256 [vR 0, vI a0] (LR z f)) (fun r L' => rnG call 267 F 65 ls (r.toList ++ []) L') := pcY (ih := rnG call 267 F) (call := call) (a := 256) (b := 1) (v := 12) (t := 65) (x := 0) (ls := ls) (As := [vI a0]) (st' := []) (L := LR z f) rfl rfl rfl
set_option maxRecDepth 100000 in
theorem b267_24 (call : QC FA) (x : Int32) (ls : List (Option PV)) (L : QH FA) (F : Nat) : rnG call 267 (F + 1) 65 ls [vI x] L = some (some (vI x), L) := rfl
set_option maxRecDepth 100000 in
theorem b267_25 (call : QC FA) (x1 : Int32) (L : QH FA) (F : Nat) : rnG call 267 (F + 2) 60 [some (vR 0), some (vI x1)] [] L = rnG call 267 F 65 [some (vR 0), some (vI x1)] [vI ((-1))] L := rfl
set_option maxRecDepth 100000 in
theorem b267_26 (call : QC FA) (x1 : Int32) (L : QH FA) (F : Nat) : rnG call 267 (F + 1) 39 [some (vR 0), some (vI x1)] [] L = rnG call 267 F 40 [some (vR 0), some (vI x1)] [vI ((-1))] L := rfl
set_option maxRecDepth 100000 in
theorem b267_27 (call : QC FA) (x : Int32) (ls : List (Option PV)) (L : QH FA) (F : Nat) : rnG call 267 (F + 1) 40 ls [vI x] L = some (some (vI x), L) := rfl
set_option maxRecDepth 100000 in
theorem b267_28 (call : QC FA) (x1 : Int32) (L : QH FA) (F : Nat) : rnG call 267 (F + 1) 18 [some (vR 0), some (vI x1)] [] L = rnG call 267 F 19 [some (vR 0), some (vI x1)] [vI ((-1))] L := rfl
set_option maxRecDepth 100000 in
theorem b267_29 (call : QC FA) (x : Int32) (ls : List (Option PV)) (L : QH FA) (F : Nat) : rnG call 267 (F + 1) 19 ls [vI x] L = some (some (vI x), L) := rfl
theorem vc267_0 (d : Nat) (x1 : Int32) (z : Nat → Int32) (f : Nat → FA) (res : Option PV × QH FA) (H : (∃ (r1 : Int32) (z1 : Nat → Int32) (f1 : Nat → FA), (mcall (d + 5)) 263 [vR 0, vI 17, vI 0, vI ((z 6) - 1)] (LR z f) = some (some (vI r1), LR z1 f1) ∧ (pin x1 96 = true ∧ (pin x1 96 = true ∧ ((¬ (upd (f1 18) (ix x1) r1) (ix x1) = (-1) → (∃ (r2 : Int32) (z2 : Nat → Int32) (f2 : Nat → FA), (mcall (d + 5)) 263 [vR 0, vI 18, vI 0, vI 11] (LR z1 (uA f1 18 (upd (f1 18) (ix x1) r1))) = some (some (vI r2), LR z2 f2) ∧ (pin (x1 + 1) 96 = true ∧ (pin (x1 + 1) 96 = true ∧ ((¬ (upd (f2 18) (ix (x1 + 1)) r2) (ix (x1 + 1)) = (-1) → (∃ (r3 : Int32) (z3 : Nat → Int32) (f3 : Nat → FA), (mcall (d + 5)) 263 [vR 0, vI 19, vI 0, vI 11] (LR z2 (uA f2 18 (upd (f2 18) (ix (x1 + 1)) r2))) = some (some (vI r3), LR z3 f3) ∧ (pin (x1 + 2) 96 = true ∧ (pin (x1 + 2) 96 = true ∧ ((¬ (upd (f3 18) (ix (x1 + 2)) r3) (ix (x1 + 2)) = (-1) → (∃ (r4 : Int32) (z4 : Nat → Int32) (f4 : Nat → FA), (mcall (d + 5)) 256 [vR 0, vI 59] (LR z3 (uA f3 18 (upd (f3 18) (ix (x1 + 2)) r3))) = some (some (vI r4), LR z4 f4) ∧ res = (some (vI r4), LR z4 f4))) ∧ ((upd (f3 18) (ix (x1 + 2)) r3) (ix (x1 + 2)) = (-1) → res = (some (vI ((-1))), LR z3 (uA f3 18 (upd (f3 18) (ix (x1 + 2)) r3))))))))) ∧ ((upd (f2 18) (ix (x1 + 1)) r2) (ix (x1 + 1)) = (-1) → res = (some (vI ((-1))), LR z2 (uA f2 18 (upd (f2 18) (ix (x1 + 1)) r2))))))))) ∧ ((upd (f1 18) (ix x1) r1) (ix x1) = (-1) → res = (some (vI ((-1))), LR z1 (uA f1 18 (upd (f1 18) (ix x1) r1))))))))) : RC (mcall (d + 5)) (mP 267) 0 [some (vR 0), some (vI x1)] [] (LR z f) res := by
  refine rc_b (i' := 10) (ls' := [some (vR 0), some (vI x1)]) (st' := [vI ((z 6) - 1), vI 0, vI 17, vR 0, vI x1, vR 18]) (L' := LR z f) 10 (b267_1 (mcall (d + 5)) x1 z f) ?_
  obtain ⟨r1, z1, f1, hc, H⟩ := H
  refine rc_call (t := 11) (ls' := [some (vR 0), some (vI x1)]) (st' := [vI x1, vR 18]) (b267_2 (mcall (d + 5)) 17 0 ((z 6) - 1) x1 _ z f) hc ?_
  show RC (mcall (d + 5)) (mP 267) 11 [some (vR 0), some (vI x1)] [vI r1, vI x1, vR 18] (LR z1 f1) res
  obtain ⟨g1, H⟩ := H
  refine rc_g (i' := 12) (ls' := [some (vR 0), some (vI x1)]) (st' := []) (L' := LR z1 (uA f1 18 (upd (f1 18) (ix x1) r1))) (b267_3 (mcall (d + 5)) x1 r1 _ z1 f1) (pinG g1) ?_
  refine rc_b (i' := 15) (ls' := [some (vR 0), some (vI x1)]) (st' := [vI x1, vR 18]) (L' := LR z1 (uA f1 18 (upd (f1 18) (ix x1) r1))) 3 (b267_4 (mcall (d + 5)) x1 z1 (uA f1 18 (upd (f1 18) (ix x1) r1))) ?_
  obtain ⟨g1, H⟩ := H
  refine rc_g (i' := 16) (ls' := [some (vR 0), some (vI x1)]) (st' := [vI ((upd (f1 18) (ix x1) r1) (ix x1))]) (L' := LR z1 (uA f1 18 (upd (f1 18) (ix x1) r1))) (b267_5 (mcall (d + 5)) x1 _ z1 (uA f1 18 (upd (f1 18) (ix x1) r1))) (pinG g1) ?_
  refine rc_b (i' := 17) (ls' := [some (vR 0), some (vI x1)]) (st' := [vI ((-1)), vI ((upd (f1 18) (ix x1) r1) (ix x1))]) (L' := LR z1 (uA f1 18 (upd (f1 18) (ix x1) r1))) 1 (b267_6 (mcall (d + 5)) x1 ((upd (f1 18) (ix x1) r1) (ix x1)) _) ?_
  refine rc_if (it := 20) (ie := 18) (ls' := [some (vR 0), some (vI x1)]) (st' := []) (b267_7 (mcall (d + 5)) ((upd (f1 18) (ix x1) r1) (ix x1)) ((-1)) _ _) (fun q1 => ?_) (fun q1 => ?_)
  · have H := H.1 (cI1t q1)
    refine rc_b (i' := 29) (ls' := [some (vR 0), some (vI x1)]) (st' := [vI 11, vI 0, vI 18, vR 0, vI (x1 + 1), vR 18]) (L' := LR z1 (uA f1 18 (upd (f1 18) (ix x1) r1))) 9 (b267_8 (mcall (d + 5)) x1 z1 (uA f1 18 (upd (f1 18) (ix x1) r1))) ?_
    obtain ⟨r2, z2, f2, hc, H⟩ := H
    refine rc_call (t := 30) (ls' := [some (vR 0), some (vI x1)]) (st' := [vI (x1 + 1), vR 18]) (b267_9 (mcall (d + 5)) 18 0 11 (x1 + 1) _ z1 (uA f1 18 (upd (f1 18) (ix x1) r1))) hc ?_
    show RC (mcall (d + 5)) (mP 267) 30 [some (vR 0), some (vI x1)] [vI r2, vI (x1 + 1), vR 18] (LR z2 f2) res
    obtain ⟨g1, H⟩ := H
    refine rc_g (i' := 31) (ls' := [some (vR 0), some (vI x1)]) (st' := []) (L' := LR z2 (uA f2 18 (upd (f2 18) (ix (x1 + 1)) r2))) (b267_10 (mcall (d + 5)) (x1 + 1) r2 _ z2 f2) (pinG g1) ?_
    refine rc_b (i' := 36) (ls' := [some (vR 0), some (vI x1)]) (st' := [vI (x1 + 1), vR 18]) (L' := LR z2 (uA f2 18 (upd (f2 18) (ix (x1 + 1)) r2))) 5 (b267_11 (mcall (d + 5)) x1 z2 (uA f2 18 (upd (f2 18) (ix (x1 + 1)) r2))) ?_
    obtain ⟨g1, H⟩ := H
    refine rc_g (i' := 37) (ls' := [some (vR 0), some (vI x1)]) (st' := [vI ((upd (f2 18) (ix (x1 + 1)) r2) (ix (x1 + 1)))]) (L' := LR z2 (uA f2 18 (upd (f2 18) (ix (x1 + 1)) r2))) (b267_12 (mcall (d + 5)) (x1 + 1) _ z2 (uA f2 18 (upd (f2 18) (ix (x1 + 1)) r2))) (pinG g1) ?_
    refine rc_b (i' := 38) (ls' := [some (vR 0), some (vI x1)]) (st' := [vI ((-1)), vI ((upd (f2 18) (ix (x1 + 1)) r2) (ix (x1 + 1)))]) (L' := LR z2 (uA f2 18 (upd (f2 18) (ix (x1 + 1)) r2))) 1 (b267_13 (mcall (d + 5)) x1 ((upd (f2 18) (ix (x1 + 1)) r2) (ix (x1 + 1))) _) ?_
    refine rc_if (it := 41) (ie := 39) (ls' := [some (vR 0), some (vI x1)]) (st' := []) (b267_14 (mcall (d + 5)) ((upd (f2 18) (ix (x1 + 1)) r2) (ix (x1 + 1))) ((-1)) _ _) (fun q2 => ?_) (fun q2 => ?_)
    · have H := H.1 (cI1t q2)
      refine rc_b (i' := 50) (ls' := [some (vR 0), some (vI x1)]) (st' := [vI 11, vI 0, vI 19, vR 0, vI (x1 + 2), vR 18]) (L' := LR z2 (uA f2 18 (upd (f2 18) (ix (x1 + 1)) r2))) 9 (b267_15 (mcall (d + 5)) x1 z2 (uA f2 18 (upd (f2 18) (ix (x1 + 1)) r2))) ?_
      obtain ⟨r3, z3, f3, hc, H⟩ := H
      refine rc_call (t := 51) (ls' := [some (vR 0), some (vI x1)]) (st' := [vI (x1 + 2), vR 18]) (b267_16 (mcall (d + 5)) 19 0 11 (x1 + 2) _ z2 (uA f2 18 (upd (f2 18) (ix (x1 + 1)) r2))) hc ?_
      show RC (mcall (d + 5)) (mP 267) 51 [some (vR 0), some (vI x1)] [vI r3, vI (x1 + 2), vR 18] (LR z3 f3) res
      obtain ⟨g1, H⟩ := H
      refine rc_g (i' := 52) (ls' := [some (vR 0), some (vI x1)]) (st' := []) (L' := LR z3 (uA f3 18 (upd (f3 18) (ix (x1 + 2)) r3))) (b267_17 (mcall (d + 5)) (x1 + 2) r3 _ z3 f3) (pinG g1) ?_
      refine rc_b (i' := 57) (ls' := [some (vR 0), some (vI x1)]) (st' := [vI (x1 + 2), vR 18]) (L' := LR z3 (uA f3 18 (upd (f3 18) (ix (x1 + 2)) r3))) 5 (b267_18 (mcall (d + 5)) x1 z3 (uA f3 18 (upd (f3 18) (ix (x1 + 2)) r3))) ?_
      obtain ⟨g1, H⟩ := H
      refine rc_g (i' := 58) (ls' := [some (vR 0), some (vI x1)]) (st' := [vI ((upd (f3 18) (ix (x1 + 2)) r3) (ix (x1 + 2)))]) (L' := LR z3 (uA f3 18 (upd (f3 18) (ix (x1 + 2)) r3))) (b267_19 (mcall (d + 5)) (x1 + 2) _ z3 (uA f3 18 (upd (f3 18) (ix (x1 + 2)) r3))) (pinG g1) ?_
      refine rc_b (i' := 59) (ls' := [some (vR 0), some (vI x1)]) (st' := [vI ((-1)), vI ((upd (f3 18) (ix (x1 + 2)) r3) (ix (x1 + 2)))]) (L' := LR z3 (uA f3 18 (upd (f3 18) (ix (x1 + 2)) r3))) 1 (b267_20 (mcall (d + 5)) x1 ((upd (f3 18) (ix (x1 + 2)) r3) (ix (x1 + 2))) _) ?_
      refine rc_if (it := 62) (ie := 60) (ls' := [some (vR 0), some (vI x1)]) (st' := []) (b267_21 (mcall (d + 5)) ((upd (f3 18) (ix (x1 + 2)) r3) (ix (x1 + 2))) ((-1)) _ _) (fun q3 => ?_) (fun q3 => ?_)
      · have H := H.1 (cI1t q3)
        refine rc_b (i' := 64) (ls' := [some (vR 0), some (vI x1)]) (st' := [vI 59, vR 0]) (L' := LR z3 (uA f3 18 (upd (f3 18) (ix (x1 + 2)) r3))) 2 (b267_22 (mcall (d + 5)) x1 _) ?_
        obtain ⟨r4, z4, f4, hc, H⟩ := H
        refine rc_call (t := 65) (ls' := [some (vR 0), some (vI x1)]) (st' := []) (b267_23 (mcall (d + 5)) 59 _ z3 (uA f3 18 (upd (f3 18) (ix (x1 + 2)) r3))) hc ?_
        show RC (mcall (d + 5)) (mP 267) 65 [some (vR 0), some (vI x1)] [vI r4] (LR z4 f4) res
        subst H
        exact rc_ret (b267_24 (mcall (d + 5)) _ _ _)
      · have H := H.2 (cI1f q3)
        refine rc_b (i' := 65) (ls' := [some (vR 0), some (vI x1)]) (st' := [vI ((-1))]) (L' := LR z3 (uA f3 18 (upd (f3 18) (ix (x1 + 2)) r3))) 2 (b267_25 (mcall (d + 5)) x1 _) ?_
        subst H
        exact rc_ret (b267_24 (mcall (d + 5)) _ _ _)
    · have H := H.2 (cI1f q2)
      refine rc_b (i' := 40) (ls' := [some (vR 0), some (vI x1)]) (st' := [vI ((-1))]) (L' := LR z2 (uA f2 18 (upd (f2 18) (ix (x1 + 1)) r2))) 1 (b267_26 (mcall (d + 5)) x1 _) ?_
      subst H
      exact rc_ret (b267_27 (mcall (d + 5)) _ _ _)
  · have H := H.2 (cI1f q1)
    refine rc_b (i' := 19) (ls' := [some (vR 0), some (vI x1)]) (st' := [vI ((-1))]) (L' := LR z1 (uA f1 18 (upd (f1 18) (ix x1) r1))) 1 (b267_28 (mcall (d + 5)) x1 _) ?_
    subst H
    exact rc_ret (b267_29 (mcall (d + 5)) _ _ _)
def GW (f : Nat → FA) (n : Nat) : Prop := inb 2147483648 2147483667 (f 18 (48 + 3 * n)) ∧ inb 2147483648 2147483659 (f 18 (48 + 3 * n + 1)) ∧ inb 2147483648 2147483659 (f 18 (48 + 3 * n + 2))
theorem readWay_r (d0 : Nat) {t a n : Nat} {z : Nat → Int32} {f : Nat → FA} (hn : n < 16) (hz : BNDz z) (h : TS t a z f) (hB : BNDf f) : ∃ r z' f' a', mcall (d0 + 6) 267 [vR 0, vI (nI (48 + 3 * n))] (LR z f) = some (some (vI r), LR z' f') ∧ DFr 18 (48 + 3 * n) 3 z f z' f' ∧ TS t a' z' f' ∧ a ≤ a' ∧ BNDf f' ∧ (r = -1 ∨ (a < a' ∧ GW f' n)) := by
  have go : ∀ res, _ → mcall (d0 + 6) 267 [vR 0, vI (nI (48 + 3 * n))] (LR z f) = some res := fun res H => mcall_i (mq267 (cu := [])).2.2 rfl (vc267_0 d0 _ z f res H)
  have e1 : nI (48 + 3 * n) + 1 = nI (48 + 3 * n + 1) := nI_add _ 1
  have e2 : nI (48 + 3 * n) + 2 = nI (48 + 3 * n + 2) := nI_add _ 2
  rw [e1, e2, ix_nI (j := 48 + 3 * n) (by omega), ix_nI (j := 48 + 3 * n + 1) (by omega), ix_nI (j := 48 + 3 * n + 2) (by omega)] at go
  have hv := vot_I hz
  have q11 := i11
  obtain ⟨r1, z1, a1, u1, u2, u3, u4, u5⟩ := readTold_r d0 17 0 (z 6 - 1) h
  obtain ⟨b1, b2, b3⟩ := res_I u5 (by decide)
  have B1 := w18_0 (x := r1) hB hn (by omega) (by omega)
  rw [Nat.add_zero] at B1
  by_cases c1 : r1 = -1
  · exact ⟨-1, z1, _, a1, go _ ⟨r1, z1, f, u1, pin_nI (by omega) (by omega), pin_nI (by omega) (by omega), fun q => absurd (by rw [pk_us]; exact c1) q, fun _ => rfl⟩, (DFr.z u2).trans (DFr.w (by omega) (by omega)), u3.fk (by decide), u4, B1, Or.inl rfl⟩
  · obtain ⟨r2, z2, a2, v1, v2, v3, v4, v5⟩ := readTold_r d0 (f := uA f 18 (upd (f 18) (48 + 3 * n) r1)) 18 0 11 (u3.fk (by decide))
    obtain ⟨d1, d2, d3⟩ := res_I v5 (by decide)
    have B2 := w18_1 (x := r2) B1 hn (by omega) (by omega)
    have D2 : DFr 18 (48 + 3 * n) 3 z f z2 (uA (uA f 18 (upd (f 18) (48 + 3 * n) r1)) 18 (upd ((uA f 18 (upd (f 18) (48 + 3 * n) r1)) 18) (48 + 3 * n + 1) r2)) := ((DFr.z u2).trans (DFr.w (by omega) (by omega))).trans ((DFr.z v2).trans (DFr.w (by omega) (by omega)))
    by_cases c2 : r2 = -1
    · exact ⟨-1, z2, _, a2, go _ ⟨r1, z1, f, u1, pin_nI (by omega) (by omega), pin_nI (by omega) (by omega), fun _ => ⟨r2, z2, _, v1, pin_nI (by omega) (by omega), pin_nI (by omega) (by omega), fun q => absurd (by rw [pk_us]; exact c2) q, fun _ => rfl⟩, fun q => absurd (by rw [pk_us] at q; exact q) c1⟩, D2, v3.fk (by decide), by omega, B2, Or.inl rfl⟩
    · obtain ⟨r3, z3, a3, w1, w2, w3, w4, w5⟩ := readTold_r d0 (f := uA (uA f 18 (upd (f 18) (48 + 3 * n) r1)) 18 (upd ((uA f 18 (upd (f 18) (48 + 3 * n) r1)) 18) (48 + 3 * n + 1) r2)) 19 0 11 (v3.fk (by decide))
      obtain ⟨f1, f2, f3⟩ := res_I w5 (by decide)
      have B3 := w18_2 (x := r3) B2 hn (by omega) (by omega)
      have D3 := D2.trans ((DFr.z w2).trans (DFr.w (r := 18) (b := 48 + 3 * n) (c := 3) (i := 48 + 3 * n + 2) (x := r3) (by omega) (by omega)))
      by_cases c3 : r3 = -1
      · exact ⟨-1, z3, _, a3, go _ ⟨r1, z1, f, u1, pin_nI (by omega) (by omega), pin_nI (by omega) (by omega), fun _ => ⟨r2, z2, _, v1, pin_nI (by omega) (by omega), pin_nI (by omega) (by omega), fun _ => ⟨r3, z3, _, w1, pin_nI (by omega) (by omega), pin_nI (by omega) (by omega), fun q => absurd (by rw [pk_us]; exact c3) q, fun _ => rfl⟩, fun q => absurd (by rw [pk_us] at q; exact q) c2⟩, fun q => absurd (by rw [pk_us] at q; exact q) c1⟩, D3, w3.fk (by decide), by omega, B3, Or.inl rfl⟩
      · obtain ⟨r4, z4, a4, y1, y2, y3, y4, y5⟩ := readMark_r (d0 + 1) (f := uA (uA (uA f 18 (upd (f 18) (48 + 3 * n) r1)) 18 (upd ((uA f 18 (upd (f 18) (48 + 3 * n) r1)) 18) (48 + 3 * n + 1) r2)) 18 (upd ((uA (uA f 18 (upd (f 18) (48 + 3 * n) r1)) 18 (upd ((uA f 18 (upd (f 18) (48 + 3 * n) r1)) 18) (48 + 3 * n + 1) r2)) 18) (48 + 3 * n + 2) r3)) 59 (w3.fk (by decide))
        refine ⟨r4, z4, _, a4, go _ ⟨r1, z1, f, u1, pin_nI (by omega) (by omega), pin_nI (by omega) (by omega), fun _ => ⟨r2, z2, _, v1, pin_nI (by omega) (by omega), pin_nI (by omega) (by omega), fun _ => ⟨r3, z3, _, w1, pin_nI (by omega) (by omega), pin_nI (by omega) (by omega), fun _ => ⟨r4, z4, _, y1, rfl⟩, fun q => absurd (by rw [pk_us] at q; exact q) c3⟩, fun q => absurd (by rw [pk_us] at q; exact q) c2⟩, fun q => absurd (by rw [pk_us] at q; exact q) c1⟩, D3.trans (DFr.z y2), y3, by omega, B3, ?_⟩
        rcases y5 with y5 | ⟨-, y6⟩
        · exact Or.inl y5
        · refine Or.inr ⟨by omega, ?_, ?_, ?_⟩
          · rw [uA_self, pk_un (by omega), uA_self, pk_un (by omega), uA_self, pk_us]
            rcases b2 with b2 | b2
            · exact absurd b2 c1
            · exact inb_J (by omega) (by omega)
          · rw [uA_self, pk_un (by omega), uA_self, pk_us]
            rcases d2 with d2 | d2
            · exact absurd d2 c2
            · exact inb_J (by omega) (by omega)
          · rw [uA_self, pk_us]
            rcases f2 with f2 | f2
            · exact absurd f2 c3
            · exact inb_J (by omega) (by omega)
set_option maxRecDepth 100000 in
theorem b268_1 (call : QC FA) (o1 : Option PV) (L : QH FA) (F : Nat) : rnG call 268 (F + 2) 0 [some (vR 0), o1] [] L = rnG call 268 F 2 [some (vR 0), some (vI 0)] [] L := rfl
theorem vc268_0 (d : Nat) (o1 : Option PV) (z : Nat → Int32) (f : Nat → FA) (res : Option PV × QH FA) (H : RC (mcall (d + 6)) (mP 268) 2 [some (vR 0), some (vI 0)] [] (LR z f) res) : RC (mcall (d + 6)) (mP 268) 0 [some (vR 0), o1] [] (LR z f) res := by
  refine rc_b (i' := 2) (ls' := [some (vR 0), some (vI 0)]) (st' := []) (L' := LR z f) 2 (b268_1 (mcall (d + 6)) o1 _) ?_
  exact H
set_option maxRecDepth 100000 in
theorem bc2_268_1 (call : QC FA) (x1 : Int32) (L : QH FA) (F : Nat) : rnG call 268 (F + 2) 2 [some (vR 0), some (vI x1)] [] L = rnG call 268 F 4 [some (vR 0), some (vI x1)] [vI 17, vR 0] L := rfl
set_option maxRecDepth 100000 in
theorem bc2_268_2 (call : QC FA) (a0 : Int32) (ls : List (Option PV)) (z : Nat → Int32) (f : Nat → FA) (F : Nat) : rnG call 268 (F + 1) 4 ls [vI a0, vR 0] (LR z f) = cbd (call 228 [vR 0, vI a0] (LR z f)) (fun r L' => rnG call 268 F 5 ls (r.toList ++ []) L') := pcY (ih := rnG call 268 F) (call := call) (a := 228) (b := 1) (v := 12) (t := 5) (x := 0) (ls := ls) (As := [vI a0]) (st' := []) (L := LR z f) rfl rfl rfl
set_option maxRecDepth 100000 in
theorem bc2_268_3 (call : QC FA) (x : Int32) (ls : List (Option PV)) (L : QH FA) (F : Nat) : rnG call 268 (F + 1) 5 ls [vI x] L = bif pcmp 0 x 0 then rnG call 268 F 29 ls [] L else rnG call 268 F 6 ls [] L := rfl
set_option maxRecDepth 100000 in
theorem bc2_268_4 (call : QC FA) (x1 : Int32) (z : Nat → Int32) (f : Nat → FA) (F : Nat) : rnG call 268 (F + 2) 29 [some (vR 0), some (vI x1)] [] (LR z f) = rnG call 268 F 31 [some (vR 0), some (vI x1)] [vI (z 15)] (LR z f) := rfl
set_option maxRecDepth 100000 in
theorem bc2_268_5 (call : QC FA) (x : Int32) (ls : List (Option PV)) (L : QH FA) (F : Nat) : rnG call 268 (F + 1) 31 ls [vI x] L = bif pcmp 1 x 0 then rnG call 268 F 34 ls [] L else rnG call 268 F 32 ls [] L := rfl
set_option maxRecDepth 100000 in
theorem bc2_268_6 (call : QC FA) (x1 : Int32) (L : QH FA) (F : Nat) : rnG call 268 (F + 2) 34 [some (vR 0), some (vI x1)] [] L = rnG call 268 F 36 [some (vR 0), some (vI x1)] [vI 1, vR 0] L := rfl
set_option maxRecDepth 100000 in
theorem bc2_268_7 (call : QC FA) (a0 : Int32) (ls : List (Option PV)) (z : Nat → Int32) (f : Nat → FA) (F : Nat) : rnG call 268 (F + 1) 36 ls [vI a0, vR 0] (LR z f) = cbd (call 208 [vR 0, vI a0] (LR z f)) (fun r L' => rnG call 268 F 37 ls (r.toList ++ []) L') := pcY (ih := rnG call 268 F) (call := call) (a := 208) (b := 1) (v := 12) (t := 37) (x := 0) (ls := ls) (As := [vI a0]) (st' := []) (L := LR z f) rfl rfl rfl
set_option maxRecDepth 100000 in
theorem bc2_268_8 (call : QC FA) (x : Int32) (ls : List (Option PV)) (L : QH FA) (F : Nat) : rnG call 268 (F + 1) 37 ls [vI x] L = some (some (vI x), L) := rfl
set_option maxRecDepth 100000 in
theorem bc2_268_9 (call : QC FA) (x1 : Int32) (L : QH FA) (F : Nat) : rnG call 268 (F + 2) 32 [some (vR 0), some (vI x1)] [] L = rnG call 268 F 37 [some (vR 0), some (vI x1)] [vI x1] L := rfl
set_option maxRecDepth 100000 in
theorem bc2_268_10 (call : QC FA) (x1 : Int32) (L : QH FA) (F : Nat) : rnG call 268 (F + 2) 6 [some (vR 0), some (vI x1)] [] L = rnG call 268 F 8 [some (vR 0), some (vI x1)] [vI 16, vI x1] L := rfl
set_option maxRecDepth 100000 in
theorem bc2_268_11 (call : QC FA) (x y : Int32) (ls : List (Option PV)) (L : QH FA) (F : Nat) : rnG call 268 (F + 1) 8 ls [vI y, vI x] L = bif pcmp 1 x y then rnG call 268 F 13 ls [] L else rnG call 268 F 9 ls [] L := rfl
set_option maxRecDepth 100000 in
theorem bc2_268_12 (call : QC FA) (x1 : Int32) (L : QH FA) (F : Nat) : rnG call 268 (F + 6) 13 [some (vR 0), some (vI x1)] [] L = rnG call 268 F 19 [some (vR 0), some (vI x1)] [vI (48 + (3 * x1)), vR 0] L := rfl
set_option maxRecDepth 100000 in
theorem bc2_268_13 (call : QC FA) (a0 : Int32) (ls : List (Option PV)) (z : Nat → Int32) (f : Nat → FA) (F : Nat) : rnG call 268 (F + 1) 19 ls [vI a0, vR 0] (LR z f) = cbd (call 267 [vR 0, vI a0] (LR z f)) (fun r L' => rnG call 268 F 20 ls (r.toList ++ []) L') := pcY (ih := rnG call 268 F) (call := call) (a := 267) (b := 1) (v := 12) (t := 20) (x := 0) (ls := ls) (As := [vI a0]) (st' := []) (L := LR z f) rfl rfl rfl
set_option maxRecDepth 100000 in
theorem bc2_268_14 (call : QC FA) (x1 : Int32) (s0 : Int32) (L : QH FA) (F : Nat) : rnG call 268 (F + 1) 20 [some (vR 0), some (vI x1)] [vI s0] L = rnG call 268 F 21 [some (vR 0), some (vI x1)] [vI ((-1)), vI s0] L := rfl
set_option maxRecDepth 100000 in
theorem bc2_268_15 (call : QC FA) (x y : Int32) (ls : List (Option PV)) (L : QH FA) (F : Nat) : rnG call 268 (F + 1) 21 ls [vI y, vI x] L = bif pcmp 1 x y then rnG call 268 F 24 ls [] L else rnG call 268 F 22 ls [] L := rfl
set_option maxRecDepth 100000 in
theorem bc2_268_16 (call : QC FA) (x1 : Int32) (L : QH FA) (F : Nat) : rnG call 268 (F + 5) 24 [some (vR 0), some (vI x1)] [] L = rnG call 268 F 2 [some (vR 0), some (vI (x1 + 1))] [] L := rfl
set_option maxRecDepth 100000 in
theorem bc2_268_17 (call : QC FA) (x1 : Int32) (L : QH FA) (F : Nat) : rnG call 268 (F + 1) 22 [some (vR 0), some (vI x1)] [] L = rnG call 268 F 23 [some (vR 0), some (vI x1)] [vI ((-1))] L := rfl
set_option maxRecDepth 100000 in
theorem bc2_268_18 (call : QC FA) (x : Int32) (ls : List (Option PV)) (L : QH FA) (F : Nat) : rnG call 268 (F + 1) 23 ls [vI x] L = some (some (vI x), L) := rfl
set_option maxRecDepth 100000 in
theorem bc2_268_19 (call : QC FA) (x1 : Int32) (L : QH FA) (F : Nat) : rnG call 268 (F + 2) 9 [some (vR 0), some (vI x1)] [] L = rnG call 268 F 11 [some (vR 0), some (vI x1)] [vI 3, vR 0] L := rfl
set_option maxRecDepth 100000 in
theorem bc2_268_20 (call : QC FA) (a0 : Int32) (ls : List (Option PV)) (z : Nat → Int32) (f : Nat → FA) (F : Nat) : rnG call 268 (F + 1) 11 ls [vI a0, vR 0] (LR z f) = cbd (call 208 [vR 0, vI a0] (LR z f)) (fun r L' => rnG call 268 F 12 ls (r.toList ++ []) L') := pcY (ih := rnG call 268 F) (call := call) (a := 208) (b := 1) (v := 12) (t := 12) (x := 0) (ls := ls) (As := [vI a0]) (st' := []) (L := LR z f) rfl rfl rfl
set_option maxRecDepth 100000 in
theorem bc2_268_21 (call : QC FA) (x : Int32) (ls : List (Option PV)) (L : QH FA) (F : Nat) : rnG call 268 (F + 1) 12 ls [vI x] L = some (some (vI x), L) := rfl
theorem vcc2_268_2 (d : Nat) (x1 : Int32) (z : Nat → Int32) (f : Nat → FA) (res : Option PV × QH FA) (H : (((z 15 = 2 ∧ z 16 = 17) → ((¬ x1 = 16 → (∃ (r2 : Int32) (z2 : Nat → Int32) (f2 : Nat → FA), (mcall (d + 6)) 267 [vR 0, vI (48 + (3 * x1))] (LR z f) = some (some (vI r2), LR z2 f2) ∧ ((¬ r2 = (-1) → RC (mcall (d + 6)) (mP 268) 2 [some (vR 0), some (vI (x1 + 1))] [] (LR z2 f2) res) ∧ (r2 = (-1) → res = (some (vI ((-1))), LR z2 f2))))) ∧ (x1 = 16 → (∃ (r3 : Int32) (z3 : Nat → Int32) (f3 : Nat → FA), (mcall (d + 6)) 208 [vR 0, vI 3] (LR z f) = some (some (vI r3), LR z3 f3) ∧ res = (some (vI r3), LR z3 f3))))) ∧ ((¬ (z 15 = 2 ∧ z 16 = 17)) → ((¬ z 15 = 0 → (∃ (r1 : Int32) (z1 : Nat → Int32) (f1 : Nat → FA), (mcall (d + 6)) 208 [vR 0, vI 1] (LR z f) = some (some (vI r1), LR z1 f1) ∧ res = (some (vI r1), LR z1 f1))) ∧ (z 15 = 0 → res = (some (vI x1), LR z f)))))) : RC (mcall (d + 6)) (mP 268) 2 [some (vR 0), some (vI x1)] [] (LR z f) res := by
  refine rc_b (i' := 4) (ls' := [some (vR 0), some (vI x1)]) (st' := [vI 17, vR 0]) (L' := LR z f) 2 (bc2_268_1 (mcall (d + 6)) x1 _) ?_
  refine rc_call (t := 5) (ls' := [some (vR 0), some (vI x1)]) (st' := []) (bc2_268_2 (mcall (d + 6)) 17 _ z f) (isWord_r _ 17 z f) ?_
  show RC (mcall (d + 6)) (mP 268) 5 [some (vR 0), some (vI x1)] [vI (bI (z 15 = 2 ∧ z 16 = 17))] (LR z f) res
  refine rc_bz (it := 29) (ie := 6) (ls' := [some (vR 0), some (vI x1)]) (st' := []) (bc2_268_3 (mcall (d + 6)) (bI (z 15 = 2 ∧ z 16 = 17)) _ _) (fun q1 => ?_) (fun q1 => ?_)
  · have H := H.2 q1
    refine rc_b (i' := 31) (ls' := [some (vR 0), some (vI x1)]) (st' := [vI (z 15)]) (L' := LR z f) 2 (bc2_268_4 (mcall (d + 6)) x1 z f) ?_
    refine rc_if (it := 34) (ie := 32) (ls' := [some (vR 0), some (vI x1)]) (st' := []) (bc2_268_5 (mcall (d + 6)) (z 15) _ _) (fun q2 => ?_) (fun q2 => ?_)
    · have H := H.1 (cI1t q2)
      refine rc_b (i' := 36) (ls' := [some (vR 0), some (vI x1)]) (st' := [vI 1, vR 0]) (L' := LR z f) 2 (bc2_268_6 (mcall (d + 6)) x1 _) ?_
      obtain ⟨r1, z1, f1, hc, H⟩ := H
      refine rc_call (t := 37) (ls' := [some (vR 0), some (vI x1)]) (st' := []) (bc2_268_7 (mcall (d + 6)) 1 _ z f) hc ?_
      show RC (mcall (d + 6)) (mP 268) 37 [some (vR 0), some (vI x1)] [vI r1] (LR z1 f1) res
      subst H
      exact rc_ret (bc2_268_8 (mcall (d + 6)) _ _ _)
    · have H := H.2 (cI1f q2)
      refine rc_b (i' := 37) (ls' := [some (vR 0), some (vI x1)]) (st' := [vI x1]) (L' := LR z f) 2 (bc2_268_9 (mcall (d + 6)) x1 _) ?_
      subst H
      exact rc_ret (bc2_268_8 (mcall (d + 6)) _ _ _)
  · have H := H.1 q1
    refine rc_b (i' := 8) (ls' := [some (vR 0), some (vI x1)]) (st' := [vI 16, vI x1]) (L' := LR z f) 2 (bc2_268_10 (mcall (d + 6)) x1 _) ?_
    refine rc_if (it := 13) (ie := 9) (ls' := [some (vR 0), some (vI x1)]) (st' := []) (bc2_268_11 (mcall (d + 6)) x1 16 _ _) (fun q3 => ?_) (fun q3 => ?_)
    · have H := H.1 (cI1t q3)
      refine rc_b (i' := 19) (ls' := [some (vR 0), some (vI x1)]) (st' := [vI (48 + (3 * x1)), vR 0]) (L' := LR z f) 6 (bc2_268_12 (mcall (d + 6)) x1 _) ?_
      obtain ⟨r2, z2, f2, hc, H⟩ := H
      refine rc_call (t := 20) (ls' := [some (vR 0), some (vI x1)]) (st' := []) (bc2_268_13 (mcall (d + 6)) (48 + (3 * x1)) _ z f) hc ?_
      show RC (mcall (d + 6)) (mP 268) 20 [some (vR 0), some (vI x1)] [vI r2] (LR z2 f2) res
      refine rc_b (i' := 21) (ls' := [some (vR 0), some (vI x1)]) (st' := [vI ((-1)), vI r2]) (L' := LR z2 f2) 1 (bc2_268_14 (mcall (d + 6)) x1 r2 _) ?_
      refine rc_if (it := 24) (ie := 22) (ls' := [some (vR 0), some (vI x1)]) (st' := []) (bc2_268_15 (mcall (d + 6)) r2 ((-1)) _ _) (fun q4 => ?_) (fun q4 => ?_)
      · have H := H.1 (cI1t q4)
        refine rc_b (i' := 2) (ls' := [some (vR 0), some (vI (x1 + 1))]) (st' := []) (L' := LR z2 f2) 5 (bc2_268_16 (mcall (d + 6)) x1 _) ?_
        exact H
      · have H := H.2 (cI1f q4)
        refine rc_b (i' := 23) (ls' := [some (vR 0), some (vI x1)]) (st' := [vI ((-1))]) (L' := LR z2 f2) 1 (bc2_268_17 (mcall (d + 6)) x1 _) ?_
        subst H
        exact rc_ret (bc2_268_18 (mcall (d + 6)) _ _ _)
    · have H := H.2 (cI1f q3)
      refine rc_b (i' := 11) (ls' := [some (vR 0), some (vI x1)]) (st' := [vI 3, vR 0]) (L' := LR z f) 2 (bc2_268_19 (mcall (d + 6)) x1 _) ?_
      obtain ⟨r3, z3, f3, hc, H⟩ := H
      refine rc_call (t := 12) (ls' := [some (vR 0), some (vI x1)]) (st' := []) (bc2_268_20 (mcall (d + 6)) 3 _ z f) hc ?_
      show RC (mcall (d + 6)) (mP 268) 12 [some (vR 0), some (vI x1)] [vI r3] (LR z3 f3) res
      subst H
      exact rc_ret (bc2_268_21 (mcall (d + 6)) _ _ _)
theorem GW.tr {f f' : Nat → FA} {n : Nat} (h : GW f n) (hf : ∀ c, c < 3 → f' 18 (48 + 3 * n + c) = f 18 (48 + 3 * n + c)) : GW f' n := by
  have h0 := hf 0 (by omega)
  rw [Nat.add_zero] at h0
  unfold GW at *
  rw [h0, hf 1 (by omega), hf 2 (by omega)]
  exact h
theorem wy2 (d0 t : Nat) : ∀ m n a z f, t - a < m → n ≤ 16 → BNDz z → TS t a z f → BNDf f → (∀ l, l < n → GW f l) → ∃ r z' f' a', RC (mcall (d0 + 6)) (mP 268) 2 [some (vR 0), some (vI (nI n))] [] (LR z f) (some (vI r), LR z' f') ∧ DFb 18 48 z f z' f' ∧ TS t a' z' f' ∧ BNDf f' ∧ (r = -1 ∨ ∃ n', r = nI n' ∧ n' ≤ 16 ∧ ∀ l, l < n' → GW f' l) := by
  intro m
  induction m with
  | zero => intro n a z f hm; omega
  | succ m ih =>
    intro n a z f hm hn hz h hB hG
    have hal := h.a_le
    by_cases c1 : z 15 = 2 ∧ z 16 = 17
    · by_cases c2 : n = 16
      · subst c2
        exact ⟨-1, _, f, a, vcc2_268_2 _ _ _ _ _ ⟨fun _ => ⟨fun q => absurd rfl q, fun _ => ⟨-1, _, f, errs_r (d0 + 5) 3 z f, rfl⟩⟩, fun q => absurd c1 q⟩, DFb.z RNz.er, h.er, hB, Or.inl rfl⟩
      · have n16 : ¬ nI n = 16 := fun q => c2 (nI_inj (b := 16) (by omega) (by omega) q)
        have ea : (48 : Int32) + 3 * nI n = nI (48 + 3 * n) := by rw [nmul (x := 3) (y := nI n) (a := 3) (b := n) rfl rfl]; exact nI_add 48 (3 * n)
        obtain ⟨r, z1, f1, a1, u1, u2, u3, u4, u5, u6⟩ := readWay_r d0 (n := n) (by omega) hz h hB
        have hal1 := u3.a_le
        by_cases c3 : r = -1
        · refine ⟨-1, z1, f1, a1, vcc2_268_2 _ _ _ _ _ ⟨fun _ => ⟨fun _ => ⟨r, z1, f1, by rw [ea]; exact u1, fun q => absurd c3 q, fun _ => rfl⟩, fun q => absurd q n16⟩, fun q => absurd c1 q⟩, u2.b (by omega), u3, u5, Or.inl rfl⟩
        · obtain ⟨u7, u8⟩ := u6.resolve_left c3
          obtain ⟨r', z', f', a', v1, v2, v3⟩ := ih (n + 1) a1 z1 f1 (by omega) (by omega) (hz.rn u2.1 u3) u3 u5 (fun l hl => by
            by_cases e : l = n
            · subst e; exact u8
            · exact (hG l (by omega)).tr (fun c hc => u2.2.2 _ (Or.inl (by omega))))
          refine ⟨r', z', f', a', vcc2_268_2 _ _ _ _ _ ⟨fun _ => ⟨fun _ => ⟨r, z1, f1, by rw [ea]; exact u1, fun _ => ?_, fun q => absurd q c3⟩, fun q => absurd q n16⟩, fun q => absurd c1 q⟩, (u2.b (by omega)).trans v2, v3⟩
          rw [show nI n + 1 = nI (n + 1) from nI_add n 1]
          exact v1
    · by_cases c2 : z 15 = 0
      · exact ⟨nI n, z, f, a, vcc2_268_2 _ _ _ _ _ ⟨fun q => absurd q c1, fun _ => ⟨fun q => absurd c2 q, fun _ => rfl⟩⟩, DFb.refl, h, hB, Or.inr ⟨n, rfl, hn, hG⟩⟩
      · exact ⟨-1, _, f, a, vcc2_268_2 _ _ _ _ _ ⟨fun q => absurd q c1, fun _ => ⟨fun _ => ⟨-1, _, f, errs_r (d0 + 5) 1 z f, rfl⟩, fun q => absurd q c2⟩⟩, DFb.z RNz.er, h.er, hB, Or.inl rfl⟩
theorem readWays_r (d0 : Nat) {t a : Nat} {z : Nat → Int32} {f : Nat → FA} (hz : BNDz z) (h : TS t a z f) (hB : BNDf f) : ∃ r z' f' a', mcall (d0 + 7) 268 [vR 0] (LR z f) = some (some (vI r), LR z' f') ∧ DFb 18 48 z f z' f' ∧ TS t a' z' f' ∧ BNDf f' ∧ (r = -1 ∨ ∃ n', r = nI n' ∧ n' ≤ 16 ∧ ∀ l, l < n' → GW f' l) := by
  obtain ⟨r, z', f', a', v1, v2⟩ := wy2 d0 t _ 0 a z f (Nat.lt_succ_self _) (by omega) hz h hB (fun l hl => absurd hl (by omega))
  exact ⟨r, z', f', a', mcall_i (mq268 (cu := [])).2.2 rfl (vc268_0 _ _ _ _ _ v1), v2⟩
set_option maxRecDepth 100000 in
theorem b264_1 (call : QC FA) (o1 : Option PV) (o2 : Option PV) (z : Nat → Int32) (f : Nat → FA) (F : Nat) : rnG call 264 (F + 7) 0 [some (vR 0), o1, o2] [] (LR z f) = rnG call 264 F 7 [some (vR 0), o1, o2] [vI ((z 6) - 1), vI 0, vI 17, vR 0] (LR z f) := rfl
set_option maxRecDepth 100000 in
theorem b264_2 (call : QC FA) (a0 : Int32) (a1 : Int32) (a2 : Int32) (ls : List (Option PV)) (z : Nat → Int32) (f : Nat → FA) (F : Nat) : rnG call 264 (F + 1) 7 ls [vI a2, vI a1, vI a0, vR 0] (LR z f) = cbd (call 263 [vR 0, vI a0, vI a1, vI a2] (LR z f)) (fun r L' => rnG call 264 F 8 ls (r.toList ++ []) L') := pcY (ih := rnG call 264 F) (call := call) (a := 263) (b := 3) (v := 12) (t := 8) (x := 0) (ls := ls) (As := [vI a0, vI a1, vI a2]) (st' := []) (L := LR z f) rfl rfl rfl
set_option maxRecDepth 100000 in
theorem b264_3 (call : QC FA) (o1 : Option PV) (o2 : Option PV) (s0 : Int32) (L : QH FA) (F : Nat) : rnG call 264 (F + 3) 8 [some (vR 0), o1, o2] [vI s0] L = rnG call 264 F 11 [some (vR 0), some (vI s0), o2] [vI ((-1)), vI s0] L := rfl
set_option maxRecDepth 100000 in
theorem b264_4 (call : QC FA) (x y : Int32) (ls : List (Option PV)) (L : QH FA) (F : Nat) : rnG call 264 (F + 1) 11 ls [vI y, vI x] L = bif pcmp 1 x y then rnG call 264 F 14 ls [] L else rnG call 264 F 12 ls [] L := rfl
set_option maxRecDepth 100000 in
theorem b264_5 (call : QC FA) (x1 : Int32) (o2 : Option PV) (L : QH FA) (F : Nat) : rnG call 264 (F + 2) 14 [some (vR 0), some (vI x1), o2] [] L = rnG call 264 F 16 [some (vR 0), some (vI x1), o2] [vI 25, vR 0] L := rfl
set_option maxRecDepth 100000 in
theorem b264_6 (call : QC FA) (a0 : Int32) (ls : List (Option PV)) (z : Nat → Int32) (f : Nat → FA) (F : Nat) : rnG call 264 (F + 1) 16 ls [vI a0, vR 0] (LR z f) = cbd (call 228 [vR 0, vI a0] (LR z f)) (fun r L' => rnG call 264 F 17 ls (r.toList ++ []) L') := pcY (ih := rnG call 264 F) (call := call) (a := 228) (b := 1) (v := 12) (t := 17) (x := 0) (ls := ls) (As := [vI a0]) (st' := []) (L := LR z f) rfl rfl rfl
set_option maxRecDepth 100000 in
theorem b264_7 (call : QC FA) (x : Int32) (ls : List (Option PV)) (L : QH FA) (F : Nat) : rnG call 264 (F + 1) 17 ls [vI x] L = bif pcmp 1 x 0 then rnG call 264 F 22 ls [] L else rnG call 264 F 18 ls [] L := rfl
set_option maxRecDepth 100000 in
theorem b264_8 (call : QC FA) (x1 : Int32) (o2 : Option PV) (L : QH FA) (F : Nat) : rnG call 264 (F + 1) 22 [some (vR 0), some (vI x1), o2] [] L = rnG call 264 F 23 [some (vR 0), some (vI x1), o2] [vR 0] L := rfl
set_option maxRecDepth 100000 in
theorem b264_9 (call : QC FA) (ls : List (Option PV)) (z : Nat → Int32) (f : Nat → FA) (F : Nat) : rnG call 264 (F + 1) 23 ls [vR 0] (LR z f) = cbd (call 269 [vR 0] (LR z f)) (fun r L' => rnG call 264 F 24 ls (r.toList ++ []) L') := pcY (ih := rnG call 264 F) (call := call) (a := 269) (b := 0) (v := 12) (t := 24) (x := 0) (ls := ls) (As := []) (st' := []) (L := LR z f) rfl rfl rfl
set_option maxRecDepth 100000 in
theorem b264_10 (call : QC FA) (x1 : Int32) (o2 : Option PV) (z : Nat → Int32) (f : Nat → FA) (F : Nat) : rnG call 264 (F + 3) 24 [some (vR 0), some (vI x1), o2] [] (LR z f) = rnG call 264 F 27 [some (vR 0), some (vI x1), o2] [vI 3, vI (z 15)] (LR z f) := rfl
set_option maxRecDepth 100000 in
theorem b264_11 (call : QC FA) (x y : Int32) (ls : List (Option PV)) (L : QH FA) (F : Nat) : rnG call 264 (F + 1) 27 ls [vI y, vI x] L = bif pcmp 1 x y then rnG call 264 F 36 ls [] L else rnG call 264 F 28 ls [] L := rfl
set_option maxRecDepth 100000 in
theorem b264_12 (call : QC FA) (x1 : Int32) (o2 : Option PV) (z : Nat → Int32) (f : Nat → FA) (F : Nat) : rnG call 264 (F + 6) 36 [some (vR 0), some (vI x1), o2] [] (LR z f) = rnG call 264 F 42 [some (vR 0), some (vI x1), o2] [vI ((z 6) - 1), vI 0, vR 0] (LR z f) := rfl
set_option maxRecDepth 100000 in
theorem b264_13 (call : QC FA) (a0 : Int32) (a1 : Int32) (ls : List (Option PV)) (z : Nat → Int32) (f : Nat → FA) (F : Nat) : rnG call 264 (F + 1) 42 ls [vI a1, vI a0, vR 0] (LR z f) = cbd (call 258 [vR 0, vI a0, vI a1] (LR z f)) (fun r L' => rnG call 264 F 43 ls (r.toList ++ []) L') := pcY (ih := rnG call 264 F) (call := call) (a := 258) (b := 2) (v := 12) (t := 43) (x := 0) (ls := ls) (As := [vI a0, vI a1]) (st' := []) (L := LR z f) rfl rfl rfl
set_option maxRecDepth 100000 in
theorem b264_14 (call : QC FA) (x1 : Int32) (o2 : Option PV) (s0 : Int32) (L : QH FA) (F : Nat) : rnG call 264 (F + 3) 43 [some (vR 0), some (vI x1), o2] [vI s0] L = rnG call 264 F 46 [some (vR 0), some (vI x1), some (vI s0)] [vI ((-1)), vI s0] L := rfl
set_option maxRecDepth 100000 in
theorem b264_15 (call : QC FA) (x y : Int32) (ls : List (Option PV)) (L : QH FA) (F : Nat) : rnG call 264 (F + 1) 46 ls [vI y, vI x] L = bif pcmp 1 x y then rnG call 264 F 49 ls [] L else rnG call 264 F 47 ls [] L := rfl
set_option maxRecDepth 100000 in
theorem b264_16 (call : QC FA) (x1 : Int32) (x2 : Int32) (z : Nat → Int32) (f : Nat → FA) (F : Nat) : rnG call 264 (F + 10) 49 [some (vR 0), some (vI x1), some (vI x2)] [] (LR z f) = rnG call 264 F 59 [some (vR 0), some (vI x1), some (vI x2)] [vI (20 + x1), vR 20, vI (20 + x1), vR 20] (LR z f) := rfl
set_option maxRecDepth 100000 in
theorem b264_17 (call : QC FA) (x : Int32) (s0 : Int32) (ls : List (Option PV)) (z : Nat → Int32) (f : Nat → FA) (F : Nat) : rnG call 264 (F + 1) 59 ls [vI x, vR 20, vI s0, vR 20] (LR z f) = bif (Nat.beq 0 0 && pin x 40) then rnG call 264 F 60 ls [vI (f 20 (ix x)), vI s0, vR 20] (LR z f) else none := rfl
set_option maxRecDepth 100000 in
theorem b264_18 (call : QC FA) (x1 : Int32) (x2 : Int32) (s0 : Int32) (s1 : Int32) (L : QH FA) (F : Nat) : rnG call 264 (F + 4) 60 [some (vR 0), some (vI x1), some (vI x2)] [vI s0, vI s1, vR 20] L = rnG call 264 F 64 [some (vR 0), some (vI x1), some (vI x2)] [vI (s0 ||| (1 <<< (x2 &&& 31))), vI s1, vR 20] L := rfl
set_option maxRecDepth 100000 in
theorem b264_19 (call : QC FA) (x y : Int32) (ls : List (Option PV)) (z : Nat → Int32) (f : Nat → FA) (F : Nat) : rnG call 264 (F + 1) 64 ls [vI y, vI x, vR 20] (LR z f) = bif (Nat.beq 0 0 && pin x 40) then rnG call 264 F 65 ls [] (LR z (uA f 20 (upd (f 20) (ix x) y))) else none := rfl
set_option maxRecDepth 100000 in
theorem b264_20 (call : QC FA) (x1 : Int32) (x2 : Int32) (z : Nat → Int32) (f : Nat → FA) (F : Nat) : rnG call 264 (F + 10) 65 [some (vR 0), some (vI x1), some (vI x2)] [] (LR z f) = rnG call 264 F 75 [some (vR 0), some (vI x1), some (vI x2)] [vI (20 + x2), vR 20, vI (20 + x2), vR 20] (LR z f) := rfl
set_option maxRecDepth 100000 in
theorem b264_21 (call : QC FA) (x : Int32) (s0 : Int32) (ls : List (Option PV)) (z : Nat → Int32) (f : Nat → FA) (F : Nat) : rnG call 264 (F + 1) 75 ls [vI x, vR 20, vI s0, vR 20] (LR z f) = bif (Nat.beq 0 0 && pin x 40) then rnG call 264 F 76 ls [vI (f 20 (ix x)), vI s0, vR 20] (LR z f) else none := rfl
set_option maxRecDepth 100000 in
theorem b264_22 (call : QC FA) (x1 : Int32) (x2 : Int32) (s0 : Int32) (s1 : Int32) (L : QH FA) (F : Nat) : rnG call 264 (F + 4) 76 [some (vR 0), some (vI x1), some (vI x2)] [vI s0, vI s1, vR 20] L = rnG call 264 F 80 [some (vR 0), some (vI x1), some (vI x2)] [vI (s0 ||| (1 <<< (x1 &&& 31))), vI s1, vR 20] L := rfl
set_option maxRecDepth 100000 in
theorem b264_23 (call : QC FA) (x y : Int32) (ls : List (Option PV)) (z : Nat → Int32) (f : Nat → FA) (F : Nat) : rnG call 264 (F + 1) 80 ls [vI y, vI x, vR 20] (LR z f) = bif (Nat.beq 0 0 && pin x 40) then rnG call 264 F 81 ls [] (LR z (uA f 20 (upd (f 20) (ix x) y))) else none := rfl
set_option maxRecDepth 100000 in
theorem b264_24 (call : QC FA) (x1 : Int32) (x2 : Int32) (L : QH FA) (F : Nat) : rnG call 264 (F + 2) 81 [some (vR 0), some (vI x1), some (vI x2)] [] L = rnG call 264 F 83 [some (vR 0), some (vI x1), some (vI x2)] [vI 59, vR 0] L := rfl
set_option maxRecDepth 100000 in
theorem b264_25 (call : QC FA) (a0 : Int32) (ls : List (Option PV)) (z : Nat → Int32) (f : Nat → FA) (F : Nat) : rnG call 264 (F + 1) 83 ls [vI a0, vR 0] (LR z f) = cbd (call 256 [vR 0, vI a0] (LR z f)) (fun r L' => rnG call 264 F 84 ls (r.toList ++ []) L') := pcY (ih := rnG call 264 F) (call := call) (a := 256) (b := 1) (v := 12) (t := 84) (x := 0) (ls := ls) (As := [vI a0]) (st' := []) (L := LR z f) rfl rfl rfl
set_option maxRecDepth 100000 in
theorem b264_26 (call : QC FA) (x : Int32) (ls : List (Option PV)) (L : QH FA) (F : Nat) : rnG call 264 (F + 1) 84 ls [vI x] L = some (some (vI x), L) := rfl
set_option maxRecDepth 100000 in
theorem b264_27 (call : QC FA) (x1 : Int32) (x2 : Int32) (L : QH FA) (F : Nat) : rnG call 264 (F + 1) 47 [some (vR 0), some (vI x1), some (vI x2)] [] L = rnG call 264 F 48 [some (vR 0), some (vI x1), some (vI x2)] [vI ((-1))] L := rfl
set_option maxRecDepth 100000 in
theorem b264_28 (call : QC FA) (x : Int32) (ls : List (Option PV)) (L : QH FA) (F : Nat) : rnG call 264 (F + 1) 48 ls [vI x] L = some (some (vI x), L) := rfl
set_option maxRecDepth 100000 in
theorem b264_29 (call : QC FA) (x1 : Int32) (o2 : Option PV) (z : Nat → Int32) (f : Nat → FA) (F : Nat) : rnG call 264 (F + 3) 28 [some (vR 0), some (vI x1), o2] [] (LR z f) = rnG call 264 F 31 [some (vR 0), some (vI x1), o2] [vI x1, vI (z 16)] (LR z f) := rfl
set_option maxRecDepth 100000 in
theorem b264_30 (call : QC FA) (x y : Int32) (ls : List (Option PV)) (L : QH FA) (F : Nat) : rnG call 264 (F + 1) 31 ls [vI y, vI x] L = bif pcmp 1 x y then rnG call 264 F 36 ls [] L else rnG call 264 F 32 ls [] L := rfl
set_option maxRecDepth 100000 in
theorem b264_31 (call : QC FA) (x1 : Int32) (o2 : Option PV) (L : QH FA) (F : Nat) : rnG call 264 (F + 2) 32 [some (vR 0), some (vI x1), o2] [] L = rnG call 264 F 34 [some (vR 0), some (vI x1), o2] [vI 2, vR 0] L := rfl
set_option maxRecDepth 100000 in
theorem b264_32 (call : QC FA) (a0 : Int32) (ls : List (Option PV)) (z : Nat → Int32) (f : Nat → FA) (F : Nat) : rnG call 264 (F + 1) 34 ls [vI a0, vR 0] (LR z f) = cbd (call 208 [vR 0, vI a0] (LR z f)) (fun r L' => rnG call 264 F 35 ls (r.toList ++ []) L') := pcY (ih := rnG call 264 F) (call := call) (a := 208) (b := 1) (v := 12) (t := 35) (x := 0) (ls := ls) (As := [vI a0]) (st' := []) (L := LR z f) rfl rfl rfl
set_option maxRecDepth 100000 in
theorem b264_33 (call : QC FA) (x : Int32) (ls : List (Option PV)) (L : QH FA) (F : Nat) : rnG call 264 (F + 1) 35 ls [vI x] L = some (some (vI x), L) := rfl
set_option maxRecDepth 100000 in
theorem b264_34 (call : QC FA) (x1 : Int32) (o2 : Option PV) (L : QH FA) (F : Nat) : rnG call 264 (F + 2) 18 [some (vR 0), some (vI x1), o2] [] L = rnG call 264 F 20 [some (vR 0), some (vI x1), o2] [vI 1, vR 0] L := rfl
set_option maxRecDepth 100000 in
theorem b264_35 (call : QC FA) (a0 : Int32) (ls : List (Option PV)) (z : Nat → Int32) (f : Nat → FA) (F : Nat) : rnG call 264 (F + 1) 20 ls [vI a0, vR 0] (LR z f) = cbd (call 208 [vR 0, vI a0] (LR z f)) (fun r L' => rnG call 264 F 21 ls (r.toList ++ []) L') := pcY (ih := rnG call 264 F) (call := call) (a := 208) (b := 1) (v := 12) (t := 21) (x := 0) (ls := ls) (As := [vI a0]) (st' := []) (L := LR z f) rfl rfl rfl
set_option maxRecDepth 100000 in
theorem b264_36 (call : QC FA) (x : Int32) (ls : List (Option PV)) (L : QH FA) (F : Nat) : rnG call 264 (F + 1) 21 ls [vI x] L = some (some (vI x), L) := rfl
set_option maxRecDepth 100000 in
theorem b264_37 (call : QC FA) (x1 : Int32) (o2 : Option PV) (L : QH FA) (F : Nat) : rnG call 264 (F + 1) 12 [some (vR 0), some (vI x1), o2] [] L = rnG call 264 F 13 [some (vR 0), some (vI x1), o2] [vI ((-1))] L := rfl
set_option maxRecDepth 100000 in
theorem b264_38 (call : QC FA) (x : Int32) (ls : List (Option PV)) (L : QH FA) (F : Nat) : rnG call 264 (F + 1) 13 ls [vI x] L = some (some (vI x), L) := rfl
theorem vc264_0 (d : Nat) (o1 : Option PV) (o2 : Option PV) (z : Nat → Int32) (f : Nat → FA) (res : Option PV × QH FA) (H : (∃ (r1 : Int32) (z1 : Nat → Int32) (f1 : Nat → FA), (mcall (d + 5)) 263 [vR 0, vI 17, vI 0, vI ((z 6) - 1)] (LR z f) = some (some (vI r1), LR z1 f1) ∧ ((¬ r1 = (-1) → (((z1 15 = 2 ∧ z1 16 = 25) → (∃ (z2 : Nat → Int32) (f2 : Nat → FA), (mcall (d + 5)) 269 [vR 0] (LR z1 f1) = some (none, LR z2 f2) ∧ ((¬ z2 15 = 3 → (∃ (r3 : Int32) (z3 : Nat → Int32) (f3 : Nat → FA), (mcall (d + 5)) 258 [vR 0, vI 0, vI ((z2 6) - 1)] (LR z2 f2) = some (some (vI r3), LR z3 f3) ∧ ((¬ r3 = (-1) → (pin (20 + r1) 40 = true ∧ (pin (20 + r1) 40 = true ∧ (pin (20 + r3) 40 = true ∧ (pin (20 + r3) 40 = true ∧ (∃ (r4 : Int32) (z4 : Nat → Int32) (f4 : Nat → FA), (mcall (d + 5)) 256 [vR 0, vI 59] (LR z3 (uA (uA f3 20 (upd (f3 20) (ix (20 + r1)) ((f3 20 (ix (20 + r1))) ||| (1 <<< (r3 &&& 31))))) 20 (upd (upd (f3 20) (ix (20 + r1)) ((f3 20 (ix (20 + r1))) ||| (1 <<< (r3 &&& 31)))) (ix (20 + r3)) (((upd (f3 20) (ix (20 + r1)) ((f3 20 (ix (20 + r1))) ||| (1 <<< (r3 &&& 31)))) (ix (20 + r3))) ||| (1 <<< (r1 &&& 31)))))) = some (some (vI r4), LR z4 f4) ∧ res = (some (vI r4), LR z4 f4))))))) ∧ (r3 = (-1) → res = (some (vI ((-1))), LR z3 f3))))) ∧ (z2 15 = 3 → ((¬ z2 16 = r1 → (∃ (r5 : Int32) (z5 : Nat → Int32) (f5 : Nat → FA), (mcall (d + 5)) 258 [vR 0, vI 0, vI ((z2 6) - 1)] (LR z2 f2) = some (some (vI r5), LR z5 f5) ∧ ((¬ r5 = (-1) → (pin (20 + r1) 40 = true ∧ (pin (20 + r1) 40 = true ∧ (pin (20 + r5) 40 = true ∧ (pin (20 + r5) 40 = true ∧ (∃ (r6 : Int32) (z6 : Nat → Int32) (f6 : Nat → FA), (mcall (d + 5)) 256 [vR 0, vI 59] (LR z5 (uA (uA f5 20 (upd (f5 20) (ix (20 + r1)) ((f5 20 (ix (20 + r1))) ||| (1 <<< (r5 &&& 31))))) 20 (upd (upd (f5 20) (ix (20 + r1)) ((f5 20 (ix (20 + r1))) ||| (1 <<< (r5 &&& 31)))) (ix (20 + r5)) (((upd (f5 20) (ix (20 + r1)) ((f5 20 (ix (20 + r1))) ||| (1 <<< (r5 &&& 31)))) (ix (20 + r5))) ||| (1 <<< (r1 &&& 31)))))) = some (some (vI r6), LR z6 f6) ∧ res = (some (vI r6), LR z6 f6))))))) ∧ (r5 = (-1) → res = (some (vI ((-1))), LR z5 f5))))) ∧ (z2 16 = r1 → (∃ (r7 : Int32) (z7 : Nat → Int32) (f7 : Nat → FA), (mcall (d + 5)) 208 [vR 0, vI 2] (LR z2 f2) = some (some (vI r7), LR z7 f7) ∧ res = (some (vI r7), LR z7 f7)))))))) ∧ ((¬ (z1 15 = 2 ∧ z1 16 = 25)) → (∃ (r8 : Int32) (z8 : Nat → Int32) (f8 : Nat → FA), (mcall (d + 5)) 208 [vR 0, vI 1] (LR z1 f1) = some (some (vI r8), LR z8 f8) ∧ res = (some (vI r8), LR z8 f8))))) ∧ (r1 = (-1) → res = (some (vI ((-1))), LR z1 f1))))) : RC (mcall (d + 5)) (mP 264) 0 [some (vR 0), o1, o2] [] (LR z f) res := by
  refine rc_b (i' := 7) (ls' := [some (vR 0), o1, o2]) (st' := [vI ((z 6) - 1), vI 0, vI 17, vR 0]) (L' := LR z f) 7 (b264_1 (mcall (d + 5)) o1 o2 z f) ?_
  obtain ⟨r1, z1, f1, hc, H⟩ := H
  refine rc_call (t := 8) (ls' := [some (vR 0), o1, o2]) (st' := []) (b264_2 (mcall (d + 5)) 17 0 ((z 6) - 1) _ z f) hc ?_
  show RC (mcall (d + 5)) (mP 264) 8 [some (vR 0), o1, o2] [vI r1] (LR z1 f1) res
  refine rc_b (i' := 11) (ls' := [some (vR 0), some (vI r1), o2]) (st' := [vI ((-1)), vI r1]) (L' := LR z1 f1) 3 (b264_3 (mcall (d + 5)) o1 o2 r1 _) ?_
  refine rc_if (it := 14) (ie := 12) (ls' := [some (vR 0), some (vI r1), o2]) (st' := []) (b264_4 (mcall (d + 5)) r1 ((-1)) _ _) (fun q1 => ?_) (fun q1 => ?_)
  · have H := H.1 (cI1t q1)
    refine rc_b (i' := 16) (ls' := [some (vR 0), some (vI r1), o2]) (st' := [vI 25, vR 0]) (L' := LR z1 f1) 2 (b264_5 (mcall (d + 5)) r1 o2 _) ?_
    refine rc_call (t := 17) (ls' := [some (vR 0), some (vI r1), o2]) (st' := []) (b264_6 (mcall (d + 5)) 25 _ z1 f1) (isWord_r _ 25 z1 f1) ?_
    show RC (mcall (d + 5)) (mP 264) 17 [some (vR 0), some (vI r1), o2] [vI (bI (z1 15 = 2 ∧ z1 16 = 25))] (LR z1 f1) res
    refine rc_bn (it := 22) (ie := 18) (ls' := [some (vR 0), some (vI r1), o2]) (st' := []) (b264_7 (mcall (d + 5)) (bI (z1 15 = 2 ∧ z1 16 = 25)) _ _) (fun q2 => ?_) (fun q2 => ?_)
    · have H := H.1 q2
      refine rc_b (i' := 23) (ls' := [some (vR 0), some (vI r1), o2]) (st' := [vR 0]) (L' := LR z1 f1) 1 (b264_8 (mcall (d + 5)) r1 o2 _) ?_
      obtain ⟨z2, f2, hc, H⟩ := H
      refine rc_call (t := 24) (ls' := [some (vR 0), some (vI r1), o2]) (st' := []) (b264_9 (mcall (d + 5)) _ z1 f1) hc ?_
      show RC (mcall (d + 5)) (mP 264) 24 [some (vR 0), some (vI r1), o2] [] (LR z2 f2) res
      refine rc_b (i' := 27) (ls' := [some (vR 0), some (vI r1), o2]) (st' := [vI 3, vI (z2 15)]) (L' := LR z2 f2) 3 (b264_10 (mcall (d + 5)) r1 o2 z2 f2) ?_
      refine rc_if (it := 36) (ie := 28) (ls' := [some (vR 0), some (vI r1), o2]) (st' := []) (b264_11 (mcall (d + 5)) (z2 15) 3 _ _) (fun q3 => ?_) (fun q3 => ?_)
      · have H := H.1 (cI1t q3)
        refine rc_b (i' := 42) (ls' := [some (vR 0), some (vI r1), o2]) (st' := [vI ((z2 6) - 1), vI 0, vR 0]) (L' := LR z2 f2) 6 (b264_12 (mcall (d + 5)) r1 o2 z2 f2) ?_
        obtain ⟨r3, z3, f3, hc, H⟩ := H
        refine rc_call (t := 43) (ls' := [some (vR 0), some (vI r1), o2]) (st' := []) (b264_13 (mcall (d + 5)) 0 ((z2 6) - 1) _ z2 f2) hc ?_
        show RC (mcall (d + 5)) (mP 264) 43 [some (vR 0), some (vI r1), o2] [vI r3] (LR z3 f3) res
        refine rc_b (i' := 46) (ls' := [some (vR 0), some (vI r1), some (vI r3)]) (st' := [vI ((-1)), vI r3]) (L' := LR z3 f3) 3 (b264_14 (mcall (d + 5)) r1 o2 r3 _) ?_
        refine rc_if (it := 49) (ie := 47) (ls' := [some (vR 0), some (vI r1), some (vI r3)]) (st' := []) (b264_15 (mcall (d + 5)) r3 ((-1)) _ _) (fun q4 => ?_) (fun q4 => ?_)
        · have H := H.1 (cI1t q4)
          refine rc_b (i' := 59) (ls' := [some (vR 0), some (vI r1), some (vI r3)]) (st' := [vI (20 + r1), vR 20, vI (20 + r1), vR 20]) (L' := LR z3 f3) 10 (b264_16 (mcall (d + 5)) r1 r3 z3 f3) ?_
          obtain ⟨g1, H⟩ := H
          refine rc_g (i' := 60) (ls' := [some (vR 0), some (vI r1), some (vI r3)]) (st' := [vI (f3 20 (ix (20 + r1))), vI (20 + r1), vR 20]) (L' := LR z3 f3) (b264_17 (mcall (d + 5)) (20 + r1) (20 + r1) _ z3 f3) (pinG g1) ?_
          refine rc_b (i' := 64) (ls' := [some (vR 0), some (vI r1), some (vI r3)]) (st' := [vI ((f3 20 (ix (20 + r1))) ||| (1 <<< (r3 &&& 31))), vI (20 + r1), vR 20]) (L' := LR z3 f3) 4 (b264_18 (mcall (d + 5)) r1 r3 (f3 20 (ix (20 + r1))) (20 + r1) _) ?_
          obtain ⟨g1, H⟩ := H
          refine rc_g (i' := 65) (ls' := [some (vR 0), some (vI r1), some (vI r3)]) (st' := []) (L' := LR z3 (uA f3 20 (upd (f3 20) (ix (20 + r1)) ((f3 20 (ix (20 + r1))) ||| (1 <<< (r3 &&& 31)))))) (b264_19 (mcall (d + 5)) (20 + r1) ((f3 20 (ix (20 + r1))) ||| (1 <<< (r3 &&& 31))) _ z3 f3) (pinG g1) ?_
          refine rc_b (i' := 75) (ls' := [some (vR 0), some (vI r1), some (vI r3)]) (st' := [vI (20 + r3), vR 20, vI (20 + r3), vR 20]) (L' := LR z3 (uA f3 20 (upd (f3 20) (ix (20 + r1)) ((f3 20 (ix (20 + r1))) ||| (1 <<< (r3 &&& 31)))))) 10 (b264_20 (mcall (d + 5)) r1 r3 z3 (uA f3 20 (upd (f3 20) (ix (20 + r1)) ((f3 20 (ix (20 + r1))) ||| (1 <<< (r3 &&& 31)))))) ?_
          obtain ⟨g1, H⟩ := H
          refine rc_g (i' := 76) (ls' := [some (vR 0), some (vI r1), some (vI r3)]) (st' := [vI ((upd (f3 20) (ix (20 + r1)) ((f3 20 (ix (20 + r1))) ||| (1 <<< (r3 &&& 31)))) (ix (20 + r3))), vI (20 + r3), vR 20]) (L' := LR z3 (uA f3 20 (upd (f3 20) (ix (20 + r1)) ((f3 20 (ix (20 + r1))) ||| (1 <<< (r3 &&& 31)))))) (b264_21 (mcall (d + 5)) (20 + r3) (20 + r3) _ z3 (uA f3 20 (upd (f3 20) (ix (20 + r1)) ((f3 20 (ix (20 + r1))) ||| (1 <<< (r3 &&& 31)))))) (pinG g1) ?_
          refine rc_b (i' := 80) (ls' := [some (vR 0), some (vI r1), some (vI r3)]) (st' := [vI (((upd (f3 20) (ix (20 + r1)) ((f3 20 (ix (20 + r1))) ||| (1 <<< (r3 &&& 31)))) (ix (20 + r3))) ||| (1 <<< (r1 &&& 31))), vI (20 + r3), vR 20]) (L' := LR z3 (uA f3 20 (upd (f3 20) (ix (20 + r1)) ((f3 20 (ix (20 + r1))) ||| (1 <<< (r3 &&& 31)))))) 4 (b264_22 (mcall (d + 5)) r1 r3 ((upd (f3 20) (ix (20 + r1)) ((f3 20 (ix (20 + r1))) ||| (1 <<< (r3 &&& 31)))) (ix (20 + r3))) (20 + r3) _) ?_
          obtain ⟨g1, H⟩ := H
          refine rc_g (i' := 81) (ls' := [some (vR 0), some (vI r1), some (vI r3)]) (st' := []) (L' := LR z3 (uA (uA f3 20 (upd (f3 20) (ix (20 + r1)) ((f3 20 (ix (20 + r1))) ||| (1 <<< (r3 &&& 31))))) 20 (upd (upd (f3 20) (ix (20 + r1)) ((f3 20 (ix (20 + r1))) ||| (1 <<< (r3 &&& 31)))) (ix (20 + r3)) (((upd (f3 20) (ix (20 + r1)) ((f3 20 (ix (20 + r1))) ||| (1 <<< (r3 &&& 31)))) (ix (20 + r3))) ||| (1 <<< (r1 &&& 31)))))) (b264_23 (mcall (d + 5)) (20 + r3) (((upd (f3 20) (ix (20 + r1)) ((f3 20 (ix (20 + r1))) ||| (1 <<< (r3 &&& 31)))) (ix (20 + r3))) ||| (1 <<< (r1 &&& 31))) _ z3 (uA f3 20 (upd (f3 20) (ix (20 + r1)) ((f3 20 (ix (20 + r1))) ||| (1 <<< (r3 &&& 31)))))) (pinG g1) ?_
          refine rc_b (i' := 83) (ls' := [some (vR 0), some (vI r1), some (vI r3)]) (st' := [vI 59, vR 0]) (L' := LR z3 (uA (uA f3 20 (upd (f3 20) (ix (20 + r1)) ((f3 20 (ix (20 + r1))) ||| (1 <<< (r3 &&& 31))))) 20 (upd (upd (f3 20) (ix (20 + r1)) ((f3 20 (ix (20 + r1))) ||| (1 <<< (r3 &&& 31)))) (ix (20 + r3)) (((upd (f3 20) (ix (20 + r1)) ((f3 20 (ix (20 + r1))) ||| (1 <<< (r3 &&& 31)))) (ix (20 + r3))) ||| (1 <<< (r1 &&& 31)))))) 2 (b264_24 (mcall (d + 5)) r1 r3 _) ?_
          obtain ⟨r4, z4, f4, hc, H⟩ := H
          refine rc_call (t := 84) (ls' := [some (vR 0), some (vI r1), some (vI r3)]) (st' := []) (b264_25 (mcall (d + 5)) 59 _ z3 (uA (uA f3 20 (upd (f3 20) (ix (20 + r1)) ((f3 20 (ix (20 + r1))) ||| (1 <<< (r3 &&& 31))))) 20 (upd (upd (f3 20) (ix (20 + r1)) ((f3 20 (ix (20 + r1))) ||| (1 <<< (r3 &&& 31)))) (ix (20 + r3)) (((upd (f3 20) (ix (20 + r1)) ((f3 20 (ix (20 + r1))) ||| (1 <<< (r3 &&& 31)))) (ix (20 + r3))) ||| (1 <<< (r1 &&& 31)))))) hc ?_
          show RC (mcall (d + 5)) (mP 264) 84 [some (vR 0), some (vI r1), some (vI r3)] [vI r4] (LR z4 f4) res
          subst H
          exact rc_ret (b264_26 (mcall (d + 5)) _ _ _)
        · have H := H.2 (cI1f q4)
          refine rc_b (i' := 48) (ls' := [some (vR 0), some (vI r1), some (vI r3)]) (st' := [vI ((-1))]) (L' := LR z3 f3) 1 (b264_27 (mcall (d + 5)) r1 r3 _) ?_
          subst H
          exact rc_ret (b264_28 (mcall (d + 5)) _ _ _)
      · have H := H.2 (cI1f q3)
        refine rc_b (i' := 31) (ls' := [some (vR 0), some (vI r1), o2]) (st' := [vI r1, vI (z2 16)]) (L' := LR z2 f2) 3 (b264_29 (mcall (d + 5)) r1 o2 z2 f2) ?_
        refine rc_if (it := 36) (ie := 32) (ls' := [some (vR 0), some (vI r1), o2]) (st' := []) (b264_30 (mcall (d + 5)) (z2 16) r1 _ _) (fun q5 => ?_) (fun q5 => ?_)
        · have H := H.1 (cI1t q5)
          refine rc_b (i' := 42) (ls' := [some (vR 0), some (vI r1), o2]) (st' := [vI ((z2 6) - 1), vI 0, vR 0]) (L' := LR z2 f2) 6 (b264_12 (mcall (d + 5)) r1 o2 z2 f2) ?_
          obtain ⟨r5, z5, f5, hc, H⟩ := H
          refine rc_call (t := 43) (ls' := [some (vR 0), some (vI r1), o2]) (st' := []) (b264_13 (mcall (d + 5)) 0 ((z2 6) - 1) _ z2 f2) hc ?_
          show RC (mcall (d + 5)) (mP 264) 43 [some (vR 0), some (vI r1), o2] [vI r5] (LR z5 f5) res
          refine rc_b (i' := 46) (ls' := [some (vR 0), some (vI r1), some (vI r5)]) (st' := [vI ((-1)), vI r5]) (L' := LR z5 f5) 3 (b264_14 (mcall (d + 5)) r1 o2 r5 _) ?_
          refine rc_if (it := 49) (ie := 47) (ls' := [some (vR 0), some (vI r1), some (vI r5)]) (st' := []) (b264_15 (mcall (d + 5)) r5 ((-1)) _ _) (fun q6 => ?_) (fun q6 => ?_)
          · have H := H.1 (cI1t q6)
            refine rc_b (i' := 59) (ls' := [some (vR 0), some (vI r1), some (vI r5)]) (st' := [vI (20 + r1), vR 20, vI (20 + r1), vR 20]) (L' := LR z5 f5) 10 (b264_16 (mcall (d + 5)) r1 r5 z5 f5) ?_
            obtain ⟨g1, H⟩ := H
            refine rc_g (i' := 60) (ls' := [some (vR 0), some (vI r1), some (vI r5)]) (st' := [vI (f5 20 (ix (20 + r1))), vI (20 + r1), vR 20]) (L' := LR z5 f5) (b264_17 (mcall (d + 5)) (20 + r1) (20 + r1) _ z5 f5) (pinG g1) ?_
            refine rc_b (i' := 64) (ls' := [some (vR 0), some (vI r1), some (vI r5)]) (st' := [vI ((f5 20 (ix (20 + r1))) ||| (1 <<< (r5 &&& 31))), vI (20 + r1), vR 20]) (L' := LR z5 f5) 4 (b264_18 (mcall (d + 5)) r1 r5 (f5 20 (ix (20 + r1))) (20 + r1) _) ?_
            obtain ⟨g1, H⟩ := H
            refine rc_g (i' := 65) (ls' := [some (vR 0), some (vI r1), some (vI r5)]) (st' := []) (L' := LR z5 (uA f5 20 (upd (f5 20) (ix (20 + r1)) ((f5 20 (ix (20 + r1))) ||| (1 <<< (r5 &&& 31)))))) (b264_19 (mcall (d + 5)) (20 + r1) ((f5 20 (ix (20 + r1))) ||| (1 <<< (r5 &&& 31))) _ z5 f5) (pinG g1) ?_
            refine rc_b (i' := 75) (ls' := [some (vR 0), some (vI r1), some (vI r5)]) (st' := [vI (20 + r5), vR 20, vI (20 + r5), vR 20]) (L' := LR z5 (uA f5 20 (upd (f5 20) (ix (20 + r1)) ((f5 20 (ix (20 + r1))) ||| (1 <<< (r5 &&& 31)))))) 10 (b264_20 (mcall (d + 5)) r1 r5 z5 (uA f5 20 (upd (f5 20) (ix (20 + r1)) ((f5 20 (ix (20 + r1))) ||| (1 <<< (r5 &&& 31)))))) ?_
            obtain ⟨g1, H⟩ := H
            refine rc_g (i' := 76) (ls' := [some (vR 0), some (vI r1), some (vI r5)]) (st' := [vI ((upd (f5 20) (ix (20 + r1)) ((f5 20 (ix (20 + r1))) ||| (1 <<< (r5 &&& 31)))) (ix (20 + r5))), vI (20 + r5), vR 20]) (L' := LR z5 (uA f5 20 (upd (f5 20) (ix (20 + r1)) ((f5 20 (ix (20 + r1))) ||| (1 <<< (r5 &&& 31)))))) (b264_21 (mcall (d + 5)) (20 + r5) (20 + r5) _ z5 (uA f5 20 (upd (f5 20) (ix (20 + r1)) ((f5 20 (ix (20 + r1))) ||| (1 <<< (r5 &&& 31)))))) (pinG g1) ?_
            refine rc_b (i' := 80) (ls' := [some (vR 0), some (vI r1), some (vI r5)]) (st' := [vI (((upd (f5 20) (ix (20 + r1)) ((f5 20 (ix (20 + r1))) ||| (1 <<< (r5 &&& 31)))) (ix (20 + r5))) ||| (1 <<< (r1 &&& 31))), vI (20 + r5), vR 20]) (L' := LR z5 (uA f5 20 (upd (f5 20) (ix (20 + r1)) ((f5 20 (ix (20 + r1))) ||| (1 <<< (r5 &&& 31)))))) 4 (b264_22 (mcall (d + 5)) r1 r5 ((upd (f5 20) (ix (20 + r1)) ((f5 20 (ix (20 + r1))) ||| (1 <<< (r5 &&& 31)))) (ix (20 + r5))) (20 + r5) _) ?_
            obtain ⟨g1, H⟩ := H
            refine rc_g (i' := 81) (ls' := [some (vR 0), some (vI r1), some (vI r5)]) (st' := []) (L' := LR z5 (uA (uA f5 20 (upd (f5 20) (ix (20 + r1)) ((f5 20 (ix (20 + r1))) ||| (1 <<< (r5 &&& 31))))) 20 (upd (upd (f5 20) (ix (20 + r1)) ((f5 20 (ix (20 + r1))) ||| (1 <<< (r5 &&& 31)))) (ix (20 + r5)) (((upd (f5 20) (ix (20 + r1)) ((f5 20 (ix (20 + r1))) ||| (1 <<< (r5 &&& 31)))) (ix (20 + r5))) ||| (1 <<< (r1 &&& 31)))))) (b264_23 (mcall (d + 5)) (20 + r5) (((upd (f5 20) (ix (20 + r1)) ((f5 20 (ix (20 + r1))) ||| (1 <<< (r5 &&& 31)))) (ix (20 + r5))) ||| (1 <<< (r1 &&& 31))) _ z5 (uA f5 20 (upd (f5 20) (ix (20 + r1)) ((f5 20 (ix (20 + r1))) ||| (1 <<< (r5 &&& 31)))))) (pinG g1) ?_
            refine rc_b (i' := 83) (ls' := [some (vR 0), some (vI r1), some (vI r5)]) (st' := [vI 59, vR 0]) (L' := LR z5 (uA (uA f5 20 (upd (f5 20) (ix (20 + r1)) ((f5 20 (ix (20 + r1))) ||| (1 <<< (r5 &&& 31))))) 20 (upd (upd (f5 20) (ix (20 + r1)) ((f5 20 (ix (20 + r1))) ||| (1 <<< (r5 &&& 31)))) (ix (20 + r5)) (((upd (f5 20) (ix (20 + r1)) ((f5 20 (ix (20 + r1))) ||| (1 <<< (r5 &&& 31)))) (ix (20 + r5))) ||| (1 <<< (r1 &&& 31)))))) 2 (b264_24 (mcall (d + 5)) r1 r5 _) ?_
            obtain ⟨r6, z6, f6, hc, H⟩ := H
            refine rc_call (t := 84) (ls' := [some (vR 0), some (vI r1), some (vI r5)]) (st' := []) (b264_25 (mcall (d + 5)) 59 _ z5 (uA (uA f5 20 (upd (f5 20) (ix (20 + r1)) ((f5 20 (ix (20 + r1))) ||| (1 <<< (r5 &&& 31))))) 20 (upd (upd (f5 20) (ix (20 + r1)) ((f5 20 (ix (20 + r1))) ||| (1 <<< (r5 &&& 31)))) (ix (20 + r5)) (((upd (f5 20) (ix (20 + r1)) ((f5 20 (ix (20 + r1))) ||| (1 <<< (r5 &&& 31)))) (ix (20 + r5))) ||| (1 <<< (r1 &&& 31)))))) hc ?_
            show RC (mcall (d + 5)) (mP 264) 84 [some (vR 0), some (vI r1), some (vI r5)] [vI r6] (LR z6 f6) res
            subst H
            exact rc_ret (b264_26 (mcall (d + 5)) _ _ _)
          · have H := H.2 (cI1f q6)
            refine rc_b (i' := 48) (ls' := [some (vR 0), some (vI r1), some (vI r5)]) (st' := [vI ((-1))]) (L' := LR z5 f5) 1 (b264_27 (mcall (d + 5)) r1 r5 _) ?_
            subst H
            exact rc_ret (b264_28 (mcall (d + 5)) _ _ _)
        · have H := H.2 (cI1f q5)
          refine rc_b (i' := 34) (ls' := [some (vR 0), some (vI r1), o2]) (st' := [vI 2, vR 0]) (L' := LR z2 f2) 2 (b264_31 (mcall (d + 5)) r1 o2 _) ?_
          obtain ⟨r7, z7, f7, hc, H⟩ := H
          refine rc_call (t := 35) (ls' := [some (vR 0), some (vI r1), o2]) (st' := []) (b264_32 (mcall (d + 5)) 2 _ z2 f2) hc ?_
          show RC (mcall (d + 5)) (mP 264) 35 [some (vR 0), some (vI r1), o2] [vI r7] (LR z7 f7) res
          subst H
          exact rc_ret (b264_33 (mcall (d + 5)) _ _ _)
    · have H := H.2 q2
      refine rc_b (i' := 20) (ls' := [some (vR 0), some (vI r1), o2]) (st' := [vI 1, vR 0]) (L' := LR z1 f1) 2 (b264_34 (mcall (d + 5)) r1 o2 _) ?_
      obtain ⟨r8, z8, f8, hc, H⟩ := H
      refine rc_call (t := 21) (ls' := [some (vR 0), some (vI r1), o2]) (st' := []) (b264_35 (mcall (d + 5)) 1 _ z1 f1) hc ?_
      show RC (mcall (d + 5)) (mP 264) 21 [some (vR 0), some (vI r1), o2] [vI r8] (LR z8 f8) res
      subst H
      exact rc_ret (b264_36 (mcall (d + 5)) _ _ _)
  · have H := H.2 (cI1f q1)
    refine rc_b (i' := 13) (ls' := [some (vR 0), some (vI r1), o2]) (st' := [vI ((-1))]) (L' := LR z1 f1) 1 (b264_37 (mcall (d + 5)) r1 o2 _) ?_
    subst H
    exact rc_ret (b264_38 (mcall (d + 5)) _ _ _)
theorem BNDf_20 {f : Nat → FA} {k : Nat} {x : Int32} (h : BNDf f) : BNDf (uA f 20 (upd (f 20) k x)) := by
  intro j h1 h2
  by_cases e : j = 20
  · subst e
    rw [uA_self]
    exact ⟨⟨fun j _ => inb_top _, trivial⟩, PRD_0⟩
  · rw [uA_ne e]
    exact h j h1 h2
theorem DFb.w {r b i : Nat} {z : Nat → Int32} {f : Nat → FA} {x : Int32} (h1 : b ≤ i) : DFb r b z f z (uA f r (upd (f r) i x)) := ⟨RNz.refl z, fun k hk => uA_ne hk, fun j hj => by rw [uA_self, pk_un (by omega)]⟩
theorem p20 {r : Int32} (h1 : 0 ≤ I r) (h2 : I r ≤ 19) : pin (20 + r) 40 = true ∧ 20 ≤ ix (20 + r) := by
  obtain ⟨m, m1, m2, m3⟩ := nI_ofI h1
  rw [m1, show (20 : Int32) + nI m = nI (20 + m) from nI_add 20 m, ix_nI (by omega)]
  exact ⟨pin_nI (by omega) (by omega), by omega⟩
theorem readTwin_r (d0 : Nat) {t a : Nat} {z : Nat → Int32} {f : Nat → FA} (hz : BNDz z) (h : TS t a z f) (hB : BNDf f) : ∃ r z' f' a', mcall (d0 + 6) 264 [vR 0] (LR z f) = some (some (vI r), LR z' f') ∧ DFb 20 20 z f z' f' ∧ TS t a' z' f' ∧ a ≤ a' ∧ BNDf f' ∧ (r = -1 ∨ a < a') := by
  have go : ∀ res, _ → mcall (d0 + 6) 264 [vR 0] (LR z f) = some res := fun res H => mcall_i (mq264 (cu := [])).2.2 rfl (vc264_0 d0 none none z f res H)
  have hv := vot_I hz
  obtain ⟨r1, z1, a1, u1, u2, u3, u4, u5⟩ := readTold_r d0 17 0 (z 6 - 1) h
  obtain ⟨b1, b2, b3⟩ := res_I u5 (by decide)
  by_cases c1 : r1 = -1
  · exact ⟨-1, z1, f, a1, go _ ⟨r1, z1, f, u1, fun q => absurd c1 q, fun _ => rfl⟩, DFb.z u2, u3, u4, hB, Or.inl rfl⟩
  · have hr1 : 0 ≤ I r1 := b2.resolve_left c1
    by_cases c2 : z1 15 = 2 ∧ z1 16 = 25
    · obtain ⟨z2, a2, g1, g2, g3, g4⟩ := rd_c (d0 + 2) u3 (by rw [c2.1]; decide)
      have g2 := g2.weak (Nat.zero_le (0 + 1))
      have hz2 := (hz.rn u2 u3).rn g4.n g2
      have hv2 := vot_I hz2
      obtain ⟨r3, z3, a3, v1, v2, v3, v4, v5⟩ := readNumber_r (d0 + 1) 0 (z2 6 - 1) g2
      obtain ⟨d1, d2, d3⟩ := res_I v5 (by decide)
      obtain ⟨p1, p2⟩ := p20 hr1 (by omega)
      by_cases c4 : z2 15 = 3 ∧ z2 16 = r1
      · exact ⟨-1, _, f, a2, go _ ⟨r1, z1, f, u1, fun _ => ⟨fun _ => ⟨z2, f, g1, fun q => absurd c4.1 q, fun _ => ⟨fun q => absurd c4.2 q, fun _ => ⟨-1, _, f, errs_r (d0 + 4) 2 z2 f, rfl⟩⟩⟩, fun q => absurd c2 q⟩, fun q => absurd q c1⟩, DFb.z ((u2.trans g4.n).trans RNz.er), g2.er, by omega, hB, Or.inl rfl⟩
      · by_cases c3 : r3 = -1
        · refine ⟨-1, z3, f, a3, go _ ⟨r1, z1, f, u1, fun _ => ⟨fun _ => ⟨z2, f, g1, fun _ => ⟨r3, z3, f, v1, fun q => absurd c3 q, fun _ => rfl⟩, fun q5 => ⟨fun _ => ⟨r3, z3, f, v1, fun q => absurd c3 q, fun _ => rfl⟩, fun q => absurd ⟨q5, q⟩ c4⟩⟩, fun q => absurd c2 q⟩, fun q => absurd q c1⟩, DFb.z ((u2.trans g4.n).trans v2), v3, by omega, hB, Or.inl rfl⟩
        · have hr3 : 0 ≤ I r3 := d2.resolve_left c3
          obtain ⟨p3, p4⟩ := p20 hr3 (by omega)
          have B1 := BNDf_20 (k := ix (20 + r1)) (x := f 20 (ix (20 + r1)) ||| 1 <<< (r3 &&& 31)) hB
          have B2 := BNDf_20 (k := ix (20 + r3)) (x := (upd (f 20) (ix (20 + r1)) (f 20 (ix (20 + r1)) ||| 1 <<< (r3 &&& 31))) (ix (20 + r3)) ||| 1 <<< (r1 &&& 31)) B1
          have D1 : DFb 20 20 z f z3 _ := ((DFb.z ((u2.trans g4.n).trans v2)).trans (DFb.w (x := f 20 (ix (20 + r1)) ||| 1 <<< (r3 &&& 31)) p2)).trans (DFb.w (x := (upd (f 20) (ix (20 + r1)) (f 20 (ix (20 + r1)) ||| 1 <<< (r3 &&& 31))) (ix (20 + r3)) ||| 1 <<< (r1 &&& 31)) p4)
          obtain ⟨r4, z4, a4, y1, y2, y3, y4, y5⟩ := readMark_r (d0 + 1) 59 ((v3.fk (k := 20) (g := upd (f 20) (ix (20 + r1)) (f 20 (ix (20 + r1)) ||| 1 <<< (r3 &&& 31))) (by decide)).fk (k := 20) (g := upd (upd (f 20) (ix (20 + r1)) (f 20 (ix (20 + r1)) ||| 1 <<< (r3 &&& 31))) (ix (20 + r3)) ((upd (f 20) (ix (20 + r1)) (f 20 (ix (20 + r1)) ||| 1 <<< (r3 &&& 31))) (ix (20 + r3)) ||| 1 <<< (r1 &&& 31))) (by decide))
          refine ⟨r4, z4, _, a4, go _ ⟨r1, z1, f, u1, fun _ => ⟨fun _ => ⟨z2, f, g1, fun _ => ⟨r3, z3, f, v1, fun _ => ⟨p1, p1, p3, p3, r4, z4, _, y1, rfl⟩, fun q => absurd q c3⟩, fun q5 => ⟨fun _ => ⟨r3, z3, f, v1, fun _ => ⟨p1, p1, p3, p3, r4, z4, _, y1, rfl⟩, fun q => absurd q c3⟩, fun q => absurd ⟨q5, q⟩ c4⟩⟩, fun q => absurd c2 q⟩, fun q => absurd q c1⟩, D1.trans (DFb.z y2), y3, by omega, B2, Or.inr (by omega)⟩
    · exact ⟨-1, _, f, a1, go _ ⟨r1, z1, f, u1, fun _ => ⟨fun q => absurd q c2, fun _ => ⟨-1, _, f, errs_r (d0 + 4) 1 z1 f, rfl⟩⟩, fun q => absurd q c1⟩, DFb.z (u2.trans RNz.er), u3.er, u4, hB, Or.inl rfl⟩
set_option maxRecDepth 100000 in
theorem b265_1 (call : QC FA) (o1 : Option PV) (L : QH FA) (F : Nat) : rnG call 265 (F + 2) 0 [some (vR 0), o1] [] L = rnG call 265 F 2 [some (vR 0), some (vI 0)] [] L := rfl
theorem vc265_0 (d : Nat) (o1 : Option PV) (z : Nat → Int32) (f : Nat → FA) (res : Option PV × QH FA) (H : RC (mcall (d + 6)) (mP 265) 2 [some (vR 0), some (vI 0)] [] (LR z f) res) : RC (mcall (d + 6)) (mP 265) 0 [some (vR 0), o1] [] (LR z f) res := by
  refine rc_b (i' := 2) (ls' := [some (vR 0), some (vI 0)]) (st' := []) (L' := LR z f) 2 (b265_1 (mcall (d + 6)) o1 _) ?_
  exact H
set_option maxRecDepth 100000 in
theorem bc2_265_1 (call : QC FA) (x1 : Int32) (L : QH FA) (F : Nat) : rnG call 265 (F + 2) 2 [some (vR 0), some (vI x1)] [] L = rnG call 265 F 4 [some (vR 0), some (vI x1)] [vI 20, vI x1] L := rfl
set_option maxRecDepth 100000 in
theorem bc2_265_2 (call : QC FA) (x y : Int32) (ls : List (Option PV)) (L : QH FA) (F : Nat) : rnG call 265 (F + 1) 4 ls [vI y, vI x] L = bif pcmp 3 x y then rnG call 265 F 14 ls [] L else rnG call 265 F 5 ls [] L := rfl
set_option maxRecDepth 100000 in
theorem bc2_265_3 (call : QC FA) (x1 : Int32) (L : QH FA) (F : Nat) : rnG call 265 (F + 2) 14 [some (vR 0), some (vI x1)] [] L = rnG call 265 F 16 [some (vR 0), some (vI 0)] [] L := rfl
set_option maxRecDepth 100000 in
theorem bc2_265_4 (call : QC FA) (x1 : Int32) (z : Nat → Int32) (f : Nat → FA) (F : Nat) : rnG call 265 (F + 6) 5 [some (vR 0), some (vI x1)] [] (LR z f) = rnG call 265 F 11 [some (vR 0), some (vI x1)] [vI 0, vI (20 + x1), vR 20] (LR z f) := rfl
set_option maxRecDepth 100000 in
theorem bc2_265_5 (call : QC FA) (x y : Int32) (ls : List (Option PV)) (z : Nat → Int32) (f : Nat → FA) (F : Nat) : rnG call 265 (F + 1) 11 ls [vI y, vI x, vR 20] (LR z f) = bif (Nat.beq 0 0 && pin x 40) then rnG call 265 F 12 ls [] (LR z (uA f 20 (upd (f 20) (ix x) y))) else none := rfl
set_option maxRecDepth 100000 in
theorem bc2_265_6 (call : QC FA) (x1 : Int32) (L : QH FA) (F : Nat) : rnG call 265 (F + 1) 12 [some (vR 0), some (vI x1)] [] L = rnG call 265 F 13 [some (vR 0), some (vI (x1 + 1))] [] L := rfl
set_option maxRecDepth 100000 in
theorem bc2_265_7 (call : QC FA) (x1 : Int32) (L : QH FA) (F : Nat) : rnG call 265 (F + 1) 13 [some (vR 0), some (vI x1)] [] L = rnG call 265 F 2 [some (vR 0), some (vI x1)] [] L := rfl
theorem vcc2_265_2 (d : Nat) (x1 : Int32) (z : Nat → Int32) (f : Nat → FA) (res : Option PV × QH FA) (H : ((20 ≤ I x1 → RC (mcall (d + 6)) (mP 265) 16 [some (vR 0), some (vI 0)] [] (LR z f) res) ∧ (I x1 < 20 → (pin (20 + x1) 40 = true ∧ RC (mcall (d + 6)) (mP 265) 2 [some (vR 0), some (vI (x1 + 1))] [] (LR z (uA f 20 (upd (f 20) (ix (20 + x1)) 0))) res)))) : RC (mcall (d + 6)) (mP 265) 2 [some (vR 0), some (vI x1)] [] (LR z f) res := by
  refine rc_b (i' := 4) (ls' := [some (vR 0), some (vI x1)]) (st' := [vI 20, vI x1]) (L' := LR z f) 2 (bc2_265_1 (mcall (d + 6)) x1 _) ?_
  refine rc_if (it := 14) (ie := 5) (ls' := [some (vR 0), some (vI x1)]) (st' := []) (bc2_265_2 (mcall (d + 6)) x1 20 _ _) (fun q1 => ?_) (fun q1 => ?_)
  · have H := H.1 (cI3t q1 rfl rfl)
    refine rc_b (i' := 16) (ls' := [some (vR 0), some (vI 0)]) (st' := []) (L' := LR z f) 2 (bc2_265_3 (mcall (d + 6)) x1 _) ?_
    exact H
  · have H := H.2 (cI3f q1 rfl rfl)
    refine rc_b (i' := 11) (ls' := [some (vR 0), some (vI x1)]) (st' := [vI 0, vI (20 + x1), vR 20]) (L' := LR z f) 6 (bc2_265_4 (mcall (d + 6)) x1 z f) ?_
    obtain ⟨g1, H⟩ := H
    refine rc_g (i' := 12) (ls' := [some (vR 0), some (vI x1)]) (st' := []) (L' := LR z (uA f 20 (upd (f 20) (ix (20 + x1)) 0))) (bc2_265_5 (mcall (d + 6)) (20 + x1) 0 _ z f) (pinG g1) ?_
    refine rc_b (i' := 13) (ls' := [some (vR 0), some (vI (x1 + 1))]) (st' := []) (L' := LR z (uA f 20 (upd (f 20) (ix (20 + x1)) 0))) 1 (bc2_265_6 (mcall (d + 6)) x1 _) ?_
    refine rc_b (i' := 2) (ls' := [some (vR 0), some (vI (x1 + 1))]) (st' := []) (L' := LR z (uA f 20 (upd (f 20) (ix (20 + x1)) 0))) 1 (bc2_265_7 (mcall (d + 6)) (x1 + 1) _) ?_
    exact H
set_option maxRecDepth 100000 in
theorem bc16_265_1 (call : QC FA) (x1 : Int32) (L : QH FA) (F : Nat) : rnG call 265 (F + 2) 16 [some (vR 0), some (vI x1)] [] L = rnG call 265 F 18 [some (vR 0), some (vI x1)] [vI 17, vR 0] L := rfl
set_option maxRecDepth 100000 in
theorem bc16_265_2 (call : QC FA) (a0 : Int32) (ls : List (Option PV)) (z : Nat → Int32) (f : Nat → FA) (F : Nat) : rnG call 265 (F + 1) 18 ls [vI a0, vR 0] (LR z f) = cbd (call 228 [vR 0, vI a0] (LR z f)) (fun r L' => rnG call 265 F 19 ls (r.toList ++ []) L') := pcY (ih := rnG call 265 F) (call := call) (a := 228) (b := 1) (v := 12) (t := 19) (x := 0) (ls := ls) (As := [vI a0]) (st' := []) (L := LR z f) rfl rfl rfl
set_option maxRecDepth 100000 in
theorem bc16_265_3 (call : QC FA) (x : Int32) (ls : List (Option PV)) (L : QH FA) (F : Nat) : rnG call 265 (F + 1) 19 ls [vI x] L = bif pcmp 0 x 0 then rnG call 265 F 38 ls [] L else rnG call 265 F 20 ls [] L := rfl
set_option maxRecDepth 100000 in
theorem bc16_265_4 (call : QC FA) (x1 : Int32) (z : Nat → Int32) (f : Nat → FA) (F : Nat) : rnG call 265 (F + 2) 38 [some (vR 0), some (vI x1)] [] (LR z f) = rnG call 265 F 40 [some (vR 0), some (vI x1)] [vI (z 15)] (LR z f) := rfl
set_option maxRecDepth 100000 in
theorem bc16_265_5 (call : QC FA) (x : Int32) (ls : List (Option PV)) (L : QH FA) (F : Nat) : rnG call 265 (F + 1) 40 ls [vI x] L = bif pcmp 1 x 0 then rnG call 265 F 43 ls [] L else rnG call 265 F 41 ls [] L := rfl
set_option maxRecDepth 100000 in
theorem bc16_265_6 (call : QC FA) (x1 : Int32) (L : QH FA) (F : Nat) : rnG call 265 (F + 2) 43 [some (vR 0), some (vI x1)] [] L = rnG call 265 F 45 [some (vR 0), some (vI x1)] [vI 1, vR 0] L := rfl
set_option maxRecDepth 100000 in
theorem bc16_265_7 (call : QC FA) (a0 : Int32) (ls : List (Option PV)) (z : Nat → Int32) (f : Nat → FA) (F : Nat) : rnG call 265 (F + 1) 45 ls [vI a0, vR 0] (LR z f) = cbd (call 208 [vR 0, vI a0] (LR z f)) (fun r L' => rnG call 265 F 46 ls (r.toList ++ []) L') := pcY (ih := rnG call 265 F) (call := call) (a := 208) (b := 1) (v := 12) (t := 46) (x := 0) (ls := ls) (As := [vI a0]) (st' := []) (L := LR z f) rfl rfl rfl
set_option maxRecDepth 100000 in
theorem bc16_265_8 (call : QC FA) (x : Int32) (ls : List (Option PV)) (L : QH FA) (F : Nat) : rnG call 265 (F + 1) 46 ls [vI x] L = some (some (vI x), L) := rfl
set_option maxRecDepth 100000 in
theorem bc16_265_9 (call : QC FA) (x1 : Int32) (L : QH FA) (F : Nat) : rnG call 265 (F + 2) 41 [some (vR 0), some (vI x1)] [] L = rnG call 265 F 46 [some (vR 0), some (vI x1)] [vI x1] L := rfl
set_option maxRecDepth 100000 in
theorem bc16_265_10 (call : QC FA) (x1 : Int32) (L : QH FA) (F : Nat) : rnG call 265 (F + 2) 20 [some (vR 0), some (vI x1)] [] L = rnG call 265 F 22 [some (vR 0), some (vI x1)] [vI 16, vI x1] L := rfl
set_option maxRecDepth 100000 in
theorem bc16_265_11 (call : QC FA) (x y : Int32) (ls : List (Option PV)) (L : QH FA) (F : Nat) : rnG call 265 (F + 1) 22 ls [vI y, vI x] L = bif pcmp 1 x y then rnG call 265 F 27 ls [] L else rnG call 265 F 23 ls [] L := rfl
set_option maxRecDepth 100000 in
theorem bc16_265_12 (call : QC FA) (x1 : Int32) (L : QH FA) (F : Nat) : rnG call 265 (F + 1) 27 [some (vR 0), some (vI x1)] [] L = rnG call 265 F 28 [some (vR 0), some (vI x1)] [vR 0] L := rfl
set_option maxRecDepth 100000 in
theorem bc16_265_13 (call : QC FA) (ls : List (Option PV)) (z : Nat → Int32) (f : Nat → FA) (F : Nat) : rnG call 265 (F + 1) 28 ls [vR 0] (LR z f) = cbd (call 264 [vR 0] (LR z f)) (fun r L' => rnG call 265 F 29 ls (r.toList ++ []) L') := pcY (ih := rnG call 265 F) (call := call) (a := 264) (b := 0) (v := 12) (t := 29) (x := 0) (ls := ls) (As := []) (st' := []) (L := LR z f) rfl rfl rfl
set_option maxRecDepth 100000 in
theorem bc16_265_14 (call : QC FA) (x1 : Int32) (s0 : Int32) (L : QH FA) (F : Nat) : rnG call 265 (F + 1) 29 [some (vR 0), some (vI x1)] [vI s0] L = rnG call 265 F 30 [some (vR 0), some (vI x1)] [vI ((-1)), vI s0] L := rfl
set_option maxRecDepth 100000 in
theorem bc16_265_15 (call : QC FA) (x y : Int32) (ls : List (Option PV)) (L : QH FA) (F : Nat) : rnG call 265 (F + 1) 30 ls [vI y, vI x] L = bif pcmp 1 x y then rnG call 265 F 33 ls [] L else rnG call 265 F 31 ls [] L := rfl
set_option maxRecDepth 100000 in
theorem bc16_265_16 (call : QC FA) (x1 : Int32) (L : QH FA) (F : Nat) : rnG call 265 (F + 5) 33 [some (vR 0), some (vI x1)] [] L = rnG call 265 F 16 [some (vR 0), some (vI (x1 + 1))] [] L := rfl
set_option maxRecDepth 100000 in
theorem bc16_265_17 (call : QC FA) (x1 : Int32) (L : QH FA) (F : Nat) : rnG call 265 (F + 1) 31 [some (vR 0), some (vI x1)] [] L = rnG call 265 F 32 [some (vR 0), some (vI x1)] [vI ((-1))] L := rfl
set_option maxRecDepth 100000 in
theorem bc16_265_18 (call : QC FA) (x : Int32) (ls : List (Option PV)) (L : QH FA) (F : Nat) : rnG call 265 (F + 1) 32 ls [vI x] L = some (some (vI x), L) := rfl
set_option maxRecDepth 100000 in
theorem bc16_265_19 (call : QC FA) (x1 : Int32) (L : QH FA) (F : Nat) : rnG call 265 (F + 2) 23 [some (vR 0), some (vI x1)] [] L = rnG call 265 F 25 [some (vR 0), some (vI x1)] [vI 3, vR 0] L := rfl
set_option maxRecDepth 100000 in
theorem bc16_265_20 (call : QC FA) (a0 : Int32) (ls : List (Option PV)) (z : Nat → Int32) (f : Nat → FA) (F : Nat) : rnG call 265 (F + 1) 25 ls [vI a0, vR 0] (LR z f) = cbd (call 208 [vR 0, vI a0] (LR z f)) (fun r L' => rnG call 265 F 26 ls (r.toList ++ []) L') := pcY (ih := rnG call 265 F) (call := call) (a := 208) (b := 1) (v := 12) (t := 26) (x := 0) (ls := ls) (As := [vI a0]) (st' := []) (L := LR z f) rfl rfl rfl
set_option maxRecDepth 100000 in
theorem bc16_265_21 (call : QC FA) (x : Int32) (ls : List (Option PV)) (L : QH FA) (F : Nat) : rnG call 265 (F + 1) 26 ls [vI x] L = some (some (vI x), L) := rfl
theorem vcc16_265_16 (d : Nat) (x1 : Int32) (z : Nat → Int32) (f : Nat → FA) (res : Option PV × QH FA) (H : (((z 15 = 2 ∧ z 16 = 17) → ((¬ x1 = 16 → (∃ (r2 : Int32) (z2 : Nat → Int32) (f2 : Nat → FA), (mcall (d + 6)) 264 [vR 0] (LR z f) = some (some (vI r2), LR z2 f2) ∧ ((¬ r2 = (-1) → RC (mcall (d + 6)) (mP 265) 16 [some (vR 0), some (vI (x1 + 1))] [] (LR z2 f2) res) ∧ (r2 = (-1) → res = (some (vI ((-1))), LR z2 f2))))) ∧ (x1 = 16 → (∃ (r3 : Int32) (z3 : Nat → Int32) (f3 : Nat → FA), (mcall (d + 6)) 208 [vR 0, vI 3] (LR z f) = some (some (vI r3), LR z3 f3) ∧ res = (some (vI r3), LR z3 f3))))) ∧ ((¬ (z 15 = 2 ∧ z 16 = 17)) → ((¬ z 15 = 0 → (∃ (r1 : Int32) (z1 : Nat → Int32) (f1 : Nat → FA), (mcall (d + 6)) 208 [vR 0, vI 1] (LR z f) = some (some (vI r1), LR z1 f1) ∧ res = (some (vI r1), LR z1 f1))) ∧ (z 15 = 0 → res = (some (vI x1), LR z f)))))) : RC (mcall (d + 6)) (mP 265) 16 [some (vR 0), some (vI x1)] [] (LR z f) res := by
  refine rc_b (i' := 18) (ls' := [some (vR 0), some (vI x1)]) (st' := [vI 17, vR 0]) (L' := LR z f) 2 (bc16_265_1 (mcall (d + 6)) x1 _) ?_
  refine rc_call (t := 19) (ls' := [some (vR 0), some (vI x1)]) (st' := []) (bc16_265_2 (mcall (d + 6)) 17 _ z f) (isWord_r _ 17 z f) ?_
  show RC (mcall (d + 6)) (mP 265) 19 [some (vR 0), some (vI x1)] [vI (bI (z 15 = 2 ∧ z 16 = 17))] (LR z f) res
  refine rc_bz (it := 38) (ie := 20) (ls' := [some (vR 0), some (vI x1)]) (st' := []) (bc16_265_3 (mcall (d + 6)) (bI (z 15 = 2 ∧ z 16 = 17)) _ _) (fun q1 => ?_) (fun q1 => ?_)
  · have H := H.2 q1
    refine rc_b (i' := 40) (ls' := [some (vR 0), some (vI x1)]) (st' := [vI (z 15)]) (L' := LR z f) 2 (bc16_265_4 (mcall (d + 6)) x1 z f) ?_
    refine rc_if (it := 43) (ie := 41) (ls' := [some (vR 0), some (vI x1)]) (st' := []) (bc16_265_5 (mcall (d + 6)) (z 15) _ _) (fun q2 => ?_) (fun q2 => ?_)
    · have H := H.1 (cI1t q2)
      refine rc_b (i' := 45) (ls' := [some (vR 0), some (vI x1)]) (st' := [vI 1, vR 0]) (L' := LR z f) 2 (bc16_265_6 (mcall (d + 6)) x1 _) ?_
      obtain ⟨r1, z1, f1, hc, H⟩ := H
      refine rc_call (t := 46) (ls' := [some (vR 0), some (vI x1)]) (st' := []) (bc16_265_7 (mcall (d + 6)) 1 _ z f) hc ?_
      show RC (mcall (d + 6)) (mP 265) 46 [some (vR 0), some (vI x1)] [vI r1] (LR z1 f1) res
      subst H
      exact rc_ret (bc16_265_8 (mcall (d + 6)) _ _ _)
    · have H := H.2 (cI1f q2)
      refine rc_b (i' := 46) (ls' := [some (vR 0), some (vI x1)]) (st' := [vI x1]) (L' := LR z f) 2 (bc16_265_9 (mcall (d + 6)) x1 _) ?_
      subst H
      exact rc_ret (bc16_265_8 (mcall (d + 6)) _ _ _)
  · have H := H.1 q1
    refine rc_b (i' := 22) (ls' := [some (vR 0), some (vI x1)]) (st' := [vI 16, vI x1]) (L' := LR z f) 2 (bc16_265_10 (mcall (d + 6)) x1 _) ?_
    refine rc_if (it := 27) (ie := 23) (ls' := [some (vR 0), some (vI x1)]) (st' := []) (bc16_265_11 (mcall (d + 6)) x1 16 _ _) (fun q3 => ?_) (fun q3 => ?_)
    · have H := H.1 (cI1t q3)
      refine rc_b (i' := 28) (ls' := [some (vR 0), some (vI x1)]) (st' := [vR 0]) (L' := LR z f) 1 (bc16_265_12 (mcall (d + 6)) x1 _) ?_
      obtain ⟨r2, z2, f2, hc, H⟩ := H
      refine rc_call (t := 29) (ls' := [some (vR 0), some (vI x1)]) (st' := []) (bc16_265_13 (mcall (d + 6)) _ z f) hc ?_
      show RC (mcall (d + 6)) (mP 265) 29 [some (vR 0), some (vI x1)] [vI r2] (LR z2 f2) res
      refine rc_b (i' := 30) (ls' := [some (vR 0), some (vI x1)]) (st' := [vI ((-1)), vI r2]) (L' := LR z2 f2) 1 (bc16_265_14 (mcall (d + 6)) x1 r2 _) ?_
      refine rc_if (it := 33) (ie := 31) (ls' := [some (vR 0), some (vI x1)]) (st' := []) (bc16_265_15 (mcall (d + 6)) r2 ((-1)) _ _) (fun q4 => ?_) (fun q4 => ?_)
      · have H := H.1 (cI1t q4)
        refine rc_b (i' := 16) (ls' := [some (vR 0), some (vI (x1 + 1))]) (st' := []) (L' := LR z2 f2) 5 (bc16_265_16 (mcall (d + 6)) x1 _) ?_
        exact H
      · have H := H.2 (cI1f q4)
        refine rc_b (i' := 32) (ls' := [some (vR 0), some (vI x1)]) (st' := [vI ((-1))]) (L' := LR z2 f2) 1 (bc16_265_17 (mcall (d + 6)) x1 _) ?_
        subst H
        exact rc_ret (bc16_265_18 (mcall (d + 6)) _ _ _)
    · have H := H.2 (cI1f q3)
      refine rc_b (i' := 25) (ls' := [some (vR 0), some (vI x1)]) (st' := [vI 3, vR 0]) (L' := LR z f) 2 (bc16_265_19 (mcall (d + 6)) x1 _) ?_
      obtain ⟨r3, z3, f3, hc, H⟩ := H
      refine rc_call (t := 26) (ls' := [some (vR 0), some (vI x1)]) (st' := []) (bc16_265_20 (mcall (d + 6)) 3 _ z f) hc ?_
      show RC (mcall (d + 6)) (mP 265) 26 [some (vR 0), some (vI x1)] [vI r3] (LR z3 f3) res
      subst H
      exact rc_ret (bc16_265_21 (mcall (d + 6)) _ _ _)
theorem tw16 (d0 t : Nat) : ∀ m n a z f, t - a < m → n ≤ 16 → BNDz z → TS t a z f → BNDf f → ∃ r z' f' a', RC (mcall (d0 + 6)) (mP 265) 16 [some (vR 0), some (vI (nI n))] [] (LR z f) (some (vI r), LR z' f') ∧ DFb 20 20 z f z' f' ∧ TS t a' z' f' ∧ BNDf f' ∧ (r = -1 ∨ ∃ n', r = nI n' ∧ n' ≤ 16) := by
  intro m
  induction m with
  | zero => intro n a z f hm; omega
  | succ m ih =>
    intro n a z f hm hn hz h hB
    have hal := h.a_le
    by_cases c1 : z 15 = 2 ∧ z 16 = 17
    · by_cases c2 : n = 16
      · subst c2
        exact ⟨-1, _, f, a, vcc16_265_16 _ _ _ _ _ ⟨fun _ => ⟨fun q => absurd rfl q, fun _ => ⟨-1, _, f, errs_r (d0 + 5) 3 z f, rfl⟩⟩, fun q => absurd c1 q⟩, DFb.z RNz.er, h.er, hB, Or.inl rfl⟩
      · have n16 : ¬ nI n = 16 := fun q => c2 (nI_inj (b := 16) (by omega) (by omega) q)
        obtain ⟨r, z1, f1, a1, u1, u2, u3, u4, u5, u6⟩ := readTwin_r d0 hz h hB
        have hal1 := u3.a_le
        by_cases c3 : r = -1
        · refine ⟨-1, z1, f1, a1, vcc16_265_16 _ _ _ _ _ ⟨fun _ => ⟨fun _ => ⟨r, z1, f1, u1, fun q => absurd c3 q, fun _ => rfl⟩, fun q => absurd q n16⟩, fun q => absurd c1 q⟩, u2, u3, u5, Or.inl rfl⟩
        · have u7 := u6.resolve_left c3
          obtain ⟨r', z', f', a', v1, v2, v3⟩ := ih (n + 1) a1 z1 f1 (by omega) (by omega) (hz.rn u2.1 u3) u3 u5
          refine ⟨r', z', f', a', vcc16_265_16 _ _ _ _ _ ⟨fun _ => ⟨fun _ => ⟨r, z1, f1, u1, fun _ => ?_, fun q => absurd q c3⟩, fun q => absurd q n16⟩, fun q => absurd c1 q⟩, u2.trans v2, v3⟩
          rw [show nI n + 1 = nI (n + 1) from nI_add n 1]
          exact v1
    · by_cases c2 : z 15 = 0
      · exact ⟨nI n, z, f, a, vcc16_265_16 _ _ _ _ _ ⟨fun q => absurd q c1, fun _ => ⟨fun q => absurd c2 q, fun _ => rfl⟩⟩, DFb.refl, h, hB, Or.inr ⟨n, rfl, hn⟩⟩
      · exact ⟨-1, _, f, a, vcc16_265_16 _ _ _ _ _ ⟨fun q => absurd q c1, fun _ => ⟨fun _ => ⟨-1, _, f, errs_r (d0 + 5) 1 z f, rfl⟩, fun q => absurd q c2⟩⟩, DFb.z RNz.er, h.er, hB, Or.inl rfl⟩
theorem tw2 (d0 t : Nat) : ∀ m x, x + m = 20 → ∀ a z f, BNDz z → TS t a z f → BNDf f → ∃ r z' f' a', RC (mcall (d0 + 6)) (mP 265) 2 [some (vR 0), some (vI (nI x))] [] (LR z f) (some (vI r), LR z' f') ∧ DFb 20 20 z f z' f' ∧ TS t a' z' f' ∧ BNDf f' ∧ (r = -1 ∨ ∃ n', r = nI n' ∧ n' ≤ 16) := by
  intro m
  induction m with
  | zero =>
    intro x hx a z f hz h hB
    obtain rfl : x = 20 := by omega
    obtain ⟨r, z', f', a', v1, v2⟩ := tw16 d0 t _ 0 a z f (Nat.lt_succ_self _) (by omega) hz h hB
    refine ⟨r, z', f', a', vcc2_265_2 _ _ _ _ _ ?_, v2⟩
    rw [I_nI (by omega)]
    exact ⟨fun _ => v1, fun q => by omega⟩
  | succ m ih =>
    intro x hx a z f hz h hB
    have e1 : (20 : Int32) + nI x = nI (20 + x) := nI_add 20 x
    obtain ⟨r, z', f', a', v1, v2, v3⟩ := ih (x + 1) (by omega) a z (uA f 20 (upd (f 20) (20 + x) 0)) hz (h.fk (by decide)) (BNDf_20 hB)
    refine ⟨r, z', f', a', vcc2_265_2 _ _ _ _ _ ?_, (DFb.w (by omega)).trans v2, v3⟩
    rw [I_nI (by omega), e1, ix_nI (by omega), show nI x + 1 = nI (x + 1) from nI_add x 1]
    exact ⟨fun q => by omega, fun _ => ⟨pin_nI (by omega) (by omega), v1⟩⟩
theorem readTwins_r (d0 : Nat) {t a : Nat} {z : Nat → Int32} {f : Nat → FA} (hz : BNDz z) (h : TS t a z f) (hB : BNDf f) : ∃ r z' f' a', mcall (d0 + 7) 265 [vR 0] (LR z f) = some (some (vI r), LR z' f') ∧ DFb 20 20 z f z' f' ∧ TS t a' z' f' ∧ BNDf f' ∧ (r = -1 ∨ ∃ n', r = nI n' ∧ n' ≤ 16) := by
  obtain ⟨r, z', f', a', v1, v2⟩ := tw2 d0 t 20 0 (by omega) a z f hz h hB
  exact ⟨r, z', f', a', mcall_i (mq265 (cu := [])).2.2 rfl (vc265_0 _ _ _ _ _ v1), v2⟩
