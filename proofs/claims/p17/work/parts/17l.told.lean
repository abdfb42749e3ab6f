/-! ways, a sky, twins: numbers and words told one behind the other -/
def RNz (z z' : Nat → Int32) : Prop := ∀ j, j ≠ 13 → j ≠ 14 → j ≠ 15 → j ≠ 16 → j ≠ 30 → j ≠ 31 → z' j = z j
theorem RNz.refl (z : Nat → Int32) : RNz z z := fun _ _ _ _ _ _ _ => rfl
theorem RNz.trans {z1 z2 z3 : Nat → Int32} (h1 : RNz z1 z2) (h2 : RNz z2 z3) : RNz z1 z3 := fun j a b c d e f => (h2 j a b c d e f).trans (h1 j a b c d e f)
theorem RDZ.n {z z' : Nat → Int32} (h : RDZ z z') : RNz z z' := fun j a b c d _ _ => h j a b c d
theorem RNz.er {z : Nat → Int32} {x y : Int32} : RNz z (uZ (uZ z 30 x) 31 y) := fun j _ _ _ _ e f => by rw [uZ_n f, uZ_n e]
theorem CS.er {t p i n d a : Nat} {z : Nat → Int32} {f : Nat → FA} {x y : Int32} (h : CS t p i n d a z f) : CS t p i n d a (uZ (uZ z 30 x) 31 y) f := by
  obtain ⟨h0, h1, h2, h3, h4, h5, ⟨s, s1, s2, s3⟩, h7⟩ := h
  refine ⟨h0, h1, ?_, ?_, ?_, h5, ⟨s, ?_, s2, ?_⟩, h7⟩
  · rw [uZ_n (by decide), uZ_n (by decide)]; exact h2
  · rw [uZ_n (by decide), uZ_n (by decide)]; exact h3
  · rw [uZ_n (by decide), uZ_n (by decide)]; exact h4
  · rw [uZ_n (by decide), uZ_n (by decide)]; exact s1
  · rw [uZ_n (by decide), uZ_n (by decide)]; exact s3
theorem CS.fk {t p i n d a k : Nat} {z : Nat → Int32} {f : Nat → FA} {g : FA} (h : CS t p i n d a z f) (hk : k ≠ 9 ∧ k ≠ 15 ∧ k ≠ 16) : CS t p i n d a z (uA f k g) := by
  obtain ⟨h0, h1, h2, h3, h4, h5, h6, h7⟩ := h
  refine ⟨?_, h1, h2, h3, h4, h5, h6, ?_⟩
  · rw [uA_ne (fun q => hk.1 q.symm)]; exact h0
  · rw [uA_ne (fun q => hk.2.1 q.symm), uA_ne (fun q => hk.2.2 q.symm)]; exact h7
abbrev TS (t a : Nat) (z : Nat → Int32) (f : Nat → FA) : Prop := CS t 0 0 0 0 a z f
set_option maxRecDepth 100000 in
theorem b258_1 (call : QC FA) (x1 : Int32) (x2 : Int32) (o3 : Option PV) (z : Nat → Int32) (f : Nat → FA) (F : Nat) : rnG call 258 (F + 3) 0 [some (vR 0), some (vI x1), some (vI x2), o3] [] (LR z f) = rnG call 258 F 3 [some (vR 0), some (vI x1), some (vI x2), o3] [vI 3, vI (z 15)] (LR z f) := rfl
set_option maxRecDepth 100000 in
theorem b258_2 (call : QC FA) (x y : Int32) (ls : List (Option PV)) (L : QH FA) (F : Nat) : rnG call 258 (F + 1) 3 ls [vI y, vI x] L = bif pcmp 0 x y then rnG call 258 F 8 ls [] L else rnG call 258 F 4 ls [] L := rfl
set_option maxRecDepth 100000 in
theorem b258_3 (call : QC FA) (x1 : Int32) (x2 : Int32) (o3 : Option PV) (z : Nat → Int32) (f : Nat → FA) (F : Nat) : rnG call 258 (F + 5) 8 [some (vR 0), some (vI x1), some (vI x2), o3] [] (LR z f) = rnG call 258 F 13 [some (vR 0), some (vI x1), some (vI x2), o3] [vI x2, vI x1, vI (z 16), vR 0] (LR z f) := rfl
set_option maxRecDepth 100000 in
theorem b258_4 (call : QC FA) (a0 : Int32) (a1 : Int32) (a2 : Int32) (ls : List (Option PV)) (z : Nat → Int32) (f : Nat → FA) (F : Nat) : rnG call 258 (F + 1) 13 ls [vI a2, vI a1, vI a0, vR 0] (LR z f) = cbd (call 47 [vR 0, vI a0, vI a1, vI a2] (LR z f)) (fun r L' => rnG call 258 F 14 ls (r.toList ++ []) L') := pcY (ih := rnG call 258 F) (call := call) (a := 47) (b := 3) (v := 12) (t := 14) (x := 0) (ls := ls) (As := [vI a0, vI a1, vI a2]) (st' := []) (L := LR z f) rfl rfl rfl
set_option maxRecDepth 100000 in
theorem b258_5 (call : QC FA) (x : Int32) (ls : List (Option PV)) (L : QH FA) (F : Nat) : rnG call 258 (F + 1) 14 ls [vI x] L = bif pcmp 1 x 0 then rnG call 258 F 19 ls [] L else rnG call 258 F 15 ls [] L := rfl
set_option maxRecDepth 100000 in
theorem b258_6 (call : QC FA) (x1 : Int32) (x2 : Int32) (o3 : Option PV) (z : Nat → Int32) (f : Nat → FA) (F : Nat) : rnG call 258 (F + 4) 19 [some (vR 0), some (vI x1), some (vI x2), o3] [] (LR z f) = rnG call 258 F 23 [some (vR 0), some (vI x1), some (vI x2), some (vI (z 16))] [vR 0] (LR z f) := rfl
set_option maxRecDepth 100000 in
theorem b258_7 (call : QC FA) (ls : List (Option PV)) (z : Nat → Int32) (f : Nat → FA) (F : Nat) : rnG call 258 (F + 1) 23 ls [vR 0] (LR z f) = cbd (call 269 [vR 0] (LR z f)) (fun r L' => rnG call 258 F 24 ls (r.toList ++ []) L') := pcY (ih := rnG call 258 F) (call := call) (a := 269) (b := 0) (v := 12) (t := 24) (x := 0) (ls := ls) (As := []) (st' := []) (L := LR z f) rfl rfl rfl
set_option maxRecDepth 100000 in
theorem b258_8 (call : QC FA) (x1 : Int32) (x2 : Int32) (x3 : Int32) (L : QH FA) (F : Nat) : rnG call 258 (F + 1) 24 [some (vR 0), some (vI x1), some (vI x2), some (vI x3)] [] L = rnG call 258 F 25 [some (vR 0), some (vI x1), some (vI x2), some (vI x3)] [vI x3] L := rfl
set_option maxRecDepth 100000 in
theorem b258_9 (call : QC FA) (x : Int32) (ls : List (Option PV)) (L : QH FA) (F : Nat) : rnG call 258 (F + 1) 25 ls [vI x] L = some (some (vI x), L) := rfl
set_option maxRecDepth 100000 in
theorem b258_10 (call : QC FA) (x1 : Int32) (x2 : Int32) (o3 : Option PV) (L : QH FA) (F : Nat) : rnG call 258 (F + 2) 15 [some (vR 0), some (vI x1), some (vI x2), o3] [] L = rnG call 258 F 17 [some (vR 0), some (vI x1), some (vI x2), o3] [vI 2, vR 0] L := rfl
set_option maxRecDepth 100000 in
theorem b258_11 (call : QC FA) (a0 : Int32) (ls : List (Option PV)) (z : Nat → Int32) (f : Nat → FA) (F : Nat) : rnG call 258 (F + 1) 17 ls [vI a0, vR 0] (LR z f) = cbd (call 208 [vR 0, vI a0] (LR z f)) (fun r L' => rnG call 258 F 18 ls (r.toList ++ []) L') := pcY (ih := rnG call 258 F) (call := call) (a := 208) (b := 1) (v := 12) (t := 18) (x := 0) (ls := ls) (As := [vI a0]) (st' := []) (L := LR z f) rfl rfl rfl
set_option maxRecDepth 100000 in
theorem b258_12 (call : QC FA) (x : Int32) (ls : List (Option PV)) (L : QH FA) (F : Nat) : rnG call 258 (F + 1) 18 ls [vI x] L = some (some (vI x), L) := rfl
set_option maxRecDepth 100000 in
theorem b258_13 (call : QC FA) (x1 : Int32) (x2 : Int32) (o3 : Option PV) (L : QH FA) (F : Nat) : rnG call 258 (F + 2) 4 [some (vR 0), some (vI x1), some (vI x2), o3] [] L = rnG call 258 F 6 [some (vR 0), some (vI x1), some (vI x2), o3] [vI 1, vR 0] L := rfl
set_option maxRecDepth 100000 in
theorem b258_14 (call : QC FA) (a0 : Int32) (ls : List (Option PV)) (z : Nat → Int32) (f : Nat → FA) (F : Nat) : rnG call 258 (F + 1) 6 ls [vI a0, vR 0] (LR z f) = cbd (call 208 [vR 0, vI a0] (LR z f)) (fun r L' => rnG call 258 F 7 ls (r.toList ++ []) L') := pcY (ih := rnG call 258 F) (call := call) (a := 208) (b := 1) (v := 12) (t := 7) (x := 0) (ls := ls) (As := [vI a0]) (st' := []) (L := LR z f) rfl rfl rfl
set_option maxRecDepth 100000 in
theorem b258_15 (call : QC FA) (x : Int32) (ls : List (Option PV)) (L : QH FA) (F : Nat) : rnG call 258 (F + 1) 7 ls [vI x] L = some (some (vI x), L) := rfl
theorem vc258_0 (d : Nat) (x1 : Int32) (x2 : Int32) (o3 : Option PV) (z : Nat → Int32) (f : Nat → FA) (res : Option PV × QH FA) (H : ((z 15 = 3 → (((I x1 ≤ I (z 16) ∧ I (z 16) ≤ I x2) → (∃ (z1 : Nat → Int32) (f1 : Nat → FA), (mcall (d + 3)) 269 [vR 0] (LR z f) = some (none, LR z1 f1) ∧ res = (some (vI (z 16)), LR z1 f1))) ∧ ((¬ (I x1 ≤ I (z 16) ∧ I (z 16) ≤ I x2)) → (∃ (r2 : Int32) (z2 : Nat → Int32) (f2 : Nat → FA), (mcall (d + 3)) 208 [vR 0, vI 2] (LR z f) = some (some (vI r2), LR z2 f2) ∧ res = (some (vI r2), LR z2 f2))))) ∧ (¬ z 15 = 3 → (∃ (r3 : Int32) (z3 : Nat → Int32) (f3 : Nat → FA), (mcall (d + 3)) 208 [vR 0, vI 1] (LR z f) = some (some (vI r3), LR z3 f3) ∧ res = (some (vI r3), LR z3 f3))))) : RC (mcall (d + 3)) (mP 258) 0 [some (vR 0), some (vI x1), some (vI x2), o3] [] (LR z f) res := by
  refine rc_b (i' := 3) (ls' := [some (vR 0), some (vI x1), some (vI x2), o3]) (st' := [vI 3, vI (z 15)]) (L' := LR z f) 3 (b258_1 (mcall (d + 3)) x1 x2 o3 z f) ?_
  refine rc_if (it := 8) (ie := 4) (ls' := [some (vR 0), some (vI x1), some (vI x2), o3]) (st' := []) (b258_2 (mcall (d + 3)) (z 15) 3 _ _) (fun q1 => ?_) (fun q1 => ?_)
  · have H := H.1 (cI0t q1)
    refine rc_b (i' := 13) (ls' := [some (vR 0), some (vI x1), some (vI x2), o3]) (st' := [vI x2, vI x1, vI (z 16), vR 0]) (L' := LR z f) 5 (b258_3 (mcall (d + 3)) x1 x2 o3 z f) ?_
    refine rc_call (t := 14) (ls' := [some (vR 0), some (vI x1), some (vI x2), o3]) (st' := []) (b258_4 (mcall (d + 3)) (z 16) x1 x2 _ z f) (isIn_r _ (z 16) x1 x2 z f) ?_
    show RC (mcall (d + 3)) (mP 258) 14 [some (vR 0), some (vI x1), some (vI x2), o3] [vI (bI (I x1 ≤ I (z 16) ∧ I (z 16) ≤ I x2))] (LR z f) res
    refine rc_bn (it := 19) (ie := 15) (ls' := [some (vR 0), some (vI x1), some (vI x2), o3]) (st' := []) (b258_5 (mcall (d + 3)) (bI (I x1 ≤ I (z 16) ∧ I (z 16) ≤ I x2)) _ _) (fun q2 => ?_) (fun q2 => ?_)
    · have H := H.1 q2
      refine rc_b (i' := 23) (ls' := [some (vR 0), some (vI x1), some (vI x2), some (vI (z 16))]) (st' := [vR 0]) (L' := LR z f) 4 (b258_6 (mcall (d + 3)) x1 x2 o3 z f) ?_
      obtain ⟨z1, f1, hc, H⟩ := H
      refine rc_call (t := 24) (ls' := [some (vR 0), some (vI x1), some (vI x2), some (vI (z 16))]) (st' := []) (b258_7 (mcall (d + 3)) _ z f) hc ?_
      show RC (mcall (d + 3)) (mP 258) 24 [some (vR 0), some (vI x1), some (vI x2), some (vI (z 16))] [] (LR z1 f1) res
      refine rc_b (i' := 25) (ls' := [some (vR 0), some (vI x1), some (vI x2), some (vI (z 16))]) (st' := [vI (z 16)]) (L' := LR z1 f1) 1 (b258_8 (mcall (d + 3)) x1 x2 (z 16) _) ?_
      subst H
      exact rc_ret (b258_9 (mcall (d + 3)) _ _ _)
    · have H := H.2 q2
      refine rc_b (i' := 17) (ls' := [some (vR 0), some (vI x1), some (vI x2), o3]) (st' := [vI 2, vR 0]) (L' := LR z f) 2 (b258_10 (mcall (d + 3)) x1 x2 o3 _) ?_
      obtain ⟨r2, z2, f2, hc, H⟩ := H
      refine rc_call (t := 18) (ls' := [some (vR 0), some (vI x1), some (vI x2), o3]) (st' := []) (b258_11 (mcall (d + 3)) 2 _ z f) hc ?_
      show RC (mcall (d + 3)) (mP 258) 18 [some (vR 0), some (vI x1), some (vI x2), o3] [vI r2] (LR z2 f2) res
      subst H
      exact rc_ret (b258_12 (mcall (d + 3)) _ _ _)
  · have H := H.2 (cI0f q1)
    refine rc_b (i' := 6) (ls' := [some (vR 0), some (vI x1), some (vI x2), o3]) (st' := [vI 1, vR 0]) (L' := LR z f) 2 (b258_13 (mcall (d + 3)) x1 x2 o3 _) ?_
    obtain ⟨r3, z3, f3, hc, H⟩ := H
    refine rc_call (t := 7) (ls' := [some (vR 0), some (vI x1), some (vI x2), o3]) (st' := []) (b258_14 (mcall (d + 3)) 1 _ z f) hc ?_
    show RC (mcall (d + 3)) (mP 258) 7 [some (vR 0), some (vI x1), some (vI x2), o3] [vI r3] (LR z3 f3) res
    subst H
    exact rc_ret (b258_15 (mcall (d + 3)) _ _ _)
theorem readNumber_r (d0 : Nat) {t a : Nat} {z : Nat → Int32} {f : Nat → FA} (lo hi : Int32) (h : TS t a z f) : ∃ r z' a', mcall (d0 + 4) 258 [vR 0, vI lo, vI hi] (LR z f) = some (some (vI r), LR z' f) ∧ RNz z z' ∧ TS t a' z' f ∧ a ≤ a' ∧ (r = -1 ∨ (I lo ≤ I r ∧ I r ≤ I hi ∧ a < a')) := by
  have go : ∀ res, _ → mcall (d0 + 4) 258 [vR 0, vI lo, vI hi] (LR z f) = some res := fun res H => mcall_i (mq258 (cu := [])).2.2 rfl (vc258_0 d0 lo hi none z f res H)
  by_cases c1 : z 15 = 3
  · by_cases c2 : I lo ≤ I (z 16) ∧ I (z 16) ≤ I hi
    · obtain ⟨z1, a1, g1, g2, g3, g4⟩ := rd_c d0 h (by rw [c1]; decide)
      exact ⟨z 16, z1, a1, go _ ⟨fun _ => ⟨fun _ => ⟨z1, f, g1, rfl⟩, fun q => absurd c2 q⟩, fun q => absurd c1 q⟩, g4.n, g2.weak (by omega), by omega, Or.inr ⟨c2.1, c2.2, g3⟩⟩
    · exact ⟨-1, _, a, go _ ⟨fun _ => ⟨fun q => absurd q c2, fun _ => ⟨-1, _, f, errs_r (d0 + 2) 2 z f, rfl⟩⟩, fun q => absurd c1 q⟩, RNz.er, h.er, Nat.le_refl _, Or.inl rfl⟩
  · exact ⟨-1, _, a, go _ ⟨fun q => absurd q c1, fun _ => ⟨-1, _, f, errs_r (d0 + 2) 1 z f, rfl⟩⟩, RNz.er, h.er, Nat.le_refl _, Or.inl rfl⟩
set_option maxRecDepth 100000 in
theorem b256_1 (call : QC FA) (x1 : Int32) (L : QH FA) (F : Nat) : rnG call 256 (F + 2) 0 [some (vR 0), some (vI x1)] [] L = rnG call 256 F 2 [some (vR 0), some (vI x1)] [vI x1, vR 0] L := rfl
set_option maxRecDepth 100000 in
theorem b256_2 (call : QC FA) (a0 : Int32) (ls : List (Option PV)) (z : Nat → Int32) (f : Nat → FA) (F : Nat) : rnG call 256 (F + 1) 2 ls [vI a0, vR 0] (LR z f) = cbd (call 226 [vR 0, vI a0] (LR z f)) (fun r L' => rnG call 256 F 3 ls (r.toList ++ []) L') := pcY (ih := rnG call 256 F) (call := call) (a := 226) (b := 1) (v := 12) (t := 3) (x := 0) (ls := ls) (As := [vI a0]) (st' := []) (L := LR z f) rfl rfl rfl
set_option maxRecDepth 100000 in
theorem b256_3 (call : QC FA) (x : Int32) (ls : List (Option PV)) (L : QH FA) (F : Nat) : rnG call 256 (F + 1) 3 ls [vI x] L = bif pcmp 1 x 0 then rnG call 256 F 8 ls [] L else rnG call 256 F 4 ls [] L := rfl
set_option maxRecDepth 100000 in
theorem b256_4 (call : QC FA) (x1 : Int32) (L : QH FA) (F : Nat) : rnG call 256 (F + 1) 8 [some (vR 0), some (vI x1)] [] L = rnG call 256 F 9 [some (vR 0), some (vI x1)] [vR 0] L := rfl
set_option maxRecDepth 100000 in
theorem b256_5 (call : QC FA) (ls : List (Option PV)) (z : Nat → Int32) (f : Nat → FA) (F : Nat) : rnG call 256 (F + 1) 9 ls [vR 0] (LR z f) = cbd (call 269 [vR 0] (LR z f)) (fun r L' => rnG call 256 F 10 ls (r.toList ++ []) L') := pcY (ih := rnG call 256 F) (call := call) (a := 269) (b := 0) (v := 12) (t := 10) (x := 0) (ls := ls) (As := []) (st' := []) (L := LR z f) rfl rfl rfl
set_option maxRecDepth 100000 in
theorem b256_6 (call : QC FA) (x1 : Int32) (L : QH FA) (F : Nat) : rnG call 256 (F + 1) 10 [some (vR 0), some (vI x1)] [] L = rnG call 256 F 11 [some (vR 0), some (vI x1)] [vI 0] L := rfl
set_option maxRecDepth 100000 in
theorem b256_7 (call : QC FA) (x : Int32) (ls : List (Option PV)) (L : QH FA) (F : Nat) : rnG call 256 (F + 1) 11 ls [vI x] L = some (some (vI x), L) := rfl
set_option maxRecDepth 100000 in
theorem b256_8 (call : QC FA) (x1 : Int32) (L : QH FA) (F : Nat) : rnG call 256 (F + 2) 4 [some (vR 0), some (vI x1)] [] L = rnG call 256 F 6 [some (vR 0), some (vI x1)] [vI 1, vR 0] L := rfl
set_option maxRecDepth 100000 in
theorem b256_9 (call : QC FA) (a0 : Int32) (ls : List (Option PV)) (z : Nat → Int32) (f : Nat → FA) (F : Nat) : rnG call 256 (F + 1) 6 ls [vI a0, vR 0] (LR z f) = cbd (call 208 [vR 0, vI a0] (LR z f)) (fun r L' => rnG call 256 F 7 ls (r.toList ++ []) L') := pcY (ih := rnG call 256 F) (call := call) (a := 208) (b := 1) (v := 12) (t := 7) (x := 0) (ls := ls) (As := [vI a0]) (st' := []) (L := LR z f) rfl rfl rfl
set_option maxRecDepth 100000 in
theorem b256_10 (call : QC FA) (x : Int32) (ls : List (Option PV)) (L : QH FA) (F : Nat) : rnG call 256 (F + 1) 7 ls [vI x] L = some (some (vI x), L) := rfl
theorem vc256_0 (d : Nat) (x1 : Int32) (z : Nat → Int32) (f : Nat → FA) (res : Option PV × QH FA) (H : (((z 15 = 4 ∧ z 16 = x1) → (∃ (z1 : Nat → Int32) (f1 : Nat → FA), (mcall (d + 3)) 269 [vR 0] (LR z f) = some (none, LR z1 f1) ∧ res = (some (vI 0), LR z1 f1))) ∧ ((¬ (z 15 = 4 ∧ z 16 = x1)) → (∃ (r2 : Int32) (z2 : Nat → Int32) (f2 : Nat → FA), (mcall (d + 3)) 208 [vR 0, vI 1] (LR z f) = some (some (vI r2), LR z2 f2) ∧ res = (some (vI r2), LR z2 f2))))) : RC (mcall (d + 3)) (mP 256) 0 [some (vR 0), some (vI x1)] [] (LR z f) res := by
  refine rc_b (i' := 2) (ls' := [some (vR 0), some (vI x1)]) (st' := [vI x1, vR 0]) (L' := LR z f) 2 (b256_1 (mcall (d + 3)) x1 _) ?_
  refine rc_call (t := 3) (ls' := [some (vR 0), some (vI x1)]) (st' := []) (b256_2 (mcall (d + 3)) x1 _ z f) (isSign_r _ x1 z f) ?_
  show RC (mcall (d + 3)) (mP 256) 3 [some (vR 0), some (vI x1)] [vI (bI (z 15 = 4 ∧ z 16 = x1))] (LR z f) res
  refine rc_bn (it := 8) (ie := 4) (ls' := [some (vR 0), some (vI x1)]) (st' := []) (b256_3 (mcall (d + 3)) (bI (z 15 = 4 ∧ z 16 = x1)) _ _) (fun q1 => ?_) (fun q1 => ?_)
  · have H := H.1 q1
    refine rc_b (i' := 9) (ls' := [some (vR 0), some (vI x1)]) (st' := [vR 0]) (L' := LR z f) 1 (b256_4 (mcall (d + 3)) x1 _) ?_
    obtain ⟨z1, f1, hc, H⟩ := H
    refine rc_call (t := 10) (ls' := [some (vR 0), some (vI x1)]) (st' := []) (b256_5 (mcall (d + 3)) _ z f) hc ?_
    show RC (mcall (d + 3)) (mP 256) 10 [some (vR 0), some (vI x1)] [] (LR z1 f1) res
    refine rc_b (i' := 11) (ls' := [some (vR 0), some (vI x1)]) (st' := [vI 0]) (L' := LR z1 f1) 1 (b256_6 (mcall (d + 3)) x1 _) ?_
    subst H
    exact rc_ret (b256_7 (mcall (d + 3)) _ _ _)
  · have H := H.2 q1
    refine rc_b (i' := 6) (ls' := [some (vR 0), some (vI x1)]) (st' := [vI 1, vR 0]) (L' := LR z f) 2 (b256_8 (mcall (d + 3)) x1 _) ?_
    obtain ⟨r2, z2, f2, hc, H⟩ := H
    refine rc_call (t := 7) (ls' := [some (vR 0), some (vI x1)]) (st' := []) (b256_9 (mcall (d + 3)) 1 _ z f) hc ?_
    show RC (mcall (d + 3)) (mP 256) 7 [some (vR 0), some (vI x1)] [vI r2] (LR z2 f2) res
    subst H
    exact rc_ret (b256_10 (mcall (d + 3)) _ _ _)
theorem readMark_r (d0 : Nat) {t a : Nat} {z : Nat → Int32} {f : Nat → FA} (w : Int32) (h : TS t a z f) : ∃ r z' a', mcall (d0 + 4) 256 [vR 0, vI w] (LR z f) = some (some (vI r), LR z' f) ∧ RNz z z' ∧ TS t a' z' f ∧ a ≤ a' ∧ (r = -1 ∨ (r = 0 ∧ a < a')) := by
  have go : ∀ res, _ → mcall (d0 + 4) 256 [vR 0, vI w] (LR z f) = some res := fun res H => mcall_i (mq256 (cu := [])).2.2 rfl (vc256_0 d0 w z f res H)
  by_cases c1 : z 15 = 4 ∧ z 16 = w
  · obtain ⟨z1, a1, g1, g2, g3, g4⟩ := rd_c d0 h (by rw [c1.1]; decide)
    exact ⟨0, z1, a1, go _ ⟨fun _ => ⟨z1, f, g1, rfl⟩, fun q => absurd c1 q⟩, g4.n, g2.weak (by omega), by omega, Or.inr ⟨rfl, g3⟩⟩
  · exact ⟨-1, _, a, go _ ⟨fun q => absurd q c1, fun _ => ⟨-1, _, f, errs_r (d0 + 2) 1 z f, rfl⟩⟩, RNz.er, h.er, Nat.le_refl _, Or.inl rfl⟩
set_option maxRecDepth 100000 in
theorem b263_1 (call : QC FA) (x1 : Int32) (x2 : Int32) (x3 : Int32) (L : QH FA) (F : Nat) : rnG call 263 (F + 2) 0 [some (vR 0), some (vI x1), some (vI x2), some (vI x3)] [] L = rnG call 263 F 2 [some (vR 0), some (vI x1), some (vI x2), some (vI x3)] [vI x1, vR 0] L := rfl
set_option maxRecDepth 100000 in
theorem b263_2 (call : QC FA) (a0 : Int32) (ls : List (Option PV)) (z : Nat → Int32) (f : Nat → FA) (F : Nat) : rnG call 263 (F + 1) 2 ls [vI a0, vR 0] (LR z f) = cbd (call 228 [vR 0, vI a0] (LR z f)) (fun r L' => rnG call 263 F 3 ls (r.toList ++ []) L') := pcY (ih := rnG call 263 F) (call := call) (a := 228) (b := 1) (v := 12) (t := 3) (x := 0) (ls := ls) (As := [vI a0]) (st' := []) (L := LR z f) rfl rfl rfl
set_option maxRecDepth 100000 in
theorem b263_3 (call : QC FA) (x : Int32) (ls : List (Option PV)) (L : QH FA) (F : Nat) : rnG call 263 (F + 1) 3 ls [vI x] L = bif pcmp 1 x 0 then rnG call 263 F 8 ls [] L else rnG call 263 F 4 ls [] L := rfl
set_option maxRecDepth 100000 in
theorem b263_4 (call : QC FA) (x1 : Int32) (x2 : Int32) (x3 : Int32) (L : QH FA) (F : Nat) : rnG call 263 (F + 1) 8 [some (vR 0), some (vI x1), some (vI x2), some (vI x3)] [] L = rnG call 263 F 9 [some (vR 0), some (vI x1), some (vI x2), some (vI x3)] [vR 0] L := rfl
set_option maxRecDepth 100000 in
theorem b263_5 (call : QC FA) (ls : List (Option PV)) (z : Nat → Int32) (f : Nat → FA) (F : Nat) : rnG call 263 (F + 1) 9 ls [vR 0] (LR z f) = cbd (call 269 [vR 0] (LR z f)) (fun r L' => rnG call 263 F 10 ls (r.toList ++ []) L') := pcY (ih := rnG call 263 F) (call := call) (a := 269) (b := 0) (v := 12) (t := 10) (x := 0) (ls := ls) (As := []) (st' := []) (L := LR z f) rfl rfl rfl
set_option maxRecDepth 100000 in
theorem b263_6 (call : QC FA) (x1 : Int32) (x2 : Int32) (x3 : Int32) (L : QH FA) (F : Nat) : rnG call 263 (F + 3) 10 [some (vR 0), some (vI x1), some (vI x2), some (vI x3)] [] L = rnG call 263 F 13 [some (vR 0), some (vI x1), some (vI x2), some (vI x3)] [vI x3, vI x2, vR 0] L := rfl
set_option maxRecDepth 100000 in
theorem b263_7 (call : QC FA) (a0 : Int32) (a1 : Int32) (ls : List (Option PV)) (z : Nat → Int32) (f : Nat → FA) (F : Nat) : rnG call 263 (F + 1) 13 ls [vI a1, vI a0, vR 0] (LR z f) = cbd (call 258 [vR 0, vI a0, vI a1] (LR z f)) (fun r L' => rnG call 263 F 14 ls (r.toList ++ []) L') := pcY (ih := rnG call 263 F) (call := call) (a := 258) (b := 2) (v := 12) (t := 14) (x := 0) (ls := ls) (As := [vI a0, vI a1]) (st' := []) (L := LR z f) rfl rfl rfl
set_option maxRecDepth 100000 in
theorem b263_8 (call : QC FA) (x : Int32) (ls : List (Option PV)) (L : QH FA) (F : Nat) : rnG call 263 (F + 1) 14 ls [vI x] L = some (some (vI x), L) := rfl
set_option maxRecDepth 100000 in
theorem b263_9 (call : QC FA) (x1 : Int32) (x2 : Int32) (x3 : Int32) (L : QH FA) (F : Nat) : rnG call 263 (F + 2) 4 [some (vR 0), some (vI x1), some (vI x2), some (vI x3)] [] L = rnG call 263 F 6 [some (vR 0), some (vI x1), some (vI x2), some (vI x3)] [vI 1, vR 0] L := rfl
set_option maxRecDepth 100000 in
theorem b263_10 (call : QC FA) (a0 : Int32) (ls : List (Option PV)) (z : Nat → Int32) (f : Nat → FA) (F : Nat) : rnG call 263 (F + 1) 6 ls [vI a0, vR 0] (LR z f) = cbd (call 208 [vR 0, vI a0] (LR z f)) (fun r L' => rnG call 263 F 7 ls (r.toList ++ []) L') := pcY (ih := rnG call 263 F) (call := call) (a := 208) (b := 1) (v := 12) (t := 7) (x := 0) (ls := ls) (As := [vI a0]) (st' := []) (L := LR z f) rfl rfl rfl
set_option maxRecDepth 100000 in
theorem b263_11 (call : QC FA) (x : Int32) (ls : List (Option PV)) (L : QH FA) (F : Nat) : rnG call 263 (F + 1) 7 ls [vI x] L = some (some (vI x), L) := rfl
theorem vc263_0 (d : Nat) (x1 : Int32) (x2 : Int32) (x3 : Int32) (z : Nat → Int32) (f : Nat → FA) (res : Option PV × QH FA) (H : (((z 15 = 2 ∧ z 16 = x1) → (∃ (z1 : Nat → Int32) (f1 : Nat → FA), (mcall (d + 4)) 269 [vR 0] (LR z f) = some (none, LR z1 f1) ∧ (∃ (r2 : Int32) (z2 : Nat → Int32) (f2 : Nat → FA), (mcall (d + 4)) 258 [vR 0, vI x2, vI x3] (LR z1 f1) = some (some (vI r2), LR z2 f2) ∧ res = (some (vI r2), LR z2 f2)))) ∧ ((¬ (z 15 = 2 ∧ z 16 = x1)) → (∃ (r3 : Int32) (z3 : Nat → Int32) (f3 : Nat → FA), (mcall (d + 4)) 208 [vR 0, vI 1] (LR z f) = some (some (vI r3), LR z3 f3) ∧ res = (some (vI r3), LR z3 f3))))) : RC (mcall (d + 4)) (mP 263) 0 [some (vR 0), some (vI x1), some (vI x2), some (vI x3)] [] (LR z f) res := by
  refine rc_b (i' := 2) (ls' := [some (vR 0), some (vI x1), some (vI x2), some (vI x3)]) (st' := [vI x1, vR 0]) (L' := LR z f) 2 (b263_1 (mcall (d + 4)) x1 x2 x3 _) ?_
  refine rc_call (t := 3) (ls' := [some (vR 0), some (vI x1), some (vI x2), some (vI x3)]) (st' := []) (b263_2 (mcall (d + 4)) x1 _ z f) (isWord_r _ x1 z f) ?_
  show RC (mcall (d + 4)) (mP 263) 3 [some (vR 0), some (vI x1), some (vI x2), some (vI x3)] [vI (bI (z 15 = 2 ∧ z 16 = x1))] (LR z f) res
  refine rc_bn (it := 8) (ie := 4) (ls' := [some (vR 0), some (vI x1), some (vI x2), some (vI x3)]) (st' := []) (b263_3 (mcall (d + 4)) (bI (z 15 = 2 ∧ z 16 = x1)) _ _) (fun q1 => ?_) (fun q1 => ?_)
  · have H := H.1 q1
    refine rc_b (i' := 9) (ls' := [some (vR 0), some (vI x1), some (vI x2), some (vI x3)]) (st' := [vR 0]) (L' := LR z f) 1 (b263_4 (mcall (d + 4)) x1 x2 x3 _) ?_
    obtain ⟨z1, f1, hc, H⟩ := H
    refine rc_call (t := 10) (ls' := [some (vR 0), some (vI x1), some (vI x2), some (vI x3)]) (st' := []) (b263_5 (mcall (d + 4)) _ z f) hc ?_
    show RC (mcall (d + 4)) (mP 263) 10 [some (vR 0), some (vI x1), some (vI x2), some (vI x3)] [] (LR z1 f1) res
    refine rc_b (i' := 13) (ls' := [some (vR 0), some (vI x1), some (vI x2), some (vI x3)]) (st' := [vI x3, vI x2, vR 0]) (L' := LR z1 f1) 3 (b263_6 (mcall (d + 4)) x1 x2 x3 _) ?_
    obtain ⟨r2, z2, f2, hc, H⟩ := H
    refine rc_call (t := 14) (ls' := [some (vR 0), some (vI x1), some (vI x2), some (vI x3)]) (st' := []) (b263_7 (mcall (d + 4)) x2 x3 _ z1 f1) hc ?_
    show RC (mcall (d + 4)) (mP 263) 14 [some (vR 0), some (vI x1), some (vI x2), some (vI x3)] [vI r2] (LR z2 f2) res
    subst H
    exact rc_ret (b263_8 (mcall (d + 4)) _ _ _)
  · have H := H.2 q1
    refine rc_b (i' := 6) (ls' := [some (vR 0), some (vI x1), some (vI x2), some (vI x3)]) (st' := [vI 1, vR 0]) (L' := LR z f) 2 (b263_9 (mcall (d + 4)) x1 x2 x3 _) ?_
    obtain ⟨r3, z3, f3, hc, H⟩ := H
    refine rc_call (t := 7) (ls' := [some (vR 0), some (vI x1), some (vI x2), some (vI x3)]) (st' := []) (b263_10 (mcall (d + 4)) 1 _ z f) hc ?_
    show RC (mcall (d + 4)) (mP 263) 7 [some (vR 0), some (vI x1), some (vI x2), some (vI x3)] [vI r3] (LR z3 f3) res
    subst H
    exact rc_ret (b263_11 (mcall (d + 4)) _ _ _)
theorem readTold_r (d0 : Nat) {t a : Nat} {z : Nat → Int32} {f : Nat → FA} (w lo hi : Int32) (h : TS t a z f) : ∃ r z' a', mcall (d0 + 5) 263 [vR 0, vI w, vI lo, vI hi] (LR z f) = some (some (vI r), LR z' f) ∧ RNz z z' ∧ TS t a' z' f ∧ a ≤ a' ∧ (r = -1 ∨ (I lo ≤ I r ∧ I r ≤ I hi ∧ a < a')) := by
  have go : ∀ res, _ → mcall (d0 + 5) 263 [vR 0, vI w, vI lo, vI hi] (LR z f) = some res := fun res H => mcall_i (mq263 (cu := [])).2.2 rfl (vc263_0 d0 w lo hi z f res H)
  by_cases c1 : z 15 = 2 ∧ z 16 = w
  · obtain ⟨z1, a1, g1, g2, g3, g4⟩ := rd_c (d0 + 1) h (by rw [c1.1]; decide)
    obtain ⟨r, z2, a2, u1, u2, u3, u4, u5⟩ := readNumber_r d0 lo hi (g2.weak (Nat.zero_le _))
    refine ⟨r, z2, a2, go _ ⟨fun _ => ⟨z1, f, g1, r, z2, f, u1, rfl⟩, fun q => absurd c1 q⟩, g4.n.trans u2, u3, by omega, ?_⟩
    rcases u5 with u5 | ⟨u5, u6, u7⟩
    · exact Or.inl u5
    · exact Or.inr ⟨u5, u6, by omega⟩
  · exact ⟨-1, _, a, go _ ⟨fun q => absurd q c1, fun _ => ⟨-1, _, f, errs_r (d0 + 3) 1 z f, rfl⟩⟩, RNz.er, h.er, Nat.le_refl _, Or.inl rfl⟩
theorem BNDf_u {f : Nat → FA} {r k : Nat} {x : Int32} (h : BNDf f) (hp : pOf r = 0) (hx : inb (sgAt (sgOf r) k).1 (sgAt (sgOf r) k).2 x) : BNDf (uA f r (upd (f r) k x)) := by
  intro j h1 h2
  by_cases e : j = r
  · subst e
    rw [uA_self, hp]
    refine ⟨SegOK_of (fun i => ?_), PRD_0⟩
    by_cases c : i = k
    · subst c; rw [pk_us]; exact hx
    · rw [pk_un c]; exact SegOK_at (h j h1 h2).1 i
  · rw [uA_ne e]
    exact h j h1 h2
theorem inb_J {x : Int32} {lo hi : Nat} (h1 : (lo : Int) - 2147483648 ≤ I x) (h2 : I x ≤ (hi : Int) - 2147483648) : inb lo hi x := by
  have e := ky_toInt x
  have h1 : (lo : Int) - 2147483648 ≤ x.toInt := h1
  have h2 : x.toInt ≤ (hi : Int) - 2147483648 := h2
  exact ⟨by omega, by omega⟩
theorem m1I : I (-1 : Int32) = -1 := by decide
theorem res_I {r lo hi : Int32} {A : Prop} (h : r = -1 ∨ (I lo ≤ I r ∧ I r ≤ I hi ∧ A)) (h0 : 0 ≤ I lo) : -1 ≤ I r ∧ (r = -1 ∨ 0 ≤ I r) ∧ (I r ≤ I hi ∨ I r = -1) := by
  rcases h with rfl | ⟨h1, h2, -⟩
  · exact ⟨by rw [m1I]; omega, Or.inl rfl, Or.inr m1I⟩
  · exact ⟨by omega, Or.inr (by omega), Or.inl h2⟩
theorem vot_I {z : Nat → Int32} (h : BNDz z) : I (z 6 - 1) ≤ 19 := by
  obtain ⟨v, h1, h2⟩ := h.nat (j := 6) (hi := 20) (by decide)
  rw [h1]
  cases v with
  | zero => decide
  | succ v =>
    rw [show nI (v + 1) - 1 = nI v from nsub (a := v) (c := 1) rfl rfl, I_nI (by omega)]
    omega
theorem d19_0 : ∀ n, n < 16 → sgAt (sgOf 19) (80 + 5 * n + 0) = (2147483647, 2147484647) := by decide +kernel
theorem w19_0 {f : Nat → FA} {n : Nat} {x : Int32} (h : BNDf f) (hn : n < 16) (h1 : -1 ≤ I x) (h2 : I x ≤ 999) : BNDf (uA f 19 (upd (f 19) (80 + 5 * n + 0) x)) := BNDf_u h rfl (by rw [d19_0 n hn]; exact inb_J (by omega) (by omega))
theorem d19_1 : ∀ n, n < 16 → sgAt (sgOf 19) (80 + 5 * n + 1) = (2147483647, 2147483659) := by decide +kernel
theorem w19_1 {f : Nat → FA} {n : Nat} {x : Int32} (h : BNDf f) (hn : n < 16) (h1 : -1 ≤ I x) (h2 : I x ≤ 11) : BNDf (uA f 19 (upd (f 19) (80 + 5 * n + 1) x)) := BNDf_u h rfl (by rw [d19_1 n hn]; exact inb_J (by omega) (by omega))
theorem d19_2 : ∀ n, n < 16 → sgAt (sgOf 19) (80 + 5 * n + 2) = (2147483648, 2147483650) := by decide +kernel
theorem w19_2 {f : Nat → FA} {n : Nat} {x : Int32} (h : BNDf f) (hn : n < 16) (h1 : 0 ≤ I x) (h2 : I x ≤ 2) : BNDf (uA f 19 (upd (f 19) (80 + 5 * n + 2) x)) := BNDf_u h rfl (by rw [d19_2 n hn]; exact inb_J (by omega) (by omega))
theorem d19_3 : ∀ n, n < 16 → sgAt (sgOf 19) (80 + 5 * n + 3) = (2147483647, 2147483667) := by decide +kernel
theorem w19_3 {f : Nat → FA} {n : Nat} {x : Int32} (h : BNDf f) (hn : n < 16) (h1 : -1 ≤ I x) (h2 : I x ≤ 19) : BNDf (uA f 19 (upd (f 19) (80 + 5 * n + 3) x)) := BNDf_u h rfl (by rw [d19_3 n hn]; exact inb_J (by omega) (by omega))
theorem d19_4 : ∀ n, n < 16 → sgAt (sgOf 19) (80 + 5 * n + 4) = (2147483647, 2147483659) := by decide +kernel
theorem w19_4 {f : Nat → FA} {n : Nat} {x : Int32} (h : BNDf f) (hn : n < 16) (h1 : -1 ≤ I x) (h2 : I x ≤ 11) : BNDf (uA f 19 (upd (f 19) (80 + 5 * n + 4) x)) := BNDf_u h rfl (by rw [d19_4 n hn]; exact inb_J (by omega) (by omega))
theorem d18_0 : ∀ n, n < 16 → sgAt (sgOf 18) (48 + 3 * n + 0) = (2147483647, 2147483667) := by decide +kernel
theorem w18_0 {f : Nat → FA} {n : Nat} {x : Int32} (h : BNDf f) (hn : n < 16) (h1 : -1 ≤ I x) (h2 : I x ≤ 19) : BNDf (uA f 18 (upd (f 18) (48 + 3 * n + 0) x)) := BNDf_u h rfl (by rw [d18_0 n hn]; exact inb_J (by omega) (by omega))
theorem d18_1 : ∀ n, n < 16 → sgAt (sgOf 18) (48 + 3 * n + 1) = (2147483647, 2147483659) := by decide +kernel
theorem w18_1 {f : Nat → FA} {n : Nat} {x : Int32} (h : BNDf f) (hn : n < 16) (h1 : -1 ≤ I x) (h2 : I x ≤ 11) : BNDf (uA f 18 (upd (f 18) (48 + 3 * n + 1) x)) := BNDf_u h rfl (by rw [d18_1 n hn]; exact inb_J (by omega) (by omega))
theorem d18_2 : ∀ n, n < 16 → sgAt (sgOf 18) (48 + 3 * n + 2) = (2147483647, 2147483659) := by decide +kernel
theorem w18_2 {f : Nat → FA} {n : Nat} {x : Int32} (h : BNDf f) (hn : n < 16) (h1 : -1 ≤ I x) (h2 : I x ≤ 11) : BNDf (uA f 18 (upd (f 18) (48 + 3 * n + 2) x)) := BNDf_u h rfl (by rw [d18_2 n hn]; exact inb_J (by omega) (by omega))
/-- row r changes from b on, c numbers -/
def DFr (r b c : Nat) (z : Nat → Int32) (f : Nat → FA) (z' : Nat → Int32) (f' : Nat → FA) : Prop := RNz z z' ∧ (∀ k, k ≠ r → f' k = f k) ∧ (∀ j, j < b ∨ b + c ≤ j → f' r j = f r j)
theorem DFr.refl {r b c : Nat} {z : Nat → Int32} {f : Nat → FA} : DFr r b c z f z f := ⟨RNz.refl z, fun _ _ => rfl, fun _ _ => rfl⟩
theorem DFr.trans {r b c : Nat} {z z1 z2 : Nat → Int32} {f f1 f2 : Nat → FA} (h1 : DFr r b c z f z1 f1) (h2 : DFr r b c z1 f1 z2 f2) : DFr r b c z f z2 f2 := ⟨h1.1.trans h2.1, fun k hk => (h2.2.1 k hk).trans (h1.2.1 k hk), fun j hj => (h2.2.2 j hj).trans (h1.2.2 j hj)⟩
theorem DFr.z {r b c : Nat} {z z1 : Nat → Int32} {f : Nat → FA} (h : RNz z z1) : DFr r b c z f z1 f := ⟨h, fun _ _ => rfl, fun _ _ => rfl⟩
theorem DFr.w {r b c i : Nat} {z : Nat → Int32} {f : Nat → FA} {x : Int32} (h1 : b ≤ i) (h2 : i < b + c) : DFr r b c z f z (uA f r (upd (f r) i x)) := ⟨RNz.refl z, fun k hk => uA_ne hk, fun j hj => by rw [uA_self, pk_un (by omega)]⟩
def GD (f : Nat → FA) (n : Nat) : Prop := inb 2147483648 2147483659 (f 19 (80 + 5 * n + 1)) ∧ inb 2147483648 2147483667 (f 19 (80 + 5 * n + 3))
set_option maxRecDepth 100000 in
theorem b254_1 (call : QC FA) (x1 : Int32) (z : Nat → Int32) (f : Nat → FA) (F : Nat) : rnG call 254 (F + 8) 0 [some (vR 0), some (vI x1)] [] (LR z f) = rnG call 254 F 8 [some (vR 0), some (vI x1)] [vI 9, vI 0, vR 0, vI (x1 + 3), vR 19] (LR z f) := rfl
set_option maxRecDepth 100000 in
theorem b254_2 (call : QC FA) (a0 : Int32) (a1 : Int32) (s0 : Int32) (ls : List (Option PV)) (z : Nat → Int32) (f : Nat → FA) (F : Nat) : rnG call 254 (F + 1) 8 ls [vI a1, vI a0, vR 0, vI s0, vR 19] (LR z f) = cbd (call 258 [vR 0, vI a0, vI a1] (LR z f)) (fun r L' => rnG call 254 F 9 ls (r.toList ++ [vI s0, vR 19]) L') := pcY (ih := rnG call 254 F) (call := call) (a := 258) (b := 2) (v := 12) (t := 9) (x := 0) (ls := ls) (As := [vI a0, vI a1]) (st' := [vI s0, vR 19]) (L := LR z f) rfl rfl rfl
set_option maxRecDepth 100000 in
theorem b254_3 (call : QC FA) (x y : Int32) (ls : List (Option PV)) (z : Nat → Int32) (f : Nat → FA) (F : Nat) : rnG call 254 (F + 1) 9 ls [vI y, vI x, vR 19] (LR z f) = bif (Nat.beq 0 0 && pin x 160) then rnG call 254 F 10 ls [] (LR z (uA f 19 (upd (f 19) (ix x) y))) else none := rfl
set_option maxRecDepth 100000 in
theorem b254_4 (call : QC FA) (x1 : Int32) (z : Nat → Int32) (f : Nat → FA) (F : Nat) : rnG call 254 (F + 5) 10 [some (vR 0), some (vI x1)] [] (LR z f) = rnG call 254 F 15 [some (vR 0), some (vI x1)] [vI (x1 + 3), vR 19] (LR z f) := rfl
set_option maxRecDepth 100000 in
theorem b254_5 (call : QC FA) (x : Int32) (ls : List (Option PV)) (z : Nat → Int32) (f : Nat → FA) (F : Nat) : rnG call 254 (F + 1) 15 ls [vI x, vR 19] (LR z f) = bif (Nat.beq 0 0 && pin x 160) then rnG call 254 F 16 ls [vI (f 19 (ix x))] (LR z f) else none := rfl
set_option maxRecDepth 100000 in
theorem b254_6 (call : QC FA) (x1 : Int32) (s0 : Int32) (L : QH FA) (F : Nat) : rnG call 254 (F + 1) 16 [some (vR 0), some (vI x1)] [vI s0] L = rnG call 254 F 17 [some (vR 0), some (vI x1)] [vI ((-1)), vI s0] L := rfl
set_option maxRecDepth 100000 in
theorem b254_7 (call : QC FA) (x y : Int32) (ls : List (Option PV)) (L : QH FA) (F : Nat) : rnG call 254 (F + 1) 17 ls [vI y, vI x] L = bif pcmp 1 x y then rnG call 254 F 20 ls [] L else rnG call 254 F 18 ls [] L := rfl
set_option maxRecDepth 100000 in
theorem b254_8 (call : QC FA) (x1 : Int32) (z : Nat → Int32) (f : Nat → FA) (F : Nat) : rnG call 254 (F + 9) 20 [some (vR 0), some (vI x1)] [] (LR z f) = rnG call 254 F 29 [some (vR 0), some (vI x1)] [vI 11, vI 0, vI 18, vR 0, vI (x1 + 1), vR 19] (LR z f) := rfl
set_option maxRecDepth 100000 in
theorem b254_9 (call : QC FA) (a0 : Int32) (a1 : Int32) (a2 : Int32) (s0 : Int32) (ls : List (Option PV)) (z : Nat → Int32) (f : Nat → FA) (F : Nat) : rnG call 254 (F + 1) 29 ls [vI a2, vI a1, vI a0, vR 0, vI s0, vR 19] (LR z f) = cbd (call 263 [vR 0, vI a0, vI a1, vI a2] (LR z f)) (fun r L' => rnG call 254 F 30 ls (r.toList ++ [vI s0, vR 19]) L') := pcY (ih := rnG call 254 F) (call := call) (a := 263) (b := 3) (v := 12) (t := 30) (x := 0) (ls := ls) (As := [vI a0, vI a1, vI a2]) (st' := [vI s0, vR 19]) (L := LR z f) rfl rfl rfl
set_option maxRecDepth 100000 in
theorem b254_10 (call : QC FA) (x y : Int32) (ls : List (Option PV)) (z : Nat → Int32) (f : Nat → FA) (F : Nat) : rnG call 254 (F + 1) 30 ls [vI y, vI x, vR 19] (LR z f) = bif (Nat.beq 0 0 && pin x 160) then rnG call 254 F 31 ls [] (LR z (uA f 19 (upd (f 19) (ix x) y))) else none := rfl
set_option maxRecDepth 100000 in
theorem b254_11 (call : QC FA) (x1 : Int32) (z : Nat → Int32) (f : Nat → FA) (F : Nat) : rnG call 254 (F + 5) 31 [some (vR 0), some (vI x1)] [] (LR z f) = rnG call 254 F 36 [some (vR 0), some (vI x1)] [vI (x1 + 1), vR 19] (LR z f) := rfl
set_option maxRecDepth 100000 in
theorem b254_12 (call : QC FA) (x : Int32) (ls : List (Option PV)) (z : Nat → Int32) (f : Nat → FA) (F : Nat) : rnG call 254 (F + 1) 36 ls [vI x, vR 19] (LR z f) = bif (Nat.beq 0 0 && pin x 160) then rnG call 254 F 37 ls [vI (f 19 (ix x))] (LR z f) else none := rfl
set_option maxRecDepth 100000 in
theorem b254_13 (call : QC FA) (x : Int32) (ls : List (Option PV)) (L : QH FA) (F : Nat) : rnG call 254 (F + 1) 37 ls [vI x] L = some (some (vI x), L) := rfl
set_option maxRecDepth 100000 in
theorem b254_14 (call : QC FA) (x1 : Int32) (L : QH FA) (F : Nat) : rnG call 254 (F + 1) 18 [some (vR 0), some (vI x1)] [] L = rnG call 254 F 19 [some (vR 0), some (vI x1)] [vI ((-1))] L := rfl
set_option maxRecDepth 100000 in
theorem b254_15 (call : QC FA) (x : Int32) (ls : List (Option PV)) (L : QH FA) (F : Nat) : rnG call 254 (F + 1) 19 ls [vI x] L = some (some (vI x), L) := rfl
theorem vc254_0 (d : Nat) (x1 : Int32) (z : Nat → Int32) (f : Nat → FA) (res : Option PV × QH FA) (H : (∃ (r1 : Int32) (z1 : Nat → Int32) (f1 : Nat → FA), (mcall (d + 5)) 258 [vR 0, vI 0, vI 9] (LR z f) = some (some (vI r1), LR z1 f1) ∧ (pin (x1 + 3) 160 = true ∧ (pin (x1 + 3) 160 = true ∧ ((¬ (upd (f1 19) (ix (x1 + 3)) r1) (ix (x1 + 3)) = (-1) → (∃ (r2 : Int32) (z2 : Nat → Int32) (f2 : Nat → FA), (mcall (d + 5)) 263 [vR 0, vI 18, vI 0, vI 11] (LR z1 (uA f1 19 (upd (f1 19) (ix (x1 + 3)) r1))) = some (some (vI r2), LR z2 f2) ∧ (pin (x1 + 1) 160 = true ∧ (pin (x1 + 1) 160 = true ∧ res = (some (vI ((upd (f2 19) (ix (x1 + 1)) r2) (ix (x1 + 1)))), LR z2 (uA f2 19 (upd (f2 19) (ix (x1 + 1)) r2))))))) ∧ ((upd (f1 19) (ix (x1 + 3)) r1) (ix (x1 + 3)) = (-1) → res = (some (vI ((-1))), LR z1 (uA f1 19 (upd (f1 19) (ix (x1 + 3)) r1))))))))) : RC (mcall (d + 5)) (mP 254) 0 [some (vR 0), some (vI x1)] [] (LR z f) res := by
  refine rc_b (i' := 8) (ls' := [some (vR 0), some (vI x1)]) (st' := [vI 9, vI 0, vR 0, vI (x1 + 3), vR 19]) (L' := LR z f) 8 (b254_1 (mcall (d + 5)) x1 z f) ?_
  obtain ⟨r1, z1, f1, hc, H⟩ := H
  refine rc_call (t := 9) (ls' := [some (vR 0), some (vI x1)]) (st' := [vI (x1 + 3), vR 19]) (b254_2 (mcall (d + 5)) 0 9 (x1 + 3) _ z f) hc ?_
  show RC (mcall (d + 5)) (mP 254) 9 [some (vR 0), some (vI x1)] [vI r1, vI (x1 + 3), vR 19] (LR z1 f1) res
  obtain ⟨g1, H⟩ := H
  refine rc_g (i' := 10) (ls' := [some (vR 0), some (vI x1)]) (st' := []) (L' := LR z1 (uA f1 19 (upd (f1 19) (ix (x1 + 3)) r1))) (b254_3 (mcall (d + 5)) (x1 + 3) r1 _ z1 f1) (pinG g1) ?_
  refine rc_b (i' := 15) (ls' := [some (vR 0), some (vI x1)]) (st' := [vI (x1 + 3), vR 19]) (L' := LR z1 (uA f1 19 (upd (f1 19) (ix (x1 + 3)) r1))) 5 (b254_4 (mcall (d + 5)) x1 z1 (uA f1 19 (upd (f1 19) (ix (x1 + 3)) r1))) ?_
  obtain ⟨g1, H⟩ := H
  refine rc_g (i' := 16) (ls' := [some (vR 0), some (vI x1)]) (st' := [vI ((upd (f1 19) (ix (x1 + 3)) r1) (ix (x1 + 3)))]) (L' := LR z1 (uA f1 19 (upd (f1 19) (ix (x1 + 3)) r1))) (b254_5 (mcall (d + 5)) (x1 + 3) _ z1 (uA f1 19 (upd (f1 19) (ix (x1 + 3)) r1))) (pinG g1) ?_
  refine rc_b (i' := 17) (ls' := [some (vR 0), some (vI x1)]) (st' := [vI ((-1)), vI ((upd (f1 19) (ix (x1 + 3)) r1) (ix (x1 + 3)))]) (L' := LR z1 (uA f1 19 (upd (f1 19) (ix (x1 + 3)) r1))) 1 (b254_6 (mcall (d + 5)) x1 ((upd (f1 19) (ix (x1 + 3)) r1) (ix (x1 + 3))) _) ?_
  refine rc_if (it := 20) (ie := 18) (ls' := [some (vR 0), some (vI x1)]) (st' := []) (b254_7 (mcall (d + 5)) ((upd (f1 19) (ix (x1 + 3)) r1) (ix (x1 + 3))) ((-1)) _ _) (fun q1 => ?_) (fun q1 => ?_)
  · have H := H.1 (cI1t q1)
    refine rc_b (i' := 29) (ls' := [some (vR 0), some (vI x1)]) (st' := [vI 11, vI 0, vI 18, vR 0, vI (x1 + 1), vR 19]) (L' := LR z1 (uA f1 19 (upd (f1 19) (ix (x1 + 3)) r1))) 9 (b254_8 (mcall (d + 5)) x1 z1 (uA f1 19 (upd (f1 19) (ix (x1 + 3)) r1))) ?_
    obtain ⟨r2, z2, f2, hc, H⟩ := H
    refine rc_call (t := 30) (ls' := [some (vR 0), some (vI x1)]) (st' := [vI (x1 + 1), vR 19]) (b254_9 (mcall (d + 5)) 18 0 11 (x1 + 1) _ z1 (uA f1 19 (upd (f1 19) (ix (x1 + 3)) r1))) hc ?_
    show RC (mcall (d + 5)) (mP 254) 30 [some (vR 0), some (vI x1)] [vI r2, vI (x1 + 1), vR 19] (LR z2 f2) res
    obtain ⟨g1, H⟩ := H
    refine rc_g (i' := 31) (ls' := [some (vR 0), some (vI x1)]) (st' := []) (L' := LR z2 (uA f2 19 (upd (f2 19) (ix (x1 + 1)) r2))) (b254_10 (mcall (d + 5)) (x1 + 1) r2 _ z2 f2) (pinG g1) ?_
    refine rc_b (i' := 36) (ls' := [some (vR 0), some (vI x1)]) (st' := [vI (x1 + 1), vR 19]) (L' := LR z2 (uA f2 19 (upd (f2 19) (ix (x1 + 1)) r2))) 5 (b254_11 (mcall (d + 5)) x1 z2 (uA f2 19 (upd (f2 19) (ix (x1 + 1)) r2))) ?_
    obtain ⟨g1, H⟩ := H
    refine rc_g (i' := 37) (ls' := [some (vR 0), some (vI x1)]) (st' := [vI ((upd (f2 19) (ix (x1 + 1)) r2) (ix (x1 + 1)))]) (L' := LR z2 (uA f2 19 (upd (f2 19) (ix (x1 + 1)) r2))) (b254_12 (mcall (d + 5)) (x1 + 1) _ z2 (uA f2 19 (upd (f2 19) (ix (x1 + 1)) r2))) (pinG g1) ?_
    subst H
    exact rc_ret (b254_13 (mcall (d + 5)) _ _ _)
  · have H := H.2 (cI1f q1)
    refine rc_b (i' := 19) (ls' := [some (vR 0), some (vI x1)]) (st' := [vI ((-1))]) (L' := LR z1 (uA f1 19 (upd (f1 19) (ix (x1 + 3)) r1))) 1 (b254_14 (mcall (d + 5)) x1 _) ?_
    subst H
    exact rc_ret (b254_15 (mcall (d + 5)) _ _ _)
theorem readHeat_r (d0 : Nat) {t a n : Nat} {z : Nat → Int32} {f : Nat → FA} (hn : n < 16) (hz : BNDz z) (h : TS t a z f) (hB : BNDf f) : ∃ r z' f' a', mcall (d0 + 6) 254 [vR 0, vI (nI (80 + 5 * n))] (LR z f) = some (some (vI r), LR z' f') ∧ DFr 19 (80 + 5 * n) 5 z f z' f' ∧ TS t a' z' f' ∧ a ≤ a' ∧ BNDf f' ∧ (∀ c, c = 0 ∨ c = 2 → f' 19 (80 + 5 * n + c) = f 19 (80 + 5 * n + c)) ∧ (r = -1 ∨ GD f' n) := by
  have go : ∀ res, _ → mcall (d0 + 6) 254 [vR 0, vI (nI (80 + 5 * n))] (LR z f) = some res := fun res H => mcall_i (mq254 (cu := [])).2.2 rfl (vc254_0 (d0) _ z f res H)
  have e1 : nI (80 + 5 * n) + 1 = nI (80 + 5 * n + 1) := nI_add _ 1
  have e3 : nI (80 + 5 * n) + 3 = nI (80 + 5 * n + 3) := nI_add _ 3
  have e4 : nI (80 + 5 * n) + 4 = nI (80 + 5 * n + 4) := nI_add _ 4
  rw [e1, e3] at go
  rw [ix_nI (by omega), ix_nI (by omega)] at go
  obtain ⟨r1, z1, a1, u1, u2, u3, u4, u5⟩ := readNumber_r (d0 + 1) 0 9 h
  obtain ⟨b1, b2, b3⟩ := res_I u5 (by decide)
  have i9 : I (9 : Int32) = 9 := by decide
  have i11 : I (11 : Int32) = 11 := by decide
  have B1 := w19_3 (x := r1) hB hn (by omega) (by omega)
  by_cases c1 : r1 = -1
  · refine ⟨-1, z1, _, a1, go _ ⟨r1, z1, f, u1, pin_nI (by omega) (by omega), pin_nI (by omega) (by omega), fun q => absurd (by rw [pk_us]; exact c1) q, fun _ => rfl⟩, (DFr.z u2).trans (DFr.w (by omega) (by omega)), u3.fk (by decide), u4, B1, ?_, Or.inl rfl⟩
    intro c hc
    rw [uA_self, pk_un (by omega)]
  · obtain ⟨r2, z2, a2, v1, v2, v3, v4, v5⟩ := readTold_r d0 (f := uA f 19 (upd (f 19) (80 + 5 * n + 3) r1)) 18 0 11 (u3.fk (by decide))
    obtain ⟨d1, d2, d3⟩ := res_I v5 (by decide)
    refine ⟨r2, z2, _, a2, go _ ⟨r1, z1, f, u1, pin_nI (by omega) (by omega), pin_nI (by omega) (by omega), fun _ => ⟨r2, z2, _, v1, pin_nI (by omega) (by omega), pin_nI (by omega) (by omega), by rw [pk_us]⟩, fun q => absurd (by rw [pk_us] at q; exact q) c1⟩, ((DFr.z u2).trans (DFr.w (by omega) (by omega))).trans ((DFr.z v2).trans (DFr.w (by omega) (by omega))), v3.fk (by decide), by omega, w19_1 B1 hn (by omega) (by omega), ?_, ?_⟩
    · intro c hc
      rw [uA_self, pk_un (by omega), uA_self, pk_un (by omega)]
    · by_cases c2 : r2 = -1
      · exact Or.inl c2
      · refine Or.inr ⟨?_, ?_⟩
        · rw [uA_self, pk_us]
          rcases d2 with d2 | d2
          · exact absurd d2 c2
          · exact inb_J (by omega) (by omega)
        · rw [uA_self, pk_un (by omega), uA_self, pk_us]
          rcases b2 with b2 | b2
          · exact absurd b2 c1
          · exact inb_J (by omega) (by omega)
set_option maxRecDepth 100000 in
theorem b260_1 (call : QC FA) (x1 : Int32) (z : Nat → Int32) (f : Nat → FA) (F : Nat) : rnG call 260 (F + 9) 0 [some (vR 0), some (vI x1)] [] (LR z f) = rnG call 260 F 9 [some (vR 0), some (vI x1)] [vI 11, vI 0, vI 18, vR 0, vI (x1 + 1), vR 19] (LR z f) := rfl
set_option maxRecDepth 100000 in
theorem b260_2 (call : QC FA) (a0 : Int32) (a1 : Int32) (a2 : Int32) (s0 : Int32) (ls : List (Option PV)) (z : Nat → Int32) (f : Nat → FA) (F : Nat) : rnG call 260 (F + 1) 9 ls [vI a2, vI a1, vI a0, vR 0, vI s0, vR 19] (LR z f) = cbd (call 263 [vR 0, vI a0, vI a1, vI a2] (LR z f)) (fun r L' => rnG call 260 F 10 ls (r.toList ++ [vI s0, vR 19]) L') := pcY (ih := rnG call 260 F) (call := call) (a := 263) (b := 3) (v := 12) (t := 10) (x := 0) (ls := ls) (As := [vI a0, vI a1, vI a2]) (st' := [vI s0, vR 19]) (L := LR z f) rfl rfl rfl
set_option maxRecDepth 100000 in
theorem b260_3 (call : QC FA) (x y : Int32) (ls : List (Option PV)) (z : Nat → Int32) (f : Nat → FA) (F : Nat) : rnG call 260 (F + 1) 10 ls [vI y, vI x, vR 19] (LR z f) = bif (Nat.beq 0 0 && pin x 160) then rnG call 260 F 11 ls [] (LR z (uA f 19 (upd (f 19) (ix x) y))) else none := rfl
set_option maxRecDepth 100000 in
theorem b260_4 (call : QC FA) (x1 : Int32) (z : Nat → Int32) (f : Nat → FA) (F : Nat) : rnG call 260 (F + 5) 11 [some (vR 0), some (vI x1)] [] (LR z f) = rnG call 260 F 16 [some (vR 0), some (vI x1)] [vI (x1 + 1), vR 19] (LR z f) := rfl
set_option maxRecDepth 100000 in
theorem b260_5 (call : QC FA) (x : Int32) (ls : List (Option PV)) (z : Nat → Int32) (f : Nat → FA) (F : Nat) : rnG call 260 (F + 1) 16 ls [vI x, vR 19] (LR z f) = bif (Nat.beq 0 0 && pin x 160) then rnG call 260 F 17 ls [vI (f 19 (ix x))] (LR z f) else none := rfl
set_option maxRecDepth 100000 in
theorem b260_6 (call : QC FA) (x1 : Int32) (s0 : Int32) (L : QH FA) (F : Nat) : rnG call 260 (F + 1) 17 [some (vR 0), some (vI x1)] [vI s0] L = rnG call 260 F 18 [some (vR 0), some (vI x1)] [vI ((-1)), vI s0] L := rfl
set_option maxRecDepth 100000 in
theorem b260_7 (call : QC FA) (x y : Int32) (ls : List (Option PV)) (L : QH FA) (F : Nat) : rnG call 260 (F + 1) 18 ls [vI y, vI x] L = bif pcmp 1 x y then rnG call 260 F 21 ls [] L else rnG call 260 F 19 ls [] L := rfl
set_option maxRecDepth 100000 in
theorem b260_8 (call : QC FA) (x1 : Int32) (z : Nat → Int32) (f : Nat → FA) (F : Nat) : rnG call 260 (F + 8) 21 [some (vR 0), some (vI x1)] [] (LR z f) = rnG call 260 F 29 [some (vR 0), some (vI x1)] [vI 11, vI 0, vR 0, vI (x1 + 3), vR 19] (LR z f) := rfl
set_option maxRecDepth 100000 in
theorem b260_9 (call : QC FA) (a0 : Int32) (a1 : Int32) (s0 : Int32) (ls : List (Option PV)) (z : Nat → Int32) (f : Nat → FA) (F : Nat) : rnG call 260 (F + 1) 29 ls [vI a1, vI a0, vR 0, vI s0, vR 19] (LR z f) = cbd (call 258 [vR 0, vI a0, vI a1] (LR z f)) (fun r L' => rnG call 260 F 30 ls (r.toList ++ [vI s0, vR 19]) L') := pcY (ih := rnG call 260 F) (call := call) (a := 258) (b := 2) (v := 12) (t := 30) (x := 0) (ls := ls) (As := [vI a0, vI a1]) (st' := [vI s0, vR 19]) (L := LR z f) rfl rfl rfl
set_option maxRecDepth 100000 in
theorem b260_10 (call : QC FA) (x y : Int32) (ls : List (Option PV)) (z : Nat → Int32) (f : Nat → FA) (F : Nat) : rnG call 260 (F + 1) 30 ls [vI y, vI x, vR 19] (LR z f) = bif (Nat.beq 0 0 && pin x 160) then rnG call 260 F 31 ls [] (LR z (uA f 19 (upd (f 19) (ix x) y))) else none := rfl
set_option maxRecDepth 100000 in
theorem b260_11 (call : QC FA) (x1 : Int32) (z : Nat → Int32) (f : Nat → FA) (F : Nat) : rnG call 260 (F + 5) 31 [some (vR 0), some (vI x1)] [] (LR z f) = rnG call 260 F 36 [some (vR 0), some (vI x1)] [vI (x1 + 3), vR 19] (LR z f) := rfl
set_option maxRecDepth 100000 in
theorem b260_12 (call : QC FA) (x : Int32) (ls : List (Option PV)) (z : Nat → Int32) (f : Nat → FA) (F : Nat) : rnG call 260 (F + 1) 36 ls [vI x, vR 19] (LR z f) = bif (Nat.beq 0 0 && pin x 160) then rnG call 260 F 37 ls [vI (f 19 (ix x))] (LR z f) else none := rfl
set_option maxRecDepth 100000 in
theorem b260_13 (call : QC FA) (x1 : Int32) (s0 : Int32) (L : QH FA) (F : Nat) : rnG call 260 (F + 1) 37 [some (vR 0), some (vI x1)] [vI s0] L = rnG call 260 F 38 [some (vR 0), some (vI x1)] [vI ((-1)), vI s0] L := rfl
set_option maxRecDepth 100000 in
theorem b260_14 (call : QC FA) (x y : Int32) (ls : List (Option PV)) (L : QH FA) (F : Nat) : rnG call 260 (F + 1) 38 ls [vI y, vI x] L = bif pcmp 1 x y then rnG call 260 F 41 ls [] L else rnG call 260 F 39 ls [] L := rfl
set_option maxRecDepth 100000 in
theorem b260_15 (call : QC FA) (x1 : Int32) (z : Nat → Int32) (f : Nat → FA) (F : Nat) : rnG call 260 (F + 8) 41 [some (vR 0), some (vI x1)] [] (LR z f) = rnG call 260 F 49 [some (vR 0), some (vI x1)] [vI 11, vI 0, vR 0, vI (x1 + 4), vR 19] (LR z f) := rfl
set_option maxRecDepth 100000 in
theorem b260_16 (call : QC FA) (a0 : Int32) (a1 : Int32) (s0 : Int32) (ls : List (Option PV)) (z : Nat → Int32) (f : Nat → FA) (F : Nat) : rnG call 260 (F + 1) 49 ls [vI a1, vI a0, vR 0, vI s0, vR 19] (LR z f) = cbd (call 258 [vR 0, vI a0, vI a1] (LR z f)) (fun r L' => rnG call 260 F 50 ls (r.toList ++ [vI s0, vR 19]) L') := pcY (ih := rnG call 260 F) (call := call) (a := 258) (b := 2) (v := 12) (t := 50) (x := 0) (ls := ls) (As := [vI a0, vI a1]) (st' := [vI s0, vR 19]) (L := LR z f) rfl rfl rfl
set_option maxRecDepth 100000 in
theorem b260_17 (call : QC FA) (x y : Int32) (ls : List (Option PV)) (z : Nat → Int32) (f : Nat → FA) (F : Nat) : rnG call 260 (F + 1) 50 ls [vI y, vI x, vR 19] (LR z f) = bif (Nat.beq 0 0 && pin x 160) then rnG call 260 F 51 ls [] (LR z (uA f 19 (upd (f 19) (ix x) y))) else none := rfl
set_option maxRecDepth 100000 in
theorem b260_18 (call : QC FA) (x1 : Int32) (z : Nat → Int32) (f : Nat → FA) (F : Nat) : rnG call 260 (F + 5) 51 [some (vR 0), some (vI x1)] [] (LR z f) = rnG call 260 F 56 [some (vR 0), some (vI x1)] [vI (x1 + 4), vR 19] (LR z f) := rfl
set_option maxRecDepth 100000 in
theorem b260_19 (call : QC FA) (x : Int32) (ls : List (Option PV)) (z : Nat → Int32) (f : Nat → FA) (F : Nat) : rnG call 260 (F + 1) 56 ls [vI x, vR 19] (LR z f) = bif (Nat.beq 0 0 && pin x 160) then rnG call 260 F 57 ls [vI (f 19 (ix x))] (LR z f) else none := rfl
set_option maxRecDepth 100000 in
theorem b260_20 (call : QC FA) (x : Int32) (ls : List (Option PV)) (L : QH FA) (F : Nat) : rnG call 260 (F + 1) 57 ls [vI x] L = some (some (vI x), L) := rfl
set_option maxRecDepth 100000 in
theorem b260_21 (call : QC FA) (x1 : Int32) (L : QH FA) (F : Nat) : rnG call 260 (F + 1) 39 [some (vR 0), some (vI x1)] [] L = rnG call 260 F 40 [some (vR 0), some (vI x1)] [vI ((-1))] L := rfl
set_option maxRecDepth 100000 in
theorem b260_22 (call : QC FA) (x : Int32) (ls : List (Option PV)) (L : QH FA) (F : Nat) : rnG call 260 (F + 1) 40 ls [vI x] L = some (some (vI x), L) := rfl
set_option maxRecDepth 100000 in
theorem b260_23 (call : QC FA) (x1 : Int32) (L : QH FA) (F : Nat) : rnG call 260 (F + 1) 19 [some (vR 0), some (vI x1)] [] L = rnG call 260 F 20 [some (vR 0), some (vI x1)] [vI ((-1))] L := rfl
set_option maxRecDepth 100000 in
theorem b260_24 (call : QC FA) (x : Int32) (ls : List (Option PV)) (L : QH FA) (F : Nat) : rnG call 260 (F + 1) 20 ls [vI x] L = some (some (vI x), L) := rfl
theorem vc260_0 (d : Nat) (x1 : Int32) (z : Nat → Int32) (f : Nat → FA) (res : Option PV × QH FA) (H : (∃ (r1 : Int32) (z1 : Nat → Int32) (f1 : Nat → FA), (mcall (d + 5)) 263 [vR 0, vI 18, vI 0, vI 11] (LR z f) = some (some (vI r1), LR z1 f1) ∧ (pin (x1 + 1) 160 = true ∧ (pin (x1 + 1) 160 = true ∧ ((¬ (upd (f1 19) (ix (x1 + 1)) r1) (ix (x1 + 1)) = (-1) → (∃ (r2 : Int32) (z2 : Nat → Int32) (f2 : Nat → FA), (mcall (d + 5)) 258 [vR 0, vI 0, vI 11] (LR z1 (uA f1 19 (upd (f1 19) (ix (x1 + 1)) r1))) = some (some (vI r2), LR z2 f2) ∧ (pin (x1 + 3) 160 = true ∧ (pin (x1 + 3) 160 = true ∧ ((¬ (upd (f2 19) (ix (x1 + 3)) r2) (ix (x1 + 3)) = (-1) → (∃ (r3 : Int32) (z3 : Nat → Int32) (f3 : Nat → FA), (mcall (d + 5)) 258 [vR 0, vI 0, vI 11] (LR z2 (uA f2 19 (upd (f2 19) (ix (x1 + 3)) r2))) = some (some (vI r3), LR z3 f3) ∧ (pin (x1 + 4) 160 = true ∧ (pin (x1 + 4) 160 = true ∧ res = (some (vI ((upd (f3 19) (ix (x1 + 4)) r3) (ix (x1 + 4)))), LR z3 (uA f3 19 (upd (f3 19) (ix (x1 + 4)) r3))))))) ∧ ((upd (f2 19) (ix (x1 + 3)) r2) (ix (x1 + 3)) = (-1) → res = (some (vI ((-1))), LR z2 (uA f2 19 (upd (f2 19) (ix (x1 + 3)) r2))))))))) ∧ ((upd (f1 19) (ix (x1 + 1)) r1) (ix (x1 + 1)) = (-1) → res = (some (vI ((-1))), LR z1 (uA f1 19 (upd (f1 19) (ix (x1 + 1)) r1))))))))) : RC (mcall (d + 5)) (mP 260) 0 [some (vR 0), some (vI x1)] [] (LR z f) res := by
  refine rc_b (i' := 9) (ls' := [some (vR 0), some (vI x1)]) (st' := [vI 11, vI 0, vI 18, vR 0, vI (x1 + 1), vR 19]) (L' := LR z f) 9 (b260_1 (mcall (d + 5)) x1 z f) ?_
  obtain ⟨r1, z1, f1, hc, H⟩ := H
  refine rc_call (t := 10) (ls' := [some (vR 0), some (vI x1)]) (st' := [vI (x1 + 1), vR 19]) (b260_2 (mcall (d + 5)) 18 0 11 (x1 + 1) _ z f) hc ?_
  show RC (mcall (d + 5)) (mP 260) 10 [some (vR 0), some (vI x1)] [vI r1, vI (x1 + 1), vR 19] (LR z1 f1) res
  obtain ⟨g1, H⟩ := H
  refine rc_g (i' := 11) (ls' := [some (vR 0), some (vI x1)]) (st' := []) (L' := LR z1 (uA f1 19 (upd (f1 19) (ix (x1 + 1)) r1))) (b260_3 (mcall (d + 5)) (x1 + 1) r1 _ z1 f1) (pinG g1) ?_
  refine rc_b (i' := 16) (ls' := [some (vR 0), some (vI x1)]) (st' := [vI (x1 + 1), vR 19]) (L' := LR z1 (uA f1 19 (upd (f1 19) (ix (x1 + 1)) r1))) 5 (b260_4 (mcall (d + 5)) x1 z1 (uA f1 19 (upd (f1 19) (ix (x1 + 1)) r1))) ?_
  obtain ⟨g1, H⟩ := H
  refine rc_g (i' := 17) (ls' := [some (vR 0), some (vI x1)]) (st' := [vI ((upd (f1 19) (ix (x1 + 1)) r1) (ix (x1 + 1)))]) (L' := LR z1 (uA f1 19 (upd (f1 19) (ix (x1 + 1)) r1))) (b260_5 (mcall (d + 5)) (x1 + 1) _ z1 (uA f1 19 (upd (f1 19) (ix (x1 + 1)) r1))) (pinG g1) ?_
  refine rc_b (i' := 18) (ls' := [some (vR 0), some (vI x1)]) (st' := [vI ((-1)), vI ((upd (f1 19) (ix (x1 + 1)) r1) (ix (x1 + 1)))]) (L' := LR z1 (uA f1 19 (upd (f1 19) (ix (x1 + 1)) r1))) 1 (b260_6 (mcall (d + 5)) x1 ((upd (f1 19) (ix (x1 + 1)) r1) (ix (x1 + 1))) _) ?_
  refine rc_if (it := 21) (ie := 19) (ls' := [some (vR 0), some (vI x1)]) (st' := []) (b260_7 (mcall (d + 5)) ((upd (f1 19) (ix (x1 + 1)) r1) (ix (x1 + 1))) ((-1)) _ _) (fun q1 => ?_) (fun q1 => ?_)
  · have H := H.1 (cI1t q1)
    refine rc_b (i' := 29) (ls' := [some (vR 0), some (vI x1)]) (st' := [vI 11, vI 0, vR 0, vI (x1 + 3), vR 19]) (L' := LR z1 (uA f1 19 (upd (f1 19) (ix (x1 + 1)) r1))) 8 (b260_8 (mcall (d + 5)) x1 z1 (uA f1 19 (upd (f1 19) (ix (x1 + 1)) r1))) ?_
    obtain ⟨r2, z2, f2, hc, H⟩ := H
    refine rc_call (t := 30) (ls' := [some (vR 0), some (vI x1)]) (st' := [vI (x1 + 3), vR 19]) (b260_9 (mcall (d + 5)) 0 11 (x1 + 3) _ z1 (uA f1 19 (upd (f1 19) (ix (x1 + 1)) r1))) hc ?_
    show RC (mcall (d + 5)) (mP 260) 30 [some (vR 0), some (vI x1)] [vI r2, vI (x1 + 3), vR 19] (LR z2 f2) res
    obtain ⟨g1, H⟩ := H
    refine rc_g (i' := 31) (ls' := [some (vR 0), some (vI x1)]) (st' := []) (L' := LR z2 (uA f2 19 (upd (f2 19) (ix (x1 + 3)) r2))) (b260_10 (mcall (d + 5)) (x1 + 3) r2 _ z2 f2) (pinG g1) ?_
    refine rc_b (i' := 36) (ls' := [some (vR 0), some (vI x1)]) (st' := [vI (x1 + 3), vR 19]) (L' := LR z2 (uA f2 19 (upd (f2 19) (ix (x1 + 3)) r2))) 5 (b260_11 (mcall (d + 5)) x1 z2 (uA f2 19 (upd (f2 19) (ix (x1 + 3)) r2))) ?_
    obtain ⟨g1, H⟩ := H
    refine rc_g (i' := 37) (ls' := [some (vR 0), some (vI x1)]) (st' := [vI ((upd (f2 19) (ix (x1 + 3)) r2) (ix (x1 + 3)))]) (L' := LR z2 (uA f2 19 (upd (f2 19) (ix (x1 + 3)) r2))) (b260_12 (mcall (d + 5)) (x1 + 3) _ z2 (uA f2 19 (upd (f2 19) (ix (x1 + 3)) r2))) (pinG g1) ?_
    refine rc_b (i' := 38) (ls' := [some (vR 0), some (vI x1)]) (st' := [vI ((-1)), vI ((upd (f2 19) (ix (x1 + 3)) r2) (ix (x1 + 3)))]) (L' := LR z2 (uA f2 19 (upd (f2 19) (ix (x1 + 3)) r2))) 1 (b260_13 (mcall (d + 5)) x1 ((upd (f2 19) (ix (x1 + 3)) r2) (ix (x1 + 3))) _) ?_
    refine rc_if (it := 41) (ie := 39) (ls' := [some (vR 0), some (vI x1)]) (st' := []) (b260_14 (mcall (d + 5)) ((upd (f2 19) (ix (x1 + 3)) r2) (ix (x1 + 3))) ((-1)) _ _) (fun q2 => ?_) (fun q2 => ?_)
    · have H := H.1 (cI1t q2)
      refine rc_b (i' := 49) (ls' := [some (vR 0), some (vI x1)]) (st' := [vI 11, vI 0, vR 0, vI (x1 + 4), vR 19]) (L' := LR z2 (uA f2 19 (upd (f2 19) (ix (x1 + 3)) r2))) 8 (b260_15 (mcall (d + 5)) x1 z2 (uA f2 19 (upd (f2 19) (ix (x1 + 3)) r2))) ?_
      obtain ⟨r3, z3, f3, hc, H⟩ := H
      refine rc_call (t := 50) (ls' := [some (vR 0), some (vI x1)]) (st' := [vI (x1 + 4), vR 19]) (b260_16 (mcall (d + 5)) 0 11 (x1 + 4) _ z2 (uA f2 19 (upd (f2 19) (ix (x1 + 3)) r2))) hc ?_
      show RC (mcall (d + 5)) (mP 260) 50 [some (vR 0), some (vI x1)] [vI r3, vI (x1 + 4), vR 19] (LR z3 f3) res
      obtain ⟨g1, H⟩ := H
      refine rc_g (i' := 51) (ls' := [some (vR 0), some (vI x1)]) (st' := []) (L' := LR z3 (uA f3 19 (upd (f3 19) (ix (x1 + 4)) r3))) (b260_17 (mcall (d + 5)) (x1 + 4) r3 _ z3 f3) (pinG g1) ?_
      refine rc_b (i' := 56) (ls' := [some (vR 0), some (vI x1)]) (st' := [vI (x1 + 4), vR 19]) (L' := LR z3 (uA f3 19 (upd (f3 19) (ix (x1 + 4)) r3))) 5 (b260_18 (mcall (d + 5)) x1 z3 (uA f3 19 (upd (f3 19) (ix (x1 + 4)) r3))) ?_
      obtain ⟨g1, H⟩ := H
      refine rc_g (i' := 57) (ls' := [some (vR 0), some (vI x1)]) (st' := [vI ((upd (f3 19) (ix (x1 + 4)) r3) (ix (x1 + 4)))]) (L' := LR z3 (uA f3 19 (upd (f3 19) (ix (x1 + 4)) r3))) (b260_19 (mcall (d + 5)) (x1 + 4) _ z3 (uA f3 19 (upd (f3 19) (ix (x1 + 4)) r3))) (pinG g1) ?_
      subst H
      exact rc_ret (b260_20 (mcall (d + 5)) _ _ _)
    · have H := H.2 (cI1f q2)
      refine rc_b (i' := 40) (ls' := [some (vR 0), some (vI x1)]) (st' := [vI ((-1))]) (L' := LR z2 (uA f2 19 (upd (f2 19) (ix (x1 + 3)) r2))) 1 (b260_21 (mcall (d + 5)) x1 _) ?_
      subst H
      exact rc_ret (b260_22 (mcall (d + 5)) _ _ _)
  · have H := H.2 (cI1f q1)
    refine rc_b (i' := 20) (ls' := [some (vR 0), some (vI x1)]) (st' := [vI ((-1))]) (L' := LR z1 (uA f1 19 (upd (f1 19) (ix (x1 + 1)) r1))) 1 (b260_23 (mcall (d + 5)) x1 _) ?_
    subst H
    exact rc_ret (b260_24 (mcall (d + 5)) _ _ _)
theorem readPutty_r (d0 : Nat) {t a n : Nat} {z : Nat → Int32} {f : Nat → FA} (hn : n < 16) (hz : BNDz z) (h : TS t a z f) (hB : BNDf f) : ∃ r z' f' a', mcall (d0 + 6) 260 [vR 0, vI (nI (80 + 5 * n))] (LR z f) = some (some (vI r), LR z' f') ∧ DFr 19 (80 + 5 * n) 5 z f z' f' ∧ TS t a' z' f' ∧ a ≤ a' ∧ BNDf f' ∧ (∀ c, c = 0 ∨ c = 2 → f' 19 (80 + 5 * n + c) = f 19 (80 + 5 * n + c)) ∧ (r = -1 ∨ (GD f' n ∧ inb 2147483648 2147483659 (f' 19 (80 + 5 * n + 3)) ∧ inb 2147483648 2147483659 (f' 19 (80 + 5 * n + 4)))) := by
  have go : ∀ res, _ → mcall (d0 + 6) 260 [vR 0, vI (nI (80 + 5 * n))] (LR z f) = some res := fun res H => mcall_i (mq260 (cu := [])).2.2 rfl (vc260_0 (d0) _ z f res H)
  have e1 : nI (80 + 5 * n) + 1 = nI (80 + 5 * n + 1) := nI_add _ 1
  have e3 : nI (80 + 5 * n) + 3 = nI (80 + 5 * n + 3) := nI_add _ 3
  have e4 : nI (80 + 5 * n) + 4 = nI (80 + 5 * n + 4) := nI_add _ 4
  rw [e1, e3, e4] at go
  rw [ix_nI (j := 80 + 5 * n + 1) (by omega), ix_nI (j := 80 + 5 * n + 3) (by omega), ix_nI (j := 80 + 5 * n + 4) (by omega)] at go
  obtain ⟨r1, z1, a1, u1, u2, u3, u4, u5⟩ := readTold_r d0 18 0 11 h
  obtain ⟨b1, b2, b3⟩ := res_I u5 (by decide)
  have i11 : I (11 : Int32) = 11 := by decide
  have B1 := w19_1 (x := r1) hB hn (by omega) (by omega)
  by_cases c1 : r1 = -1
  · refine ⟨-1, z1, _, a1, go _ ⟨r1, z1, f, u1, pin_nI (by omega) (by omega), pin_nI (by omega) (by omega), fun q => absurd (by rw [pk_us]; exact c1) q, fun _ => rfl⟩, (DFr.z u2).trans (DFr.w (by omega) (by omega)), u3.fk (by decide), u4, B1, ?_, Or.inl rfl⟩
    intro c hc
    rw [uA_self, pk_un (by omega)]
  · obtain ⟨r2, z2, a2, v1, v2, v3, v4, v5⟩ := readNumber_r (d0 + 1) (f := uA f 19 (upd (f 19) (80 + 5 * n + 1) r1)) 0 11 (u3.fk (by decide))
    obtain ⟨d1, d2, d3⟩ := res_I v5 (by decide)
    have B2 := w19_3 (x := r2) B1 hn (by omega) (by omega)
    by_cases c2 : r2 = -1
    · refine ⟨-1, z2, _, a2, go _ ⟨r1, z1, f, u1, pin_nI (by omega) (by omega), pin_nI (by omega) (by omega), fun _ => ⟨r2, z2, _, v1, pin_nI (by omega) (by omega), pin_nI (by omega) (by omega), fun q => absurd (by rw [pk_us]; exact c2) q, fun _ => rfl⟩, fun q => absurd (by rw [pk_us] at q; exact q) c1⟩, ((DFr.z u2).trans (DFr.w (by omega) (by omega))).trans ((DFr.z v2).trans (DFr.w (by omega) (by omega))), v3.fk (by decide), by omega, B2, ?_, Or.inl rfl⟩
      intro c hc
      rw [uA_self, pk_un (by omega), uA_self, pk_un (by omega)]
    · obtain ⟨r3, z3, a3, w1, w2, w3, w4, w5⟩ := readNumber_r (d0 + 1) (f := uA (uA f 19 (upd (f 19) (80 + 5 * n + 1) r1)) 19 (upd ((uA f 19 (upd (f 19) (80 + 5 * n + 1) r1)) 19) (80 + 5 * n + 3) r2)) 0 11 (v3.fk (by decide))
      obtain ⟨f1, f2, f3⟩ := res_I w5 (by decide)
      refine ⟨r3, z3, _, a3, go _ ⟨r1, z1, f, u1, pin_nI (by omega) (by omega), pin_nI (by omega) (by omega), fun _ => ⟨r2, z2, _, v1, pin_nI (by omega) (by omega), pin_nI (by omega) (by omega), fun _ => ⟨r3, z3, _, w1, pin_nI (by omega) (by omega), pin_nI (by omega) (by omega), by rw [pk_us]⟩, fun q => absurd (by rw [pk_us] at q; exact q) c2⟩, fun q => absurd (by rw [pk_us] at q; exact q) c1⟩, (((DFr.z u2).trans (DFr.w (by omega) (by omega))).trans ((DFr.z v2).trans (DFr.w (by omega) (by omega)))).trans ((DFr.z w2).trans (DFr.w (by omega) (by omega))), w3.fk (by decide), by omega, w19_4 B2 hn (by omega) (by omega), ?_, ?_⟩
      · intro c hc
        rw [uA_self, pk_un (by omega), uA_self, pk_un (by omega), uA_self, pk_un (by omega)]
      · by_cases c3 : r3 = -1
        · exact Or.inl c3
        · refine Or.inr ⟨⟨?_, ?_⟩, ?_, ?_⟩
          · rw [uA_self, pk_un (by omega), uA_self, pk_un (by omega), uA_self, pk_us]
            rcases b2 with b2 | b2
            · exact absurd b2 c1
            · exact inb_J (by omega) (by omega)
          · rw [uA_self, pk_un (by omega), uA_self, pk_us]
            rcases d2 with d2 | d2
            · exact absurd d2 c2
            · exact inb_J (by omega) (by omega)
          · rw [uA_self, pk_un (by omega), uA_self, pk_us]
            rcases d2 with d2 | d2
            · exact absurd d2 c2
            · exact inb_J (by omega) (by omega)
          · rw [uA_self, pk_us]
            rcases f2 with f2 | f2
            · exact absurd f2 c3
            · exact inb_J (by omega) (by omega)
set_option maxRecDepth 100000 in
theorem b257_1 (call : QC FA) (x1 : Int32) (z : Nat → Int32) (f : Nat → FA) (F : Nat) : rnG call 257 (F + 6) 0 [some (vR 0), some (vI x1)] [] (LR z f) = rnG call 257 F 6 [some (vR 0), some (vI x1)] [vI 0, vI (x1 + 1), vR 19] (LR z f) := rfl
set_option maxRecDepth 100000 in
theorem b257_2 (call : QC FA) (x y : Int32) (ls : List (Option PV)) (z : Nat → Int32) (f : Nat → FA) (F : Nat) : rnG call 257 (F + 1) 6 ls [vI y, vI x, vR 19] (LR z f) = bif (Nat.beq 0 0 && pin x 160) then rnG call 257 F 7 ls [] (LR z (uA f 19 (upd (f 19) (ix x) y))) else none := rfl
set_option maxRecDepth 100000 in
theorem b257_3 (call : QC FA) (x1 : Int32) (z : Nat → Int32) (f : Nat → FA) (F : Nat) : rnG call 257 (F + 11) 7 [some (vR 0), some (vI x1)] [] (LR z f) = rnG call 257 F 18 [some (vR 0), some (vI x1)] [vI ((z 6) - 1), vI 0, vR 0, vI (x1 + 3), vR 19] (LR z f) := rfl
set_option maxRecDepth 100000 in
theorem b257_4 (call : QC FA) (a0 : Int32) (a1 : Int32) (s0 : Int32) (ls : List (Option PV)) (z : Nat → Int32) (f : Nat → FA) (F : Nat) : rnG call 257 (F + 1) 18 ls [vI a1, vI a0, vR 0, vI s0, vR 19] (LR z f) = cbd (call 258 [vR 0, vI a0, vI a1] (LR z f)) (fun r L' => rnG call 257 F 19 ls (r.toList ++ [vI s0, vR 19]) L') := pcY (ih := rnG call 257 F) (call := call) (a := 258) (b := 2) (v := 12) (t := 19) (x := 0) (ls := ls) (As := [vI a0, vI a1]) (st' := [vI s0, vR 19]) (L := LR z f) rfl rfl rfl
set_option maxRecDepth 100000 in
theorem b257_5 (call : QC FA) (x y : Int32) (ls : List (Option PV)) (z : Nat → Int32) (f : Nat → FA) (F : Nat) : rnG call 257 (F + 1) 19 ls [vI y, vI x, vR 19] (LR z f) = bif (Nat.beq 0 0 && pin x 160) then rnG call 257 F 20 ls [] (LR z (uA f 19 (upd (f 19) (ix x) y))) else none := rfl
set_option maxRecDepth 100000 in
theorem b257_6 (call : QC FA) (x1 : Int32) (z : Nat → Int32) (f : Nat → FA) (F : Nat) : rnG call 257 (F + 5) 20 [some (vR 0), some (vI x1)] [] (LR z f) = rnG call 257 F 25 [some (vR 0), some (vI x1)] [vI (x1 + 3), vR 19] (LR z f) := rfl
set_option maxRecDepth 100000 in
theorem b257_7 (call : QC FA) (x : Int32) (ls : List (Option PV)) (z : Nat → Int32) (f : Nat → FA) (F : Nat) : rnG call 257 (F + 1) 25 ls [vI x, vR 19] (LR z f) = bif (Nat.beq 0 0 && pin x 160) then rnG call 257 F 26 ls [vI (f 19 (ix x))] (LR z f) else none := rfl
set_option maxRecDepth 100000 in
theorem b257_8 (call : QC FA) (x1 : Int32) (s0 : Int32) (L : QH FA) (F : Nat) : rnG call 257 (F + 1) 26 [some (vR 0), some (vI x1)] [vI s0] L = rnG call 257 F 27 [some (vR 0), some (vI x1)] [vI ((-1)), vI s0] L := rfl
set_option maxRecDepth 100000 in
theorem b257_9 (call : QC FA) (x y : Int32) (ls : List (Option PV)) (L : QH FA) (F : Nat) : rnG call 257 (F + 1) 27 ls [vI y, vI x] L = bif pcmp 1 x y then rnG call 257 F 30 ls [] L else rnG call 257 F 28 ls [] L := rfl
set_option maxRecDepth 100000 in
theorem b257_10 (call : QC FA) (x1 : Int32) (z : Nat → Int32) (f : Nat → FA) (F : Nat) : rnG call 257 (F + 3) 30 [some (vR 0), some (vI x1)] [] (LR z f) = rnG call 257 F 33 [some (vR 0), some (vI x1)] [vI 2, vI (z 15)] (LR z f) := rfl
set_option maxRecDepth 100000 in
theorem b257_11 (call : QC FA) (x y : Int32) (ls : List (Option PV)) (L : QH FA) (F : Nat) : rnG call 257 (F + 1) 33 ls [vI y, vI x] L = bif pcmp 1 x y then rnG call 257 F 41 ls [] L else rnG call 257 F 34 ls [] L := rfl
set_option maxRecDepth 100000 in
theorem b257_12 (call : QC FA) (x1 : Int32) (L : QH FA) (F : Nat) : rnG call 257 (F + 2) 41 [some (vR 0), some (vI x1)] [] L = rnG call 257 F 43 [some (vR 0), some (vI x1)] [vI 1, vR 0] L := rfl
set_option maxRecDepth 100000 in
theorem b257_13 (call : QC FA) (a0 : Int32) (ls : List (Option PV)) (z : Nat → Int32) (f : Nat → FA) (F : Nat) : rnG call 257 (F + 1) 43 ls [vI a0, vR 0] (LR z f) = cbd (call 208 [vR 0, vI a0] (LR z f)) (fun r L' => rnG call 257 F 44 ls (r.toList ++ []) L') := pcY (ih := rnG call 257 F) (call := call) (a := 208) (b := 1) (v := 12) (t := 44) (x := 0) (ls := ls) (As := [vI a0]) (st' := []) (L := LR z f) rfl rfl rfl
set_option maxRecDepth 100000 in
theorem b257_14 (call : QC FA) (x : Int32) (ls : List (Option PV)) (L : QH FA) (F : Nat) : rnG call 257 (F + 1) 44 ls [vI x] L = some (some (vI x), L) := rfl
set_option maxRecDepth 100000 in
theorem b257_15 (call : QC FA) (x1 : Int32) (z : Nat → Int32) (f : Nat → FA) (F : Nat) : rnG call 257 (F + 5) 34 [some (vR 0), some (vI x1)] [] (LR z f) = rnG call 257 F 39 [some (vR 0), some (vI x1)] [vI 24, vI 22, vI (z 16), vR 0] (LR z f) := rfl
set_option maxRecDepth 100000 in
theorem b257_16 (call : QC FA) (a0 : Int32) (a1 : Int32) (a2 : Int32) (ls : List (Option PV)) (z : Nat → Int32) (f : Nat → FA) (F : Nat) : rnG call 257 (F + 1) 39 ls [vI a2, vI a1, vI a0, vR 0] (LR z f) = cbd (call 47 [vR 0, vI a0, vI a1, vI a2] (LR z f)) (fun r L' => rnG call 257 F 40 ls (r.toList ++ []) L') := pcY (ih := rnG call 257 F) (call := call) (a := 47) (b := 3) (v := 12) (t := 40) (x := 0) (ls := ls) (As := [vI a0, vI a1, vI a2]) (st' := []) (L := LR z f) rfl rfl rfl
set_option maxRecDepth 100000 in
theorem b257_17 (call : QC FA) (x : Int32) (ls : List (Option PV)) (L : QH FA) (F : Nat) : rnG call 257 (F + 1) 40 ls [vI x] L = bif pcmp 1 x 0 then rnG call 257 F 45 ls [] L else rnG call 257 F 41 ls [] L := rfl
set_option maxRecDepth 100000 in
theorem b257_18 (call : QC FA) (x1 : Int32) (z : Nat → Int32) (f : Nat → FA) (F : Nat) : rnG call 257 (F + 8) 45 [some (vR 0), some (vI x1)] [] (LR z f) = rnG call 257 F 53 [some (vR 0), some (vI x1)] [vI 22, vI (z 16), vI (x1 + 4), vR 19] (LR z f) := rfl
set_option maxRecDepth 100000 in
theorem b257_19 (call : QC FA) (x y : Int32) (s0 : Int32) (ls : List (Option PV)) (L : QH FA) (F : Nat) : rnG call 257 (F + 1) 53 ls [vI y, vI x, vI s0, vR 19] L = bif pcmp 1 x y then rnG call 257 F 56 ls [vI s0, vR 19] L else rnG call 257 F 54 ls [vI s0, vR 19] L := rfl
set_option maxRecDepth 100000 in
theorem b257_20 (call : QC FA) (x1 : Int32) (s0 : Int32) (z : Nat → Int32) (f : Nat → FA) (F : Nat) : rnG call 257 (F + 3) 56 [some (vR 0), some (vI x1)] [vI s0, vR 19] (LR z f) = rnG call 257 F 59 [some (vR 0), some (vI x1)] [vI 23, vI (z 16), vI s0, vR 19] (LR z f) := rfl
set_option maxRecDepth 100000 in
theorem b257_21 (call : QC FA) (x y : Int32) (s0 : Int32) (ls : List (Option PV)) (L : QH FA) (F : Nat) : rnG call 257 (F + 1) 59 ls [vI y, vI x, vI s0, vR 19] L = bif pcmp 1 x y then rnG call 257 F 62 ls [vI s0, vR 19] L else rnG call 257 F 60 ls [vI s0, vR 19] L := rfl
set_option maxRecDepth 100000 in
theorem b257_22 (call : QC FA) (x1 : Int32) (s0 : Int32) (L : QH FA) (F : Nat) : rnG call 257 (F + 1) 62 [some (vR 0), some (vI x1)] [vI s0, vR 19] L = rnG call 257 F 63 [some (vR 0), some (vI x1)] [vI 0, vI s0, vR 19] L := rfl
set_option maxRecDepth 100000 in
theorem b257_23 (call : QC FA) (x y : Int32) (ls : List (Option PV)) (z : Nat → Int32) (f : Nat → FA) (F : Nat) : rnG call 257 (F + 1) 63 ls [vI y, vI x, vR 19] (LR z f) = bif (Nat.beq 0 0 && pin x 160) then rnG call 257 F 64 ls [] (LR z (uA f 19 (upd (f 19) (ix x) y))) else none := rfl
set_option maxRecDepth 100000 in
theorem b257_24 (call : QC FA) (x1 : Int32) (L : QH FA) (F : Nat) : rnG call 257 (F + 1) 64 [some (vR 0), some (vI x1)] [] L = rnG call 257 F 65 [some (vR 0), some (vI x1)] [vR 0] L := rfl
set_option maxRecDepth 100000 in
theorem b257_25 (call : QC FA) (ls : List (Option PV)) (z : Nat → Int32) (f : Nat → FA) (F : Nat) : rnG call 257 (F + 1) 65 ls [vR 0] (LR z f) = cbd (call 269 [vR 0] (LR z f)) (fun r L' => rnG call 257 F 66 ls (r.toList ++ []) L') := pcY (ih := rnG call 257 F) (call := call) (a := 269) (b := 0) (v := 12) (t := 66) (x := 0) (ls := ls) (As := []) (st' := []) (L := LR z f) rfl rfl rfl
set_option maxRecDepth 100000 in
theorem b257_26 (call : QC FA) (x1 : Int32) (L : QH FA) (F : Nat) : rnG call 257 (F + 1) 66 [some (vR 0), some (vI x1)] [] L = rnG call 257 F 67 [some (vR 0), some (vI x1)] [vI 0] L := rfl
set_option maxRecDepth 100000 in
theorem b257_27 (call : QC FA) (x : Int32) (ls : List (Option PV)) (L : QH FA) (F : Nat) : rnG call 257 (F + 1) 67 ls [vI x] L = some (some (vI x), L) := rfl
set_option maxRecDepth 100000 in
theorem b257_28 (call : QC FA) (x1 : Int32) (s0 : Int32) (L : QH FA) (F : Nat) : rnG call 257 (F + 2) 60 [some (vR 0), some (vI x1)] [vI s0, vR 19] L = rnG call 257 F 63 [some (vR 0), some (vI x1)] [vI ((-1)), vI s0, vR 19] L := rfl
set_option maxRecDepth 100000 in
theorem b257_29 (call : QC FA) (x1 : Int32) (s0 : Int32) (L : QH FA) (F : Nat) : rnG call 257 (F + 2) 54 [some (vR 0), some (vI x1)] [vI s0, vR 19] L = rnG call 257 F 63 [some (vR 0), some (vI x1)] [vI 1, vI s0, vR 19] L := rfl
set_option maxRecDepth 100000 in
theorem b257_30 (call : QC FA) (x1 : Int32) (L : QH FA) (F : Nat) : rnG call 257 (F + 1) 28 [some (vR 0), some (vI x1)] [] L = rnG call 257 F 29 [some (vR 0), some (vI x1)] [vI ((-1))] L := rfl
set_option maxRecDepth 100000 in
theorem b257_31 (call : QC FA) (x : Int32) (ls : List (Option PV)) (L : QH FA) (F : Nat) : rnG call 257 (F + 1) 29 ls [vI x] L = some (some (vI x), L) := rfl
theorem vc257_0 (d : Nat) (x1 : Int32) (z : Nat → Int32) (f : Nat → FA) (res : Option PV × QH FA) (H : (pin (x1 + 1) 160 = true ∧ (∃ (r1 : Int32) (z1 : Nat → Int32) (f1 : Nat → FA), (mcall (d + 4)) 258 [vR 0, vI 0, vI ((z 6) - 1)] (LR z (uA f 19 (upd (f 19) (ix (x1 + 1)) 0))) = some (some (vI r1), LR z1 f1) ∧ (pin (x1 + 3) 160 = true ∧ (pin (x1 + 3) 160 = true ∧ ((¬ (upd (f1 19) (ix (x1 + 3)) r1) (ix (x1 + 3)) = (-1) → ((¬ z1 15 = 2 → (∃ (r2 : Int32) (z2 : Nat → Int32) (f2 : Nat → FA), (mcall (d + 4)) 208 [vR 0, vI 1] (LR z1 (uA f1 19 (upd (f1 19) (ix (x1 + 3)) r1))) = some (some (vI r2), LR z2 f2) ∧ res = (some (vI r2), LR z2 f2))) ∧ (z1 15 = 2 → (((22 ≤ I (z1 16) ∧ I (z1 16) ≤ 24) → ((¬ z1 16 = 22 → ((¬ z1 16 = 23 → (pin (x1 + 4) 160 = true ∧ (∃ (z3 : Nat → Int32) (f3 : Nat → FA), (mcall (d + 4)) 269 [vR 0] (LR z1 (uA (uA f1 19 (upd (f1 19) (ix (x1 + 3)) r1)) 19 (upd (upd (f1 19) (ix (x1 + 3)) r1) (ix (x1 + 4)) 0))) = some (none, LR z3 f3) ∧ res = (some (vI 0), LR z3 f3)))) ∧ (z1 16 = 23 → (pin (x1 + 4) 160 = true ∧ (∃ (z4 : Nat → Int32) (f4 : Nat → FA), (mcall (d + 4)) 269 [vR 0] (LR z1 (uA (uA f1 19 (upd (f1 19) (ix (x1 + 3)) r1)) 19 (upd (upd (f1 19) (ix (x1 + 3)) r1) (ix (x1 + 4)) ((-1))))) = some (none, LR z4 f4) ∧ res = (some (vI 0), LR z4 f4)))))) ∧ (z1 16 = 22 → (pin (x1 + 4) 160 = true ∧ (∃ (z5 : Nat → Int32) (f5 : Nat → FA), (mcall (d + 4)) 269 [vR 0] (LR z1 (uA (uA f1 19 (upd (f1 19) (ix (x1 + 3)) r1)) 19 (upd (upd (f1 19) (ix (x1 + 3)) r1) (ix (x1 + 4)) 1))) = some (none, LR z5 f5) ∧ res = (some (vI 0), LR z5 f5)))))) ∧ ((¬ (22 ≤ I (z1 16) ∧ I (z1 16) ≤ 24)) → (∃ (r6 : Int32) (z6 : Nat → Int32) (f6 : Nat → FA), (mcall (d + 4)) 208 [vR 0, vI 1] (LR z1 (uA f1 19 (upd (f1 19) (ix (x1 + 3)) r1))) = some (some (vI r6), LR z6 f6) ∧ res = (some (vI r6), LR z6 f6))))))) ∧ ((upd (f1 19) (ix (x1 + 3)) r1) (ix (x1 + 3)) = (-1) → res = (some (vI ((-1))), LR z1 (uA f1 19 (upd (f1 19) (ix (x1 + 3)) r1)))))))))) : RC (mcall (d + 4)) (mP 257) 0 [some (vR 0), some (vI x1)] [] (LR z f) res := by
  refine rc_b (i' := 6) (ls' := [some (vR 0), some (vI x1)]) (st' := [vI 0, vI (x1 + 1), vR 19]) (L' := LR z f) 6 (b257_1 (mcall (d + 4)) x1 z f) ?_
  obtain ⟨g1, H⟩ := H
  refine rc_g (i' := 7) (ls' := [some (vR 0), some (vI x1)]) (st' := []) (L' := LR z (uA f 19 (upd (f 19) (ix (x1 + 1)) 0))) (b257_2 (mcall (d + 4)) (x1 + 1) 0 _ z f) (pinG g1) ?_
  refine rc_b (i' := 18) (ls' := [some (vR 0), some (vI x1)]) (st' := [vI ((z 6) - 1), vI 0, vR 0, vI (x1 + 3), vR 19]) (L' := LR z (uA f 19 (upd (f 19) (ix (x1 + 1)) 0))) 11 (b257_3 (mcall (d + 4)) x1 z (uA f 19 (upd (f 19) (ix (x1 + 1)) 0))) ?_
  obtain ⟨r1, z1, f1, hc, H⟩ := H
  refine rc_call (t := 19) (ls' := [some (vR 0), some (vI x1)]) (st' := [vI (x1 + 3), vR 19]) (b257_4 (mcall (d + 4)) 0 ((z 6) - 1) (x1 + 3) _ z (uA f 19 (upd (f 19) (ix (x1 + 1)) 0))) hc ?_
  show RC (mcall (d + 4)) (mP 257) 19 [some (vR 0), some (vI x1)] [vI r1, vI (x1 + 3), vR 19] (LR z1 f1) res
  obtain ⟨g1, H⟩ := H
  refine rc_g (i' := 20) (ls' := [some (vR 0), some (vI x1)]) (st' := []) (L' := LR z1 (uA f1 19 (upd (f1 19) (ix (x1 + 3)) r1))) (b257_5 (mcall (d + 4)) (x1 + 3) r1 _ z1 f1) (pinG g1) ?_
  refine rc_b (i' := 25) (ls' := [some (vR 0), some (vI x1)]) (st' := [vI (x1 + 3), vR 19]) (L' := LR z1 (uA f1 19 (upd (f1 19) (ix (x1 + 3)) r1))) 5 (b257_6 (mcall (d + 4)) x1 z1 (uA f1 19 (upd (f1 19) (ix (x1 + 3)) r1))) ?_
  obtain ⟨g1, H⟩ := H
  refine rc_g (i' := 26) (ls' := [some (vR 0), some (vI x1)]) (st' := [vI ((upd (f1 19) (ix (x1 + 3)) r1) (ix (x1 + 3)))]) (L' := LR z1 (uA f1 19 (upd (f1 19) (ix (x1 + 3)) r1))) (b257_7 (mcall (d + 4)) (x1 + 3) _ z1 (uA f1 19 (upd (f1 19) (ix (x1 + 3)) r1))) (pinG g1) ?_
  refine rc_b (i' := 27) (ls' := [some (vR 0), some (vI x1)]) (st' := [vI ((-1)), vI ((upd (f1 19) (ix (x1 + 3)) r1) (ix (x1 + 3)))]) (L' := LR z1 (uA f1 19 (upd (f1 19) (ix (x1 + 3)) r1))) 1 (b257_8 (mcall (d + 4)) x1 ((upd (f1 19) (ix (x1 + 3)) r1) (ix (x1 + 3))) _) ?_
  refine rc_if (it := 30) (ie := 28) (ls' := [some (vR 0), some (vI x1)]) (st' := []) (b257_9 (mcall (d + 4)) ((upd (f1 19) (ix (x1 + 3)) r1) (ix (x1 + 3))) ((-1)) _ _) (fun q1 => ?_) (fun q1 => ?_)
  · have H := H.1 (cI1t q1)
    refine rc_b (i' := 33) (ls' := [some (vR 0), some (vI x1)]) (st' := [vI 2, vI (z1 15)]) (L' := LR z1 (uA f1 19 (upd (f1 19) (ix (x1 + 3)) r1))) 3 (b257_10 (mcall (d + 4)) x1 z1 (uA f1 19 (upd (f1 19) (ix (x1 + 3)) r1))) ?_
    refine rc_if (it := 41) (ie := 34) (ls' := [some (vR 0), some (vI x1)]) (st' := []) (b257_11 (mcall (d + 4)) (z1 15) 2 _ _) (fun q2 => ?_) (fun q2 => ?_)
    · have H := H.1 (cI1t q2)
      refine rc_b (i' := 43) (ls' := [some (vR 0), some (vI x1)]) (st' := [vI 1, vR 0]) (L' := LR z1 (uA f1 19 (upd (f1 19) (ix (x1 + 3)) r1))) 2 (b257_12 (mcall (d + 4)) x1 _) ?_
      obtain ⟨r2, z2, f2, hc, H⟩ := H
      refine rc_call (t := 44) (ls' := [some (vR 0), some (vI x1)]) (st' := []) (b257_13 (mcall (d + 4)) 1 _ z1 (uA f1 19 (upd (f1 19) (ix (x1 + 3)) r1))) hc ?_
      show RC (mcall (d + 4)) (mP 257) 44 [some (vR 0), some (vI x1)] [vI r2] (LR z2 f2) res
      subst H
      exact rc_ret (b257_14 (mcall (d + 4)) _ _ _)
    · have H := H.2 (cI1f q2)
      refine rc_b (i' := 39) (ls' := [some (vR 0), some (vI x1)]) (st' := [vI 24, vI 22, vI (z1 16), vR 0]) (L' := LR z1 (uA f1 19 (upd (f1 19) (ix (x1 + 3)) r1))) 5 (b257_15 (mcall (d + 4)) x1 z1 (uA f1 19 (upd (f1 19) (ix (x1 + 3)) r1))) ?_
      refine rc_call (t := 40) (ls' := [some (vR 0), some (vI x1)]) (st' := []) (b257_16 (mcall (d + 4)) (z1 16) 22 24 _ z1 (uA f1 19 (upd (f1 19) (ix (x1 + 3)) r1))) (isIn_r _ (z1 16) 22 24 z1 (uA f1 19 (upd (f1 19) (ix (x1 + 3)) r1))) ?_
      show RC (mcall (d + 4)) (mP 257) 40 [some (vR 0), some (vI x1)] [vI (bI (22 ≤ I (z1 16) ∧ I (z1 16) ≤ 24))] (LR z1 (uA f1 19 (upd (f1 19) (ix (x1 + 3)) r1))) res
      refine rc_bn (it := 45) (ie := 41) (ls' := [some (vR 0), some (vI x1)]) (st' := []) (b257_17 (mcall (d + 4)) (bI (22 ≤ I (z1 16) ∧ I (z1 16) ≤ 24)) _ _) (fun q3 => ?_) (fun q3 => ?_)
      · have H := H.1 q3
        refine rc_b (i' := 53) (ls' := [some (vR 0), some (vI x1)]) (st' := [vI 22, vI (z1 16), vI (x1 + 4), vR 19]) (L' := LR z1 (uA f1 19 (upd (f1 19) (ix (x1 + 3)) r1))) 8 (b257_18 (mcall (d + 4)) x1 z1 (uA f1 19 (upd (f1 19) (ix (x1 + 3)) r1))) ?_
        refine rc_if (it := 56) (ie := 54) (ls' := [some (vR 0), some (vI x1)]) (st' := [vI (x1 + 4), vR 19]) (b257_19 (mcall (d + 4)) (z1 16) 22 (x1 + 4) _ _) (fun q4 => ?_) (fun q4 => ?_)
        · have H := H.1 (cI1t q4)
          refine rc_b (i' := 59) (ls' := [some (vR 0), some (vI x1)]) (st' := [vI 23, vI (z1 16), vI (x1 + 4), vR 19]) (L' := LR z1 (uA f1 19 (upd (f1 19) (ix (x1 + 3)) r1))) 3 (b257_20 (mcall (d + 4)) x1 (x1 + 4) z1 (uA f1 19 (upd (f1 19) (ix (x1 + 3)) r1))) ?_
          refine rc_if (it := 62) (ie := 60) (ls' := [some (vR 0), some (vI x1)]) (st' := [vI (x1 + 4), vR 19]) (b257_21 (mcall (d + 4)) (z1 16) 23 (x1 + 4) _ _) (fun q5 => ?_) (fun q5 => ?_)
          · have H := H.1 (cI1t q5)
            refine rc_b (i' := 63) (ls' := [some (vR 0), some (vI x1)]) (st' := [vI 0, vI (x1 + 4), vR 19]) (L' := LR z1 (uA f1 19 (upd (f1 19) (ix (x1 + 3)) r1))) 1 (b257_22 (mcall (d + 4)) x1 (x1 + 4) _) ?_
            obtain ⟨g1, H⟩ := H
            refine rc_g (i' := 64) (ls' := [some (vR 0), some (vI x1)]) (st' := []) (L' := LR z1 (uA (uA f1 19 (upd (f1 19) (ix (x1 + 3)) r1)) 19 (upd (upd (f1 19) (ix (x1 + 3)) r1) (ix (x1 + 4)) 0))) (b257_23 (mcall (d + 4)) (x1 + 4) 0 _ z1 (uA f1 19 (upd (f1 19) (ix (x1 + 3)) r1))) (pinG g1) ?_
            refine rc_b (i' := 65) (ls' := [some (vR 0), some (vI x1)]) (st' := [vR 0]) (L' := LR z1 (uA (uA f1 19 (upd (f1 19) (ix (x1 + 3)) r1)) 19 (upd (upd (f1 19) (ix (x1 + 3)) r1) (ix (x1 + 4)) 0))) 1 (b257_24 (mcall (d + 4)) x1 _) ?_
            obtain ⟨z3, f3, hc, H⟩ := H
            refine rc_call (t := 66) (ls' := [some (vR 0), some (vI x1)]) (st' := []) (b257_25 (mcall (d + 4)) _ z1 (uA (uA f1 19 (upd (f1 19) (ix (x1 + 3)) r1)) 19 (upd (upd (f1 19) (ix (x1 + 3)) r1) (ix (x1 + 4)) 0))) hc ?_
            show RC (mcall (d + 4)) (mP 257) 66 [some (vR 0), some (vI x1)] [] (LR z3 f3) res
            refine rc_b (i' := 67) (ls' := [some (vR 0), some (vI x1)]) (st' := [vI 0]) (L' := LR z3 f3) 1 (b257_26 (mcall (d + 4)) x1 _) ?_
            subst H
            exact rc_ret (b257_27 (mcall (d + 4)) _ _ _)
          · have H := H.2 (cI1f q5)
            refine rc_b (i' := 63) (ls' := [some (vR 0), some (vI x1)]) (st' := [vI ((-1)), vI (x1 + 4), vR 19]) (L' := LR z1 (uA f1 19 (upd (f1 19) (ix (x1 + 3)) r1))) 2 (b257_28 (mcall (d + 4)) x1 (x1 + 4) _) ?_
            obtain ⟨g1, H⟩ := H
            refine rc_g (i' := 64) (ls' := [some (vR 0), some (vI x1)]) (st' := []) (L' := LR z1 (uA (uA f1 19 (upd (f1 19) (ix (x1 + 3)) r1)) 19 (upd (upd (f1 19) (ix (x1 + 3)) r1) (ix (x1 + 4)) ((-1))))) (b257_23 (mcall (d + 4)) (x1 + 4) ((-1)) _ z1 (uA f1 19 (upd (f1 19) (ix (x1 + 3)) r1))) (pinG g1) ?_
            refine rc_b (i' := 65) (ls' := [some (vR 0), some (vI x1)]) (st' := [vR 0]) (L' := LR z1 (uA (uA f1 19 (upd (f1 19) (ix (x1 + 3)) r1)) 19 (upd (upd (f1 19) (ix (x1 + 3)) r1) (ix (x1 + 4)) ((-1))))) 1 (b257_24 (mcall (d + 4)) x1 _) ?_
            obtain ⟨z4, f4, hc, H⟩ := H
            refine rc_call (t := 66) (ls' := [some (vR 0), some (vI x1)]) (st' := []) (b257_25 (mcall (d + 4)) _ z1 (uA (uA f1 19 (upd (f1 19) (ix (x1 + 3)) r1)) 19 (upd (upd (f1 19) (ix (x1 + 3)) r1) (ix (x1 + 4)) ((-1))))) hc ?_
            show RC (mcall (d + 4)) (mP 257) 66 [some (vR 0), some (vI x1)] [] (LR z4 f4) res
            refine rc_b (i' := 67) (ls' := [some (vR 0), some (vI x1)]) (st' := [vI 0]) (L' := LR z4 f4) 1 (b257_26 (mcall (d + 4)) x1 _) ?_
            subst H
            exact rc_ret (b257_27 (mcall (d + 4)) _ _ _)
        · have H := H.2 (cI1f q4)
          refine rc_b (i' := 63) (ls' := [some (vR 0), some (vI x1)]) (st' := [vI 1, vI (x1 + 4), vR 19]) (L' := LR z1 (uA f1 19 (upd (f1 19) (ix (x1 + 3)) r1))) 2 (b257_29 (mcall (d + 4)) x1 (x1 + 4) _) ?_
          obtain ⟨g1, H⟩ := H
          refine rc_g (i' := 64) (ls' := [some (vR 0), some (vI x1)]) (st' := []) (L' := LR z1 (uA (uA f1 19 (upd (f1 19) (ix (x1 + 3)) r1)) 19 (upd (upd (f1 19) (ix (x1 + 3)) r1) (ix (x1 + 4)) 1))) (b257_23 (mcall (d + 4)) (x1 + 4) 1 _ z1 (uA f1 19 (upd (f1 19) (ix (x1 + 3)) r1))) (pinG g1) ?_
          refine rc_b (i' := 65) (ls' := [some (vR 0), some (vI x1)]) (st' := [vR 0]) (L' := LR z1 (uA (uA f1 19 (upd (f1 19) (ix (x1 + 3)) r1)) 19 (upd (upd (f1 19) (ix (x1 + 3)) r1) (ix (x1 + 4)) 1))) 1 (b257_24 (mcall (d + 4)) x1 _) ?_
          obtain ⟨z5, f5, hc, H⟩ := H
          refine rc_call (t := 66) (ls' := [some (vR 0), some (vI x1)]) (st' := []) (b257_25 (mcall (d + 4)) _ z1 (uA (uA f1 19 (upd (f1 19) (ix (x1 + 3)) r1)) 19 (upd (upd (f1 19) (ix (x1 + 3)) r1) (ix (x1 + 4)) 1))) hc ?_
          show RC (mcall (d + 4)) (mP 257) 66 [some (vR 0), some (vI x1)] [] (LR z5 f5) res
          refine rc_b (i' := 67) (ls' := [some (vR 0), some (vI x1)]) (st' := [vI 0]) (L' := LR z5 f5) 1 (b257_26 (mcall (d + 4)) x1 _) ?_
          subst H
          exact rc_ret (b257_27 (mcall (d + 4)) _ _ _)
      · have H := H.2 q3
        refine rc_b (i' := 43) (ls' := [some (vR 0), some (vI x1)]) (st' := [vI 1, vR 0]) (L' := LR z1 (uA f1 19 (upd (f1 19) (ix (x1 + 3)) r1))) 2 (b257_12 (mcall (d + 4)) x1 _) ?_
        obtain ⟨r6, z6, f6, hc, H⟩ := H
        refine rc_call (t := 44) (ls' := [some (vR 0), some (vI x1)]) (st' := []) (b257_13 (mcall (d + 4)) 1 _ z1 (uA f1 19 (upd (f1 19) (ix (x1 + 3)) r1))) hc ?_
        show RC (mcall (d + 4)) (mP 257) 44 [some (vR 0), some (vI x1)] [vI r6] (LR z6 f6) res
        subst H
        exact rc_ret (b257_14 (mcall (d + 4)) _ _ _)
  · have H := H.2 (cI1f q1)
    refine rc_b (i' := 29) (ls' := [some (vR 0), some (vI x1)]) (st' := [vI ((-1))]) (L' := LR z1 (uA f1 19 (upd (f1 19) (ix (x1 + 3)) r1))) 1 (b257_30 (mcall (d + 4)) x1 _) ?_
    subst H
    exact rc_ret (b257_31 (mcall (d + 4)) _ _ _)
theorem readMind_r (d0 : Nat) {t a n : Nat} {z : Nat → Int32} {f : Nat → FA} (hn : n < 16) (hz : BNDz z) (h : TS t a z f) (hB : BNDf f) : ∃ r z' f' a', mcall (d0 + 6) 257 [vR 0, vI (nI (80 + 5 * n))] (LR z f) = some (some (vI r), LR z' f') ∧ DFr 19 (80 + 5 * n) 5 z f z' f' ∧ TS t a' z' f' ∧ a ≤ a' ∧ BNDf f' ∧ (∀ c, c = 0 ∨ c = 2 → f' 19 (80 + 5 * n + c) = f 19 (80 + 5 * n + c)) ∧ (r = -1 ∨ GD f' n) := by
  have go : ∀ res, _ → mcall (d0 + 6) 257 [vR 0, vI (nI (80 + 5 * n))] (LR z f) = some res := fun res H => mcall_i (mq257 (cu := [])).2.2 rfl (vc257_0 (d0 + 1) _ z f res H)
  have e1 : nI (80 + 5 * n) + 1 = nI (80 + 5 * n + 1) := nI_add _ 1
  have e3 : nI (80 + 5 * n) + 3 = nI (80 + 5 * n + 3) := nI_add _ 3
  have e4 : nI (80 + 5 * n) + 4 = nI (80 + 5 * n + 4) := nI_add _ 4
  rw [e1, e3, e4] at go
  rw [ix_nI (j := 80 + 5 * n + 1) (by omega), ix_nI (j := 80 + 5 * n + 3) (by omega), ix_nI (j := 80 + 5 * n + 4) (by omega)] at go
  have hv := vot_I hz
  have B0 := w19_1 (x := 0) hB hn (by decide) (by decide)
  obtain ⟨r1, z1, a1, u1, u2, u3, u4, u5⟩ := readNumber_r (d0 + 1) (f := uA f 19 (upd (f 19) (80 + 5 * n + 1) 0)) 0 (z 6 - 1) (h.fk (by decide))
  obtain ⟨b1, b2, b3⟩ := res_I u5 (by decide)
  have B1 := w19_3 (x := r1) B0 hn (by omega) (by omega)
  have D1 : DFr 19 (80 + 5 * n) 5 z f z1 (uA (uA f 19 (upd (f 19) (80 + 5 * n + 1) 0)) 19 (upd ((uA f 19 (upd (f 19) (80 + 5 * n + 1) 0)) 19) (80 + 5 * n + 3) r1)) := (DFr.w (by omega) (by omega)).trans ((DFr.z u2).trans (DFr.w (by omega) (by omega)))
  have K2 : ∀ (x : Int32) c, c = 0 ∨ c = 2 → uA (uA f 19 (upd (f 19) (80 + 5 * n + 1) 0)) 19 (upd ((uA f 19 (upd (f 19) (80 + 5 * n + 1) 0)) 19) (80 + 5 * n + 3) r1) 19 (80 + 5 * n + c) = f 19 (80 + 5 * n + c) := fun _ c hc => by rw [uA_self, pk_un (by omega), uA_self, pk_un (by omega)]
  have C1 := u3.fk (k := 19) (g := upd ((uA f 19 (upd (f 19) (80 + 5 * n + 1) 0)) 19) (80 + 5 * n + 3) r1) (by decide)
  by_cases c1 : r1 = -1
  · exact ⟨-1, z1, _, a1, go _ ⟨pin_nI (by omega) (by omega), r1, z1, _, u1, pin_nI (by omega) (by omega), pin_nI (by omega) (by omega), fun q => absurd (by rw [pk_us]; exact c1) q, fun _ => rfl⟩, D1, C1, u4, B1, K2 0, Or.inl rfl⟩
  · by_cases c2 : z1 15 = 2
    · by_cases c3 : 22 ≤ I (z1 16) ∧ I (z1 16) ≤ 24
      · have fin : ∀ x : Int32, -1 ≤ I x → I x ≤ 11 → ∃ z' a', mcall (d0 + 5) 269 [vR 0] (LR z1 (uA (uA (uA f 19 (upd (f 19) (80 + 5 * n + 1) 0)) 19 (upd ((uA f 19 (upd (f 19) (80 + 5 * n + 1) 0)) 19) (80 + 5 * n + 3) r1)) 19 (upd (upd ((uA f 19 (upd (f 19) (80 + 5 * n + 1) 0)) 19) (80 + 5 * n + 3) r1) (80 + 5 * n + 4) x))) = some (none, LR z' (uA (uA (uA f 19 (upd (f 19) (80 + 5 * n + 1) 0)) 19 (upd ((uA f 19 (upd (f 19) (80 + 5 * n + 1) 0)) 19) (80 + 5 * n + 3) r1)) 19 (upd (upd ((uA f 19 (upd (f 19) (80 + 5 * n + 1) 0)) 19) (80 + 5 * n + 3) r1) (80 + 5 * n + 4) x))) ∧ DFr 19 (80 + 5 * n) 5 z f z' (uA (uA (uA f 19 (upd (f 19) (80 + 5 * n + 1) 0)) 19 (upd ((uA f 19 (upd (f 19) (80 + 5 * n + 1) 0)) 19) (80 + 5 * n + 3) r1)) 19 (upd (upd ((uA f 19 (upd (f 19) (80 + 5 * n + 1) 0)) 19) (80 + 5 * n + 3) r1) (80 + 5 * n + 4) x)) ∧ TS t a' z' (uA (uA (uA f 19 (upd (f 19) (80 + 5 * n + 1) 0)) 19 (upd ((uA f 19 (upd (f 19) (80 + 5 * n + 1) 0)) 19) (80 + 5 * n + 3) r1)) 19 (upd (upd ((uA f 19 (upd (f 19) (80 + 5 * n + 1) 0)) 19) (80 + 5 * n + 3) r1) (80 + 5 * n + 4) x)) ∧ a ≤ a' ∧ BNDf (uA (uA (uA f 19 (upd (f 19) (80 + 5 * n + 1) 0)) 19 (upd ((uA f 19 (upd (f 19) (80 + 5 * n + 1) 0)) 19) (80 + 5 * n + 3) r1)) 19 (upd (upd ((uA f 19 (upd (f 19) (80 + 5 * n + 1) 0)) 19) (80 + 5 * n + 3) r1) (80 + 5 * n + 4) x)) := by
          intro x x1 x2
          have C2 := C1.fk (k := 19) (g := upd (upd ((uA f 19 (upd (f 19) (80 + 5 * n + 1) 0)) 19) (80 + 5 * n + 3) r1) (80 + 5 * n + 4) x) (by decide)
          obtain ⟨z2, a2, g1, g2, g3, g4⟩ := rd_c (d0 + 2) C2 (by rw [c2]; decide)
          have B2 := w19_4 (x := x) B1 hn x1 x2
          rw [uA_self] at B2
          exact ⟨z2, a2, g1, D1.trans ((DFr.w (i := 80 + 5 * n + 4) (x := x) (by omega) (by omega) : DFr 19 (80 + 5 * n) 5 z1 (uA (uA f 19 (upd (f 19) (80 + 5 * n + 1) 0)) 19 (upd ((uA f 19 (upd (f 19) (80 + 5 * n + 1) 0)) 19) (80 + 5 * n + 3) r1)) z1 _).trans (DFr.z g4.n)), g2.weak (by omega), by omega, B2⟩
        have K4 : ∀ (x : Int32) c, c = 0 ∨ c = 2 → uA (uA (uA f 19 (upd (f 19) (80 + 5 * n + 1) 0)) 19 (upd ((uA f 19 (upd (f 19) (80 + 5 * n + 1) 0)) 19) (80 + 5 * n + 3) r1)) 19 (upd (upd ((uA f 19 (upd (f 19) (80 + 5 * n + 1) 0)) 19) (80 + 5 * n + 3) r1) (80 + 5 * n + 4) x) 19 (80 + 5 * n + c) = f 19 (80 + 5 * n + c) := fun x c hc => by rw [uA_self, pk_un (by omega), pk_un (by omega), uA_self, pk_un (by omega)]
        have K5 : ∀ x : Int32, GD (uA (uA (uA f 19 (upd (f 19) (80 + 5 * n + 1) 0)) 19 (upd ((uA f 19 (upd (f 19) (80 + 5 * n + 1) 0)) 19) (80 + 5 * n + 3) r1)) 19 (upd (upd ((uA f 19 (upd (f 19) (80 + 5 * n + 1) 0)) 19) (80 + 5 * n + 3) r1) (80 + 5 * n + 4) x)) n := fun x => by
          refine ⟨?_, ?_⟩
          · rw [uA_self, pk_un (by omega), pk_un (by omega), uA_self, pk_us]
            exact inb_J (by decide) (by decide)
          · rw [uA_self, pk_un (by omega), pk_us]
            rcases b2 with b2 | b2
            · exact absurd b2 c1
            · exact inb_J (by omega) (by omega)
        by_cases c4 : z1 16 = 22
        · obtain ⟨z2, a2, g1, g2, g3, g4, g5⟩ := fin 1 (by decide) (by decide)
          exact ⟨0, z2, _, a2, go _ ⟨pin_nI (by omega) (by omega), r1, z1, _, u1, pin_nI (by omega) (by omega), pin_nI (by omega) (by omega), fun _ => ⟨fun q => absurd c2 q, fun _ => ⟨fun _ => ⟨fun q => absurd c4 q, fun _ => ⟨pin_nI (by omega) (by omega), z2, _, g1, rfl⟩⟩, fun q => absurd c3 q⟩⟩, fun q => absurd (by rw [pk_us] at q; exact q) c1⟩, g2, g3, g4, g5, K4 1, Or.inr (K5 1)⟩
        · by_cases c5 : z1 16 = 23
          · obtain ⟨z2, a2, g1, g2, g3, g4, g5⟩ := fin (-1) (by decide) (by decide)
            exact ⟨0, z2, _, a2, go _ ⟨pin_nI (by omega) (by omega), r1, z1, _, u1, pin_nI (by omega) (by omega), pin_nI (by omega) (by omega), fun _ => ⟨fun q => absurd c2 q, fun _ => ⟨fun _ => ⟨fun _ => ⟨fun q => absurd c5 q, fun _ => ⟨pin_nI (by omega) (by omega), z2, _, g1, rfl⟩⟩, fun q => absurd q c4⟩, fun q => absurd c3 q⟩⟩, fun q => absurd (by rw [pk_us] at q; exact q) c1⟩, g2, g3, g4, g5, K4 (-1), Or.inr (K5 (-1))⟩
          · obtain ⟨z2, a2, g1, g2, g3, g4, g5⟩ := fin 0 (by decide) (by decide)
            exact ⟨0, z2, _, a2, go _ ⟨pin_nI (by omega) (by omega), r1, z1, _, u1, pin_nI (by omega) (by omega), pin_nI (by omega) (by omega), fun _ => ⟨fun q => absurd c2 q, fun _ => ⟨fun _ => ⟨fun _ => ⟨fun _ => ⟨pin_nI (by omega) (by omega), z2, _, g1, rfl⟩, fun q => absurd q c5⟩, fun q => absurd q c4⟩, fun q => absurd c3 q⟩⟩, fun q => absurd (by rw [pk_us] at q; exact q) c1⟩, g2, g3, g4, g5, K4 0, Or.inr (K5 0)⟩
      · exact ⟨-1, _, _, a1, go _ ⟨pin_nI (by omega) (by omega), r1, z1, _, u1, pin_nI (by omega) (by omega), pin_nI (by omega) (by omega), fun _ => ⟨fun q => absurd c2 q, fun _ => ⟨fun q => absurd q c3, fun _ => ⟨-1, _, _, errs_r (d0 + 4) 1 z1 _, rfl⟩⟩⟩, fun q => absurd (by rw [pk_us] at q; exact q) c1⟩, D1.trans (DFr.z RNz.er), C1.er, u4, B1, K2 0, Or.inl rfl⟩
    · exact ⟨-1, _, _, a1, go _ ⟨pin_nI (by omega) (by omega), r1, z1, _, u1, pin_nI (by omega) (by omega), pin_nI (by omega) (by omega), fun _ => ⟨fun _ => ⟨-1, _, _, errs_r (d0 + 4) 1 z1 _, rfl⟩, fun q => absurd q c2⟩, fun q => absurd (by rw [pk_us] at q; exact q) c1⟩, D1.trans (DFr.z RNz.er), C1.er, u4, B1, K2 0, Or.inl rfl⟩
