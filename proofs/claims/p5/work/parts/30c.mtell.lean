/-! telling, on the reference's side -/
theorem nI_ne {a b : Nat} (ha : a < 2147483648) (hb : b < 2147483648) (h : a ≠ b) : ¬ nI a = nI b := fun q => h (nI_inj ha hb q)
set_option maxRecDepth 100000 in
theorem b247_1 (call : QC FA) (x1 : Int32) (L : QH FA) (F : Nat) : rnG call 247 (F + 2) 0 [some (vR 0), some (vI x1)] [] L = rnG call 247 F 2 [some (vR 0), some (vI x1)] [vI 0, vR 0] L := rfl
set_option maxRecDepth 100000 in
theorem b247_2 (call : QC FA) (y : Int32) (ls : List (Option PV)) (z : Nat → Int32) (f : Nat → FA) (F : Nat) : rnG call 247 (F + 1) 2 ls [vI y, vR 0] (LR z f) = rnG call 247 F 3 ls [] (LR (uZ z 0 y) f) := rfl
set_option maxRecDepth 100000 in
theorem b247_3 (call : QC FA) (x1 : Int32) (L : QH FA) (F : Nat) : rnG call 247 (F + 2) 3 [some (vR 0), some (vI x1)] [] L = rnG call 247 F 5 [some (vR 0), some (vI x1)] [vI ((-1)), vI x1] L := rfl
set_option maxRecDepth 100000 in
theorem b247_4 (call : QC FA) (x y : Int32) (ls : List (Option PV)) (L : QH FA) (F : Nat) : rnG call 247 (F + 1) 5 ls [vI y, vI x] L = bif pcmp 1 x y then rnG call 247 F 11 ls [] L else rnG call 247 F 6 ls [] L := rfl
set_option maxRecDepth 100000 in
theorem b247_5 (call : QC FA) (x1 : Int32) (L : QH FA) (F : Nat) : rnG call 247 (F + 4) 11 [some (vR 0), some (vI x1)] [] L = rnG call 247 F 15 [some (vR 0), some (vI x1)] [vI 999, vI 0, vI x1, vR 0] L := rfl
set_option maxRecDepth 100000 in
theorem b247_6 (call : QC FA) (a0 : Int32) (a1 : Int32) (a2 : Int32) (ls : List (Option PV)) (z : Nat → Int32) (f : Nat → FA) (F : Nat) : rnG call 247 (F + 1) 15 ls [vI a2, vI a1, vI a0, vR 0] (LR z f) = cbd (call 47 [vR 0, vI a0, vI a1, vI a2] (LR z f)) (fun r L' => rnG call 247 F 16 ls (r.toList ++ []) L') := pcY (ih := rnG call 247 F) (call := call) (a := 47) (b := 3) (v := 12) (t := 16) (x := 0) (ls := ls) (As := [vI a0, vI a1, vI a2]) (st' := []) (L := LR z f) rfl rfl rfl
set_option maxRecDepth 100000 in
theorem b247_7 (call : QC FA) (x : Int32) (ls : List (Option PV)) (L : QH FA) (F : Nat) : rnG call 247 (F + 1) 16 ls [vI x] L = bif pcmp 0 x 0 then rnG call 247 F 21 ls [] L else rnG call 247 F 17 ls [] L := rfl
set_option maxRecDepth 100000 in
theorem b247_8 (call : QC FA) (x1 : Int32) (L : QH FA) (F : Nat) : rnG call 247 (F + 1) 21 [some (vR 0), some (vI x1)] [] L = rnG call 247 F 22 [some (vR 0), some (vI x1)] [vI ((-1))] L := rfl
set_option maxRecDepth 100000 in
theorem b247_9 (call : QC FA) (x : Int32) (ls : List (Option PV)) (L : QH FA) (F : Nat) : rnG call 247 (F + 1) 22 ls [vI x] L = some (some (vI x), L) := rfl
set_option maxRecDepth 100000 in
theorem b247_10 (call : QC FA) (x1 : Int32) (z : Nat → Int32) (f : Nat → FA) (F : Nat) : rnG call 247 (F + 3) 17 [some (vR 0), some (vI x1)] [] (LR z f) = rnG call 247 F 20 [some (vR 0), some (vI x1)] [vI 6, vI (z 43)] (LR z f) := rfl
set_option maxRecDepth 100000 in
theorem b247_11 (call : QC FA) (x y : Int32) (ls : List (Option PV)) (L : QH FA) (F : Nat) : rnG call 247 (F + 1) 20 ls [vI y, vI x] L = bif pcmp 1 x y then rnG call 247 F 23 ls [] L else rnG call 247 F 21 ls [] L := rfl
set_option maxRecDepth 100000 in
theorem b247_12 (call : QC FA) (x1 : Int32) (z : Nat → Int32) (f : Nat → FA) (F : Nat) : rnG call 247 (F + 5) 23 [some (vR 0), some (vI x1)] [] (LR z f) = rnG call 247 F 28 [some (vR 0), some (vI x1)] [vI x1, vI (z 43), vR 24] (LR z f) := rfl
set_option maxRecDepth 100000 in
theorem b247_13 (call : QC FA) (x y : Int32) (ls : List (Option PV)) (z : Nat → Int32) (f : Nat → FA) (F : Nat) : rnG call 247 (F + 1) 28 ls [vI y, vI x, vR 24] (LR z f) = bif (Nat.beq 0 0 && pin x 6) then rnG call 247 F 29 ls [] (LR z (uA f 24 (upd (f 24) (ix x) y))) else none := rfl
set_option maxRecDepth 100000 in
theorem b247_14 (call : QC FA) (x1 : Int32) (z : Nat → Int32) (f : Nat → FA) (F : Nat) : rnG call 247 (F + 5) 29 [some (vR 0), some (vI x1)] [] (LR z f) = rnG call 247 F 34 [some (vR 0), some (vI x1)] [vI ((z 43) + 1), vR 0] (LR z f) := rfl
set_option maxRecDepth 100000 in
theorem b247_15 (call : QC FA) (y : Int32) (ls : List (Option PV)) (z : Nat → Int32) (f : Nat → FA) (F : Nat) : rnG call 247 (F + 1) 34 ls [vI y, vR 0] (LR z f) = rnG call 247 F 35 ls [] (LR (uZ z 43 y) f) := rfl
set_option maxRecDepth 100000 in
theorem b247_16 (call : QC FA) (x1 : Int32) (z : Nat → Int32) (f : Nat → FA) (F : Nat) : rnG call 247 (F + 2) 35 [some (vR 0), some (vI x1)] [] (LR z f) = rnG call 247 F 37 [some (vR 0), some (vI x1)] [vI (z 43)] (LR z f) := rfl
set_option maxRecDepth 100000 in
theorem b247_17 (call : QC FA) (x : Int32) (ls : List (Option PV)) (L : QH FA) (F : Nat) : rnG call 247 (F + 1) 37 ls [vI x] L = some (some (vI x), L) := rfl
set_option maxRecDepth 100000 in
theorem b247_18 (call : QC FA) (x1 : Int32) (L : QH FA) (F : Nat) : rnG call 247 (F + 2) 6 [some (vR 0), some (vI x1)] [] L = rnG call 247 F 8 [some (vR 0), some (vI x1)] [vI 0, vR 0] L := rfl
set_option maxRecDepth 100000 in
theorem b247_19 (call : QC FA) (y : Int32) (ls : List (Option PV)) (z : Nat → Int32) (f : Nat → FA) (F : Nat) : rnG call 247 (F + 1) 8 ls [vI y, vR 0] (LR z f) = rnG call 247 F 9 ls [] (LR (uZ z 43 y) f) := rfl
set_option maxRecDepth 100000 in
theorem b247_20 (call : QC FA) (x1 : Int32) (L : QH FA) (F : Nat) : rnG call 247 (F + 1) 9 [some (vR 0), some (vI x1)] [] L = rnG call 247 F 10 [some (vR 0), some (vI x1)] [vI 0] L := rfl
set_option maxRecDepth 100000 in
theorem b247_21 (call : QC FA) (x : Int32) (ls : List (Option PV)) (L : QH FA) (F : Nat) : rnG call 247 (F + 1) 10 ls [vI x] L = some (some (vI x), L) := rfl
theorem vc247_0 (d : Nat) (x1 : Int32) (z : Nat → Int32) (f : Nat → FA) (res : Option PV × QH FA) (H : ((¬ x1 = (-1) → (((0 ≤ I x1 ∧ I x1 ≤ 999) → ((¬ z 43 = 6 → (pin (z 43) 6 = true ∧ res = (some (vI ((z 43) + 1)), LR (uZ (uZ z 0 0) 43 ((z 43) + 1)) (uA f 24 (upd (f 24) (ix (z 43)) x1))))) ∧ (z 43 = 6 → res = (some (vI ((-1))), LR (uZ z 0 0) f)))) ∧ ((¬ (0 ≤ I x1 ∧ I x1 ≤ 999)) → res = (some (vI ((-1))), LR (uZ z 0 0) f)))) ∧ (x1 = (-1) → res = (some (vI 0), LR (uZ (uZ z 0 0) 43 0) f)))) : RC (mcall (d + 1)) (mP 247) 0 [some (vR 0), some (vI x1)] [] (LR z f) res := by
  refine rc_b (i' := 2) (ls' := [some (vR 0), some (vI x1)]) (st' := [vI 0, vR 0]) (L' := LR z f) 2 (b247_1 (mcall (d + 1)) x1 _) ?_
  refine rc_b (i' := 3) (ls' := [some (vR 0), some (vI x1)]) (st' := []) (L' := LR (uZ z 0 0) f) 1 (b247_2 (mcall (d + 1)) 0 _ z f) ?_
  refine rc_b (i' := 5) (ls' := [some (vR 0), some (vI x1)]) (st' := [vI ((-1)), vI x1]) (L' := LR (uZ z 0 0) f) 2 (b247_3 (mcall (d + 1)) x1 _) ?_
  refine rc_if (it := 11) (ie := 6) (ls' := [some (vR 0), some (vI x1)]) (st' := []) (b247_4 (mcall (d + 1)) x1 ((-1)) _ _) (fun q1 => ?_) (fun q1 => ?_)
  · have H := H.1 (cI1t q1)
    refine rc_b (i' := 15) (ls' := [some (vR 0), some (vI x1)]) (st' := [vI 999, vI 0, vI x1, vR 0]) (L' := LR (uZ z 0 0) f) 4 (b247_5 (mcall (d + 1)) x1 _) ?_
    refine rc_call (t := 16) (ls' := [some (vR 0), some (vI x1)]) (st' := []) (b247_6 (mcall (d + 1)) x1 0 999 _ (uZ z 0 0) f) (isIn_r _ x1 0 999 (uZ z 0 0) f) ?_
    show RC (mcall (d + 1)) (mP 247) 16 [some (vR 0), some (vI x1)] [vI (bI (0 ≤ I x1 ∧ I x1 ≤ 999))] (LR (uZ z 0 0) f) res
    refine rc_bz (it := 21) (ie := 17) (ls' := [some (vR 0), some (vI x1)]) (st' := []) (b247_7 (mcall (d + 1)) (bI (0 ≤ I x1 ∧ I x1 ≤ 999)) _ _) (fun q2 => ?_) (fun q2 => ?_)
    · have H := H.2 q2
      refine rc_b (i' := 22) (ls' := [some (vR 0), some (vI x1)]) (st' := [vI ((-1))]) (L' := LR (uZ z 0 0) f) 1 (b247_8 (mcall (d + 1)) x1 _) ?_
      subst H
      exact rc_ret (b247_9 (mcall (d + 1)) _ _ _)
    · have H := H.1 q2
      refine rc_b (i' := 20) (ls' := [some (vR 0), some (vI x1)]) (st' := [vI 6, vI (z 43)]) (L' := LR (uZ z 0 0) f) 3 (b247_10 (mcall (d + 1)) x1 (uZ z 0 0) f) ?_
      refine rc_if (it := 23) (ie := 21) (ls' := [some (vR 0), some (vI x1)]) (st' := []) (b247_11 (mcall (d + 1)) (z 43) 6 _ _) (fun q3 => ?_) (fun q3 => ?_)
      · have H := H.1 (cI1t q3)
        refine rc_b (i' := 28) (ls' := [some (vR 0), some (vI x1)]) (st' := [vI x1, vI (z 43), vR 24]) (L' := LR (uZ z 0 0) f) 5 (b247_12 (mcall (d + 1)) x1 (uZ z 0 0) f) ?_
        obtain ⟨g1, H⟩ := H
        refine rc_g (i' := 29) (ls' := [some (vR 0), some (vI x1)]) (st' := []) (L' := LR (uZ z 0 0) (uA f 24 (upd (f 24) (ix (z 43)) x1))) (b247_13 (mcall (d + 1)) (z 43) x1 _ (uZ z 0 0) f) (pinG g1) ?_
        refine rc_b (i' := 34) (ls' := [some (vR 0), some (vI x1)]) (st' := [vI ((z 43) + 1), vR 0]) (L' := LR (uZ z 0 0) (uA f 24 (upd (f 24) (ix (z 43)) x1))) 5 (b247_14 (mcall (d + 1)) x1 (uZ z 0 0) (uA f 24 (upd (f 24) (ix (z 43)) x1))) ?_
        refine rc_b (i' := 35) (ls' := [some (vR 0), some (vI x1)]) (st' := []) (L' := LR (uZ (uZ z 0 0) 43 ((z 43) + 1)) (uA f 24 (upd (f 24) (ix (z 43)) x1))) 1 (b247_15 (mcall (d + 1)) ((z 43) + 1) _ (uZ z 0 0) (uA f 24 (upd (f 24) (ix (z 43)) x1))) ?_
        refine rc_b (i' := 37) (ls' := [some (vR 0), some (vI x1)]) (st' := [vI ((z 43) + 1)]) (L' := LR (uZ (uZ z 0 0) 43 ((z 43) + 1)) (uA f 24 (upd (f 24) (ix (z 43)) x1))) 2 (b247_16 (mcall (d + 1)) x1 (uZ (uZ z 0 0) 43 ((z 43) + 1)) (uA f 24 (upd (f 24) (ix (z 43)) x1))) ?_
        subst H
        exact rc_ret (b247_17 (mcall (d + 1)) _ _ _)
      · have H := H.2 (cI1f q3)
        refine rc_b (i' := 22) (ls' := [some (vR 0), some (vI x1)]) (st' := [vI ((-1))]) (L' := LR (uZ z 0 0) f) 1 (b247_8 (mcall (d + 1)) x1 _) ?_
        subst H
        exact rc_ret (b247_9 (mcall (d + 1)) _ _ _)
  · have H := H.2 (cI1f q1)
    refine rc_b (i' := 8) (ls' := [some (vR 0), some (vI x1)]) (st' := [vI 0, vR 0]) (L' := LR (uZ z 0 0) f) 2 (b247_18 (mcall (d + 1)) x1 _) ?_
    refine rc_b (i' := 9) (ls' := [some (vR 0), some (vI x1)]) (st' := []) (L' := LR (uZ (uZ z 0 0) 43 0) f) 1 (b247_19 (mcall (d + 1)) 0 _ (uZ z 0 0) f) ?_
    refine rc_b (i' := 10) (ls' := [some (vR 0), some (vI x1)]) (st' := [vI 0]) (L' := LR (uZ (uZ z 0 0) 43 0) f) 1 (b247_20 (mcall (d + 1)) x1 _) ?_
    subst H
    exact rc_ret (b247_21 (mcall (d + 1)) _ _ _)
theorem m_party_e (d : Nat) {x1 : Int32} {z : Nat → Int32} {f : Nat → FA} (h : x1 = -1) : mcall (d + 2) 247 [vR 0, vI x1] (LR z f) = some (some (vI 0), LR (uZ (uZ z 0 0) 43 0) f) := by
  have go : ∀ res, _ → mcall (d + 2) 247 [vR 0, vI x1] (LR z f) = some res := fun res H => mcall_i (mq247 (cu := [])).2.2 rfl (vc247_0 d x1 z f res H)
  exact go _ ⟨fun q => absurd h q, fun _ => rfl⟩
theorem m_party_r (d : Nat) {x1 : Int32} {z : Nat → Int32} {f : Nat → FA} (h : ¬ x1 = -1) (hb : ¬ (0 ≤ I x1 ∧ I x1 ≤ 999)) : mcall (d + 2) 247 [vR 0, vI x1] (LR z f) = some (some (vI (-1)), LR (uZ z 0 0) f) := by
  have go : ∀ res, _ → mcall (d + 2) 247 [vR 0, vI x1] (LR z f) = some res := fun res H => mcall_i (mq247 (cu := [])).2.2 rfl (vc247_0 d x1 z f res H)
  exact go _ ⟨fun _ => ⟨fun q => absurd q hb, fun _ => rfl⟩, fun q => absurd q h⟩
theorem m_party_p (d : Nat) {x1 : Int32} {z : Nat → Int32} {f : Nat → FA} {n : Nat} (hb : 0 ≤ I x1 ∧ I x1 ≤ 999) (hz : z 43 = nI n) (hn : n < 6) : mcall (d + 2) 247 [vR 0, vI x1] (LR z f) = some (some (vI (nI (n + 1))), LR (uZ (uZ z 0 0) 43 (nI (n + 1))) (uA f 24 (upd (f 24) n x1))) := by
  have go : ∀ res, _ → mcall (d + 2) 247 [vR 0, vI x1] (LR z f) = some res := fun res H => mcall_i (mq247 (cu := [])).2.2 rfl (vc247_0 d x1 z f res H)
  have h : ¬ x1 = -1 := im1n (by omega)
  rw [hz, show nI n + 1 = nI (n + 1) from nI_add n 1, ix_nI (j := n) (by omega)] at go
  exact go _ ⟨fun _ => ⟨fun _ => ⟨fun _ => ⟨pin_nI (by omega) (by omega), rfl⟩, fun q => absurd q (nI_ne (b := 6) (by omega) (by omega) (by omega))⟩, fun q => absurd hb q⟩, fun q => absurd q h⟩
theorem m_party_f (d : Nat) {x1 : Int32} {z : Nat → Int32} {f : Nat → FA} (hb : 0 ≤ I x1 ∧ I x1 ≤ 999) (hz : z 43 = nI 6) : mcall (d + 2) 247 [vR 0, vI x1] (LR z f) = some (some (vI (-1)), LR (uZ z 0 0) f) := by
  have go : ∀ res, _ → mcall (d + 2) 247 [vR 0, vI x1] (LR z f) = some res := fun res H => mcall_i (mq247 (cu := [])).2.2 rfl (vc247_0 d x1 z f res H)
  have h : ¬ x1 = -1 := im1n (by omega)
  rw [hz] at go
  exact go _ ⟨fun _ => ⟨fun _ => ⟨fun q => absurd rfl q, fun _ => rfl⟩, fun q => absurd hb q⟩, fun q => absurd q h⟩
set_option maxRecDepth 100000 in
theorem b218_1 (call : QC FA) (x1 : Int32) (L : QH FA) (F : Nat) : rnG call 218 (F + 2) 0 [some (vR 0), some (vI x1)] [] L = rnG call 218 F 2 [some (vR 0), some (vI x1)] [vI 0, vR 0] L := rfl
set_option maxRecDepth 100000 in
theorem b218_2 (call : QC FA) (y : Int32) (ls : List (Option PV)) (z : Nat → Int32) (f : Nat → FA) (F : Nat) : rnG call 218 (F + 1) 2 ls [vI y, vR 0] (LR z f) = rnG call 218 F 3 ls [] (LR (uZ z 0 y) f) := rfl
set_option maxRecDepth 100000 in
theorem b218_3 (call : QC FA) (x1 : Int32) (L : QH FA) (F : Nat) : rnG call 218 (F + 2) 3 [some (vR 0), some (vI x1)] [] L = rnG call 218 F 5 [some (vR 0), some (vI x1)] [vI ((-1)), vI x1] L := rfl
set_option maxRecDepth 100000 in
theorem b218_4 (call : QC FA) (x y : Int32) (ls : List (Option PV)) (L : QH FA) (F : Nat) : rnG call 218 (F + 1) 5 ls [vI y, vI x] L = bif pcmp 1 x y then rnG call 218 F 11 ls [] L else rnG call 218 F 6 ls [] L := rfl
set_option maxRecDepth 100000 in
theorem b218_5 (call : QC FA) (x1 : Int32) (L : QH FA) (F : Nat) : rnG call 218 (F + 4) 11 [some (vR 0), some (vI x1)] [] L = rnG call 218 F 15 [some (vR 0), some (vI x1)] [vI 1, vI 0, vI x1, vR 0] L := rfl
set_option maxRecDepth 100000 in
theorem b218_6 (call : QC FA) (a0 : Int32) (a1 : Int32) (a2 : Int32) (ls : List (Option PV)) (z : Nat → Int32) (f : Nat → FA) (F : Nat) : rnG call 218 (F + 1) 15 ls [vI a2, vI a1, vI a0, vR 0] (LR z f) = cbd (call 47 [vR 0, vI a0, vI a1, vI a2] (LR z f)) (fun r L' => rnG call 218 F 16 ls (r.toList ++ []) L') := pcY (ih := rnG call 218 F) (call := call) (a := 47) (b := 3) (v := 12) (t := 16) (x := 0) (ls := ls) (As := [vI a0, vI a1, vI a2]) (st' := []) (L := LR z f) rfl rfl rfl
set_option maxRecDepth 100000 in
theorem b218_7 (call : QC FA) (x : Int32) (ls : List (Option PV)) (L : QH FA) (F : Nat) : rnG call 218 (F + 1) 16 ls [vI x] L = bif pcmp 0 x 0 then rnG call 218 F 21 ls [] L else rnG call 218 F 17 ls [] L := rfl
set_option maxRecDepth 100000 in
theorem b218_8 (call : QC FA) (x1 : Int32) (L : QH FA) (F : Nat) : rnG call 218 (F + 1) 21 [some (vR 0), some (vI x1)] [] L = rnG call 218 F 22 [some (vR 0), some (vI x1)] [vI ((-1))] L := rfl
set_option maxRecDepth 100000 in
theorem b218_9 (call : QC FA) (x : Int32) (ls : List (Option PV)) (L : QH FA) (F : Nat) : rnG call 218 (F + 1) 22 ls [vI x] L = some (some (vI x), L) := rfl
set_option maxRecDepth 100000 in
theorem b218_10 (call : QC FA) (x1 : Int32) (z : Nat → Int32) (f : Nat → FA) (F : Nat) : rnG call 218 (F + 3) 17 [some (vR 0), some (vI x1)] [] (LR z f) = rnG call 218 F 20 [some (vR 0), some (vI x1)] [vI 16, vI (z 46)] (LR z f) := rfl
set_option maxRecDepth 100000 in
theorem b218_11 (call : QC FA) (x y : Int32) (ls : List (Option PV)) (L : QH FA) (F : Nat) : rnG call 218 (F + 1) 20 ls [vI y, vI x] L = bif pcmp 1 x y then rnG call 218 F 23 ls [] L else rnG call 218 F 21 ls [] L := rfl
set_option maxRecDepth 100000 in
theorem b218_12 (call : QC FA) (x1 : Int32) (z : Nat → Int32) (f : Nat → FA) (F : Nat) : rnG call 218 (F + 5) 23 [some (vR 0), some (vI x1)] [] (LR z f) = rnG call 218 F 28 [some (vR 0), some (vI x1)] [vI x1, vI (z 46), vR 26] (LR z f) := rfl
set_option maxRecDepth 100000 in
theorem b218_13 (call : QC FA) (x y : Int32) (ls : List (Option PV)) (z : Nat → Int32) (f : Nat → FA) (F : Nat) : rnG call 218 (F + 1) 28 ls [vI y, vI x, vR 26] (LR z f) = bif (Nat.beq 0 0 && pin x 16) then rnG call 218 F 29 ls [] (LR z (uA f 26 (upd (f 26) (ix x) y))) else none := rfl
set_option maxRecDepth 100000 in
theorem b218_14 (call : QC FA) (x1 : Int32) (z : Nat → Int32) (f : Nat → FA) (F : Nat) : rnG call 218 (F + 5) 29 [some (vR 0), some (vI x1)] [] (LR z f) = rnG call 218 F 34 [some (vR 0), some (vI x1)] [vI ((z 46) + 1), vR 0] (LR z f) := rfl
set_option maxRecDepth 100000 in
theorem b218_15 (call : QC FA) (y : Int32) (ls : List (Option PV)) (z : Nat → Int32) (f : Nat → FA) (F : Nat) : rnG call 218 (F + 1) 34 ls [vI y, vR 0] (LR z f) = rnG call 218 F 35 ls [] (LR (uZ z 46 y) f) := rfl
set_option maxRecDepth 100000 in
theorem b218_16 (call : QC FA) (x1 : Int32) (z : Nat → Int32) (f : Nat → FA) (F : Nat) : rnG call 218 (F + 2) 35 [some (vR 0), some (vI x1)] [] (LR z f) = rnG call 218 F 37 [some (vR 0), some (vI x1)] [vI (z 46)] (LR z f) := rfl
set_option maxRecDepth 100000 in
theorem b218_17 (call : QC FA) (x : Int32) (ls : List (Option PV)) (L : QH FA) (F : Nat) : rnG call 218 (F + 1) 37 ls [vI x] L = some (some (vI x), L) := rfl
set_option maxRecDepth 100000 in
theorem b218_18 (call : QC FA) (x1 : Int32) (L : QH FA) (F : Nat) : rnG call 218 (F + 2) 6 [some (vR 0), some (vI x1)] [] L = rnG call 218 F 8 [some (vR 0), some (vI x1)] [vI 0, vR 0] L := rfl
set_option maxRecDepth 100000 in
theorem b218_19 (call : QC FA) (y : Int32) (ls : List (Option PV)) (z : Nat → Int32) (f : Nat → FA) (F : Nat) : rnG call 218 (F + 1) 8 ls [vI y, vR 0] (LR z f) = rnG call 218 F 9 ls [] (LR (uZ z 46 y) f) := rfl
set_option maxRecDepth 100000 in
theorem b218_20 (call : QC FA) (x1 : Int32) (L : QH FA) (F : Nat) : rnG call 218 (F + 1) 9 [some (vR 0), some (vI x1)] [] L = rnG call 218 F 10 [some (vR 0), some (vI x1)] [vI 0] L := rfl
set_option maxRecDepth 100000 in
theorem b218_21 (call : QC FA) (x : Int32) (ls : List (Option PV)) (L : QH FA) (F : Nat) : rnG call 218 (F + 1) 10 ls [vI x] L = some (some (vI x), L) := rfl
theorem vc218_0 (d : Nat) (x1 : Int32) (z : Nat → Int32) (f : Nat → FA) (res : Option PV × QH FA) (H : ((¬ x1 = (-1) → (((0 ≤ I x1 ∧ I x1 ≤ 1) → ((¬ z 46 = 16 → (pin (z 46) 16 = true ∧ res = (some (vI ((z 46) + 1)), LR (uZ (uZ z 0 0) 46 ((z 46) + 1)) (uA f 26 (upd (f 26) (ix (z 46)) x1))))) ∧ (z 46 = 16 → res = (some (vI ((-1))), LR (uZ z 0 0) f)))) ∧ ((¬ (0 ≤ I x1 ∧ I x1 ≤ 1)) → res = (some (vI ((-1))), LR (uZ z 0 0) f)))) ∧ (x1 = (-1) → res = (some (vI 0), LR (uZ (uZ z 0 0) 46 0) f)))) : RC (mcall (d + 1)) (mP 218) 0 [some (vR 0), some (vI x1)] [] (LR z f) res := by
  refine rc_b (i' := 2) (ls' := [some (vR 0), some (vI x1)]) (st' := [vI 0, vR 0]) (L' := LR z f) 2 (b218_1 (mcall (d + 1)) x1 _) ?_
  refine rc_b (i' := 3) (ls' := [some (vR 0), some (vI x1)]) (st' := []) (L' := LR (uZ z 0 0) f) 1 (b218_2 (mcall (d + 1)) 0 _ z f) ?_
  refine rc_b (i' := 5) (ls' := [some (vR 0), some (vI x1)]) (st' := [vI ((-1)), vI x1]) (L' := LR (uZ z 0 0) f) 2 (b218_3 (mcall (d + 1)) x1 _) ?_
  refine rc_if (it := 11) (ie := 6) (ls' := [some (vR 0), some (vI x1)]) (st' := []) (b218_4 (mcall (d + 1)) x1 ((-1)) _ _) (fun q1 => ?_) (fun q1 => ?_)
  · have H := H.1 (cI1t q1)
    refine rc_b (i' := 15) (ls' := [some (vR 0), some (vI x1)]) (st' := [vI 1, vI 0, vI x1, vR 0]) (L' := LR (uZ z 0 0) f) 4 (b218_5 (mcall (d + 1)) x1 _) ?_
    refine rc_call (t := 16) (ls' := [some (vR 0), some (vI x1)]) (st' := []) (b218_6 (mcall (d + 1)) x1 0 1 _ (uZ z 0 0) f) (isIn_r _ x1 0 1 (uZ z 0 0) f) ?_
    show RC (mcall (d + 1)) (mP 218) 16 [some (vR 0), some (vI x1)] [vI (bI (0 ≤ I x1 ∧ I x1 ≤ 1))] (LR (uZ z 0 0) f) res
    refine rc_bz (it := 21) (ie := 17) (ls' := [some (vR 0), some (vI x1)]) (st' := []) (b218_7 (mcall (d + 1)) (bI (0 ≤ I x1 ∧ I x1 ≤ 1)) _ _) (fun q2 => ?_) (fun q2 => ?_)
    · have H := H.2 q2
      refine rc_b (i' := 22) (ls' := [some (vR 0), some (vI x1)]) (st' := [vI ((-1))]) (L' := LR (uZ z 0 0) f) 1 (b218_8 (mcall (d + 1)) x1 _) ?_
      subst H
      exact rc_ret (b218_9 (mcall (d + 1)) _ _ _)
    · have H := H.1 q2
      refine rc_b (i' := 20) (ls' := [some (vR 0), some (vI x1)]) (st' := [vI 16, vI (z 46)]) (L' := LR (uZ z 0 0) f) 3 (b218_10 (mcall (d + 1)) x1 (uZ z 0 0) f) ?_
      refine rc_if (it := 23) (ie := 21) (ls' := [some (vR 0), some (vI x1)]) (st' := []) (b218_11 (mcall (d + 1)) (z 46) 16 _ _) (fun q3 => ?_) (fun q3 => ?_)
      · have H := H.1 (cI1t q3)
        refine rc_b (i' := 28) (ls' := [some (vR 0), some (vI x1)]) (st' := [vI x1, vI (z 46), vR 26]) (L' := LR (uZ z 0 0) f) 5 (b218_12 (mcall (d + 1)) x1 (uZ z 0 0) f) ?_
        obtain ⟨g1, H⟩ := H
        refine rc_g (i' := 29) (ls' := [some (vR 0), some (vI x1)]) (st' := []) (L' := LR (uZ z 0 0) (uA f 26 (upd (f 26) (ix (z 46)) x1))) (b218_13 (mcall (d + 1)) (z 46) x1 _ (uZ z 0 0) f) (pinG g1) ?_
        refine rc_b (i' := 34) (ls' := [some (vR 0), some (vI x1)]) (st' := [vI ((z 46) + 1), vR 0]) (L' := LR (uZ z 0 0) (uA f 26 (upd (f 26) (ix (z 46)) x1))) 5 (b218_14 (mcall (d + 1)) x1 (uZ z 0 0) (uA f 26 (upd (f 26) (ix (z 46)) x1))) ?_
        refine rc_b (i' := 35) (ls' := [some (vR 0), some (vI x1)]) (st' := []) (L' := LR (uZ (uZ z 0 0) 46 ((z 46) + 1)) (uA f 26 (upd (f 26) (ix (z 46)) x1))) 1 (b218_15 (mcall (d + 1)) ((z 46) + 1) _ (uZ z 0 0) (uA f 26 (upd (f 26) (ix (z 46)) x1))) ?_
        refine rc_b (i' := 37) (ls' := [some (vR 0), some (vI x1)]) (st' := [vI ((z 46) + 1)]) (L' := LR (uZ (uZ z 0 0) 46 ((z 46) + 1)) (uA f 26 (upd (f 26) (ix (z 46)) x1))) 2 (b218_16 (mcall (d + 1)) x1 (uZ (uZ z 0 0) 46 ((z 46) + 1)) (uA f 26 (upd (f 26) (ix (z 46)) x1))) ?_
        subst H
        exact rc_ret (b218_17 (mcall (d + 1)) _ _ _)
      · have H := H.2 (cI1f q3)
        refine rc_b (i' := 22) (ls' := [some (vR 0), some (vI x1)]) (st' := [vI ((-1))]) (L' := LR (uZ z 0 0) f) 1 (b218_8 (mcall (d + 1)) x1 _) ?_
        subst H
        exact rc_ret (b218_9 (mcall (d + 1)) _ _ _)
  · have H := H.2 (cI1f q1)
    refine rc_b (i' := 8) (ls' := [some (vR 0), some (vI x1)]) (st' := [vI 0, vR 0]) (L' := LR (uZ z 0 0) f) 2 (b218_18 (mcall (d + 1)) x1 _) ?_
    refine rc_b (i' := 9) (ls' := [some (vR 0), some (vI x1)]) (st' := []) (L' := LR (uZ (uZ z 0 0) 46 0) f) 1 (b218_19 (mcall (d + 1)) 0 _ (uZ z 0 0) f) ?_
    refine rc_b (i' := 10) (ls' := [some (vR 0), some (vI x1)]) (st' := [vI 0]) (L' := LR (uZ (uZ z 0 0) 46 0) f) 1 (b218_20 (mcall (d + 1)) x1 _) ?_
    subst H
    exact rc_ret (b218_21 (mcall (d + 1)) _ _ _)
theorem m_house_e (d : Nat) {x1 : Int32} {z : Nat → Int32} {f : Nat → FA} (h : x1 = -1) : mcall (d + 2) 218 [vR 0, vI x1] (LR z f) = some (some (vI 0), LR (uZ (uZ z 0 0) 46 0) f) := by
  have go : ∀ res, _ → mcall (d + 2) 218 [vR 0, vI x1] (LR z f) = some res := fun res H => mcall_i (mq218 (cu := [])).2.2 rfl (vc218_0 d x1 z f res H)
  exact go _ ⟨fun q => absurd h q, fun _ => rfl⟩
theorem m_house_r (d : Nat) {x1 : Int32} {z : Nat → Int32} {f : Nat → FA} (h : ¬ x1 = -1) (hb : ¬ (0 ≤ I x1 ∧ I x1 ≤ 1)) : mcall (d + 2) 218 [vR 0, vI x1] (LR z f) = some (some (vI (-1)), LR (uZ z 0 0) f) := by
  have go : ∀ res, _ → mcall (d + 2) 218 [vR 0, vI x1] (LR z f) = some res := fun res H => mcall_i (mq218 (cu := [])).2.2 rfl (vc218_0 d x1 z f res H)
  exact go _ ⟨fun _ => ⟨fun q => absurd q hb, fun _ => rfl⟩, fun q => absurd q h⟩
theorem m_house_p (d : Nat) {x1 : Int32} {z : Nat → Int32} {f : Nat → FA} {n : Nat} (hb : 0 ≤ I x1 ∧ I x1 ≤ 1) (hz : z 46 = nI n) (hn : n < 16) : mcall (d + 2) 218 [vR 0, vI x1] (LR z f) = some (some (vI (nI (n + 1))), LR (uZ (uZ z 0 0) 46 (nI (n + 1))) (uA f 26 (upd (f 26) n x1))) := by
  have go : ∀ res, _ → mcall (d + 2) 218 [vR 0, vI x1] (LR z f) = some res := fun res H => mcall_i (mq218 (cu := [])).2.2 rfl (vc218_0 d x1 z f res H)
  have h : ¬ x1 = -1 := im1n (by omega)
  rw [hz, show nI n + 1 = nI (n + 1) from nI_add n 1, ix_nI (j := n) (by omega)] at go
  exact go _ ⟨fun _ => ⟨fun _ => ⟨fun _ => ⟨pin_nI (by omega) (by omega), rfl⟩, fun q => absurd q (nI_ne (b := 16) (by omega) (by omega) (by omega))⟩, fun q => absurd hb q⟩, fun q => absurd q h⟩
theorem m_house_f (d : Nat) {x1 : Int32} {z : Nat → Int32} {f : Nat → FA} (hb : 0 ≤ I x1 ∧ I x1 ≤ 1) (hz : z 46 = nI 16) : mcall (d + 2) 218 [vR 0, vI x1] (LR z f) = some (some (vI (-1)), LR (uZ z 0 0) f) := by
  have go : ∀ res, _ → mcall (d + 2) 218 [vR 0, vI x1] (LR z f) = some res := fun res H => mcall_i (mq218 (cu := [])).2.2 rfl (vc218_0 d x1 z f res H)
  have h : ¬ x1 = -1 := im1n (by omega)
  rw [hz] at go
  exact go _ ⟨fun _ => ⟨fun _ => ⟨fun q => absurd rfl q, fun _ => rfl⟩, fun q => absurd hb q⟩, fun q => absurd q h⟩
set_option maxRecDepth 100000 in
theorem b287_1 (call : QC FA) (x1 : Int32) (L : QH FA) (F : Nat) : rnG call 287 (F + 2) 0 [some (vR 0), some (vI x1)] [] L = rnG call 287 F 2 [some (vR 0), some (vI x1)] [vI 0, vR 0] L := rfl
set_option maxRecDepth 100000 in
theorem b287_2 (call : QC FA) (y : Int32) (ls : List (Option PV)) (z : Nat → Int32) (f : Nat → FA) (F : Nat) : rnG call 287 (F + 1) 2 ls [vI y, vR 0] (LR z f) = rnG call 287 F 3 ls [] (LR (uZ z 0 y) f) := rfl
set_option maxRecDepth 100000 in
theorem b287_3 (call : QC FA) (x1 : Int32) (L : QH FA) (F : Nat) : rnG call 287 (F + 2) 3 [some (vR 0), some (vI x1)] [] L = rnG call 287 F 5 [some (vR 0), some (vI x1)] [vI ((-1)), vI x1] L := rfl
set_option maxRecDepth 100000 in
theorem b287_4 (call : QC FA) (x y : Int32) (ls : List (Option PV)) (L : QH FA) (F : Nat) : rnG call 287 (F + 1) 5 ls [vI y, vI x] L = bif pcmp 1 x y then rnG call 287 F 11 ls [] L else rnG call 287 F 6 ls [] L := rfl
set_option maxRecDepth 100000 in
theorem b287_5 (call : QC FA) (x1 : Int32) (L : QH FA) (F : Nat) : rnG call 287 (F + 4) 11 [some (vR 0), some (vI x1)] [] L = rnG call 287 F 15 [some (vR 0), some (vI x1)] [vI 99, vI 0, vI x1, vR 0] L := rfl
set_option maxRecDepth 100000 in
theorem b287_6 (call : QC FA) (a0 : Int32) (a1 : Int32) (a2 : Int32) (ls : List (Option PV)) (z : Nat → Int32) (f : Nat → FA) (F : Nat) : rnG call 287 (F + 1) 15 ls [vI a2, vI a1, vI a0, vR 0] (LR z f) = cbd (call 47 [vR 0, vI a0, vI a1, vI a2] (LR z f)) (fun r L' => rnG call 287 F 16 ls (r.toList ++ []) L') := pcY (ih := rnG call 287 F) (call := call) (a := 47) (b := 3) (v := 12) (t := 16) (x := 0) (ls := ls) (As := [vI a0, vI a1, vI a2]) (st' := []) (L := LR z f) rfl rfl rfl
set_option maxRecDepth 100000 in
theorem b287_7 (call : QC FA) (x : Int32) (ls : List (Option PV)) (L : QH FA) (F : Nat) : rnG call 287 (F + 1) 16 ls [vI x] L = bif pcmp 0 x 0 then rnG call 287 F 21 ls [] L else rnG call 287 F 17 ls [] L := rfl
set_option maxRecDepth 100000 in
theorem b287_8 (call : QC FA) (x1 : Int32) (L : QH FA) (F : Nat) : rnG call 287 (F + 1) 21 [some (vR 0), some (vI x1)] [] L = rnG call 287 F 22 [some (vR 0), some (vI x1)] [vI ((-1))] L := rfl
set_option maxRecDepth 100000 in
theorem b287_9 (call : QC FA) (x : Int32) (ls : List (Option PV)) (L : QH FA) (F : Nat) : rnG call 287 (F + 1) 22 ls [vI x] L = some (some (vI x), L) := rfl
set_option maxRecDepth 100000 in
theorem b287_10 (call : QC FA) (x1 : Int32) (z : Nat → Int32) (f : Nat → FA) (F : Nat) : rnG call 287 (F + 3) 17 [some (vR 0), some (vI x1)] [] (LR z f) = rnG call 287 F 20 [some (vR 0), some (vI x1)] [vI 15, vI (z 50)] (LR z f) := rfl
set_option maxRecDepth 100000 in
theorem b287_11 (call : QC FA) (x y : Int32) (ls : List (Option PV)) (L : QH FA) (F : Nat) : rnG call 287 (F + 1) 20 ls [vI y, vI x] L = bif pcmp 1 x y then rnG call 287 F 23 ls [] L else rnG call 287 F 21 ls [] L := rfl
set_option maxRecDepth 100000 in
theorem b287_12 (call : QC FA) (x1 : Int32) (z : Nat → Int32) (f : Nat → FA) (F : Nat) : rnG call 287 (F + 5) 23 [some (vR 0), some (vI x1)] [] (LR z f) = rnG call 287 F 28 [some (vR 0), some (vI x1)] [vI x1, vI (z 50), vR 29] (LR z f) := rfl
set_option maxRecDepth 100000 in
theorem b287_13 (call : QC FA) (x y : Int32) (ls : List (Option PV)) (z : Nat → Int32) (f : Nat → FA) (F : Nat) : rnG call 287 (F + 1) 28 ls [vI y, vI x, vR 29] (LR z f) = bif (Nat.beq 0 0 && pin x 15) then rnG call 287 F 29 ls [] (LR z (uA f 29 (upd (f 29) (ix x) y))) else none := rfl
set_option maxRecDepth 100000 in
theorem b287_14 (call : QC FA) (x1 : Int32) (z : Nat → Int32) (f : Nat → FA) (F : Nat) : rnG call 287 (F + 5) 29 [some (vR 0), some (vI x1)] [] (LR z f) = rnG call 287 F 34 [some (vR 0), some (vI x1)] [vI ((z 50) + 1), vR 0] (LR z f) := rfl
set_option maxRecDepth 100000 in
theorem b287_15 (call : QC FA) (y : Int32) (ls : List (Option PV)) (z : Nat → Int32) (f : Nat → FA) (F : Nat) : rnG call 287 (F + 1) 34 ls [vI y, vR 0] (LR z f) = rnG call 287 F 35 ls [] (LR (uZ z 50 y) f) := rfl
set_option maxRecDepth 100000 in
theorem b287_16 (call : QC FA) (x1 : Int32) (z : Nat → Int32) (f : Nat → FA) (F : Nat) : rnG call 287 (F + 2) 35 [some (vR 0), some (vI x1)] [] (LR z f) = rnG call 287 F 37 [some (vR 0), some (vI x1)] [vI (z 50)] (LR z f) := rfl
set_option maxRecDepth 100000 in
theorem b287_17 (call : QC FA) (x : Int32) (ls : List (Option PV)) (L : QH FA) (F : Nat) : rnG call 287 (F + 1) 37 ls [vI x] L = some (some (vI x), L) := rfl
set_option maxRecDepth 100000 in
theorem b287_18 (call : QC FA) (x1 : Int32) (L : QH FA) (F : Nat) : rnG call 287 (F + 2) 6 [some (vR 0), some (vI x1)] [] L = rnG call 287 F 8 [some (vR 0), some (vI x1)] [vI 0, vR 0] L := rfl
set_option maxRecDepth 100000 in
theorem b287_19 (call : QC FA) (y : Int32) (ls : List (Option PV)) (z : Nat → Int32) (f : Nat → FA) (F : Nat) : rnG call 287 (F + 1) 8 ls [vI y, vR 0] (LR z f) = rnG call 287 F 9 ls [] (LR (uZ z 50 y) f) := rfl
set_option maxRecDepth 100000 in
theorem b287_20 (call : QC FA) (x1 : Int32) (L : QH FA) (F : Nat) : rnG call 287 (F + 1) 9 [some (vR 0), some (vI x1)] [] L = rnG call 287 F 10 [some (vR 0), some (vI x1)] [vI 0] L := rfl
set_option maxRecDepth 100000 in
theorem b287_21 (call : QC FA) (x : Int32) (ls : List (Option PV)) (L : QH FA) (F : Nat) : rnG call 287 (F + 1) 10 ls [vI x] L = some (some (vI x), L) := rfl
theorem vc287_0 (d : Nat) (x1 : Int32) (z : Nat → Int32) (f : Nat → FA) (res : Option PV × QH FA) (H : ((¬ x1 = (-1) → (((0 ≤ I x1 ∧ I x1 ≤ 99) → ((¬ z 50 = 15 → (pin (z 50) 15 = true ∧ res = (some (vI ((z 50) + 1)), LR (uZ (uZ z 0 0) 50 ((z 50) + 1)) (uA f 29 (upd (f 29) (ix (z 50)) x1))))) ∧ (z 50 = 15 → res = (some (vI ((-1))), LR (uZ z 0 0) f)))) ∧ ((¬ (0 ≤ I x1 ∧ I x1 ≤ 99)) → res = (some (vI ((-1))), LR (uZ z 0 0) f)))) ∧ (x1 = (-1) → res = (some (vI 0), LR (uZ (uZ z 0 0) 50 0) f)))) : RC (mcall (d + 1)) (mP 287) 0 [some (vR 0), some (vI x1)] [] (LR z f) res := by
  refine rc_b (i' := 2) (ls' := [some (vR 0), some (vI x1)]) (st' := [vI 0, vR 0]) (L' := LR z f) 2 (b287_1 (mcall (d + 1)) x1 _) ?_
  refine rc_b (i' := 3) (ls' := [some (vR 0), some (vI x1)]) (st' := []) (L' := LR (uZ z 0 0) f) 1 (b287_2 (mcall (d + 1)) 0 _ z f) ?_
  refine rc_b (i' := 5) (ls' := [some (vR 0), some (vI x1)]) (st' := [vI ((-1)), vI x1]) (L' := LR (uZ z 0 0) f) 2 (b287_3 (mcall (d + 1)) x1 _) ?_
  refine rc_if (it := 11) (ie := 6) (ls' := [some (vR 0), some (vI x1)]) (st' := []) (b287_4 (mcall (d + 1)) x1 ((-1)) _ _) (fun q1 => ?_) (fun q1 => ?_)
  · have H := H.1 (cI1t q1)
    refine rc_b (i' := 15) (ls' := [some (vR 0), some (vI x1)]) (st' := [vI 99, vI 0, vI x1, vR 0]) (L' := LR (uZ z 0 0) f) 4 (b287_5 (mcall (d + 1)) x1 _) ?_
    refine rc_call (t := 16) (ls' := [some (vR 0), some (vI x1)]) (st' := []) (b287_6 (mcall (d + 1)) x1 0 99 _ (uZ z 0 0) f) (isIn_r _ x1 0 99 (uZ z 0 0) f) ?_
    show RC (mcall (d + 1)) (mP 287) 16 [some (vR 0), some (vI x1)] [vI (bI (0 ≤ I x1 ∧ I x1 ≤ 99))] (LR (uZ z 0 0) f) res
    refine rc_bz (it := 21) (ie := 17) (ls' := [some (vR 0), some (vI x1)]) (st' := []) (b287_7 (mcall (d + 1)) (bI (0 ≤ I x1 ∧ I x1 ≤ 99)) _ _) (fun q2 => ?_) (fun q2 => ?_)
    · have H := H.2 q2
      refine rc_b (i' := 22) (ls' := [some (vR 0), some (vI x1)]) (st' := [vI ((-1))]) (L' := LR (uZ z 0 0) f) 1 (b287_8 (mcall (d + 1)) x1 _) ?_
      subst H
      exact rc_ret (b287_9 (mcall (d + 1)) _ _ _)
    · have H := H.1 q2
      refine rc_b (i' := 20) (ls' := [some (vR 0), some (vI x1)]) (st' := [vI 15, vI (z 50)]) (L' := LR (uZ z 0 0) f) 3 (b287_10 (mcall (d + 1)) x1 (uZ z 0 0) f) ?_
      refine rc_if (it := 23) (ie := 21) (ls' := [some (vR 0), some (vI x1)]) (st' := []) (b287_11 (mcall (d + 1)) (z 50) 15 _ _) (fun q3 => ?_) (fun q3 => ?_)
      · have H := H.1 (cI1t q3)
        refine rc_b (i' := 28) (ls' := [some (vR 0), some (vI x1)]) (st' := [vI x1, vI (z 50), vR 29]) (L' := LR (uZ z 0 0) f) 5 (b287_12 (mcall (d + 1)) x1 (uZ z 0 0) f) ?_
        obtain ⟨g1, H⟩ := H
        refine rc_g (i' := 29) (ls' := [some (vR 0), some (vI x1)]) (st' := []) (L' := LR (uZ z 0 0) (uA f 29 (upd (f 29) (ix (z 50)) x1))) (b287_13 (mcall (d + 1)) (z 50) x1 _ (uZ z 0 0) f) (pinG g1) ?_
        refine rc_b (i' := 34) (ls' := [some (vR 0), some (vI x1)]) (st' := [vI ((z 50) + 1), vR 0]) (L' := LR (uZ z 0 0) (uA f 29 (upd (f 29) (ix (z 50)) x1))) 5 (b287_14 (mcall (d + 1)) x1 (uZ z 0 0) (uA f 29 (upd (f 29) (ix (z 50)) x1))) ?_
        refine rc_b (i' := 35) (ls' := [some (vR 0), some (vI x1)]) (st' := []) (L' := LR (uZ (uZ z 0 0) 50 ((z 50) + 1)) (uA f 29 (upd (f 29) (ix (z 50)) x1))) 1 (b287_15 (mcall (d + 1)) ((z 50) + 1) _ (uZ z 0 0) (uA f 29 (upd (f 29) (ix (z 50)) x1))) ?_
        refine rc_b (i' := 37) (ls' := [some (vR 0), some (vI x1)]) (st' := [vI ((z 50) + 1)]) (L' := LR (uZ (uZ z 0 0) 50 ((z 50) + 1)) (uA f 29 (upd (f 29) (ix (z 50)) x1))) 2 (b287_16 (mcall (d + 1)) x1 (uZ (uZ z 0 0) 50 ((z 50) + 1)) (uA f 29 (upd (f 29) (ix (z 50)) x1))) ?_
        subst H
        exact rc_ret (b287_17 (mcall (d + 1)) _ _ _)
      · have H := H.2 (cI1f q3)
        refine rc_b (i' := 22) (ls' := [some (vR 0), some (vI x1)]) (st' := [vI ((-1))]) (L' := LR (uZ z 0 0) f) 1 (b287_8 (mcall (d + 1)) x1 _) ?_
        subst H
        exact rc_ret (b287_9 (mcall (d + 1)) _ _ _)
  · have H := H.2 (cI1f q1)
    refine rc_b (i' := 8) (ls' := [some (vR 0), some (vI x1)]) (st' := [vI 0, vR 0]) (L' := LR (uZ z 0 0) f) 2 (b287_18 (mcall (d + 1)) x1 _) ?_
    refine rc_b (i' := 9) (ls' := [some (vR 0), some (vI x1)]) (st' := []) (L' := LR (uZ (uZ z 0 0) 50 0) f) 1 (b287_19 (mcall (d + 1)) 0 _ (uZ z 0 0) f) ?_
    refine rc_b (i' := 10) (ls' := [some (vR 0), some (vI x1)]) (st' := [vI 0]) (L' := LR (uZ (uZ z 0 0) 50 0) f) 1 (b287_20 (mcall (d + 1)) x1 _) ?_
    subst H
    exact rc_ret (b287_21 (mcall (d + 1)) _ _ _)
theorem m_wish_e (d : Nat) {x1 : Int32} {z : Nat → Int32} {f : Nat → FA} (h : x1 = -1) : mcall (d + 2) 287 [vR 0, vI x1] (LR z f) = some (some (vI 0), LR (uZ (uZ z 0 0) 50 0) f) := by
  have go : ∀ res, _ → mcall (d + 2) 287 [vR 0, vI x1] (LR z f) = some res := fun res H => mcall_i (mq287 (cu := [])).2.2 rfl (vc287_0 d x1 z f res H)
  exact go _ ⟨fun q => absurd h q, fun _ => rfl⟩
theorem m_wish_r (d : Nat) {x1 : Int32} {z : Nat → Int32} {f : Nat → FA} (h : ¬ x1 = -1) (hb : ¬ (0 ≤ I x1 ∧ I x1 ≤ 99)) : mcall (d + 2) 287 [vR 0, vI x1] (LR z f) = some (some (vI (-1)), LR (uZ z 0 0) f) := by
  have go : ∀ res, _ → mcall (d + 2) 287 [vR 0, vI x1] (LR z f) = some res := fun res H => mcall_i (mq287 (cu := [])).2.2 rfl (vc287_0 d x1 z f res H)
  exact go _ ⟨fun _ => ⟨fun q => absurd q hb, fun _ => rfl⟩, fun q => absurd q h⟩
theorem m_wish_p (d : Nat) {x1 : Int32} {z : Nat → Int32} {f : Nat → FA} {n : Nat} (hb : 0 ≤ I x1 ∧ I x1 ≤ 99) (hz : z 50 = nI n) (hn : n < 15) : mcall (d + 2) 287 [vR 0, vI x1] (LR z f) = some (some (vI (nI (n + 1))), LR (uZ (uZ z 0 0) 50 (nI (n + 1))) (uA f 29 (upd (f 29) n x1))) := by
  have go : ∀ res, _ → mcall (d + 2) 287 [vR 0, vI x1] (LR z f) = some res := fun res H => mcall_i (mq287 (cu := [])).2.2 rfl (vc287_0 d x1 z f res H)
  have h : ¬ x1 = -1 := im1n (by omega)
  rw [hz, show nI n + 1 = nI (n + 1) from nI_add n 1, ix_nI (j := n) (by omega)] at go
  exact go _ ⟨fun _ => ⟨fun _ => ⟨fun _ => ⟨pin_nI (by omega) (by omega), rfl⟩, fun q => absurd q (nI_ne (b := 15) (by omega) (by omega) (by omega))⟩, fun q => absurd hb q⟩, fun q => absurd q h⟩
theorem m_wish_f (d : Nat) {x1 : Int32} {z : Nat → Int32} {f : Nat → FA} (hb : 0 ≤ I x1 ∧ I x1 ≤ 99) (hz : z 50 = nI 15) : mcall (d + 2) 287 [vR 0, vI x1] (LR z f) = some (some (vI (-1)), LR (uZ z 0 0) f) := by
  have go : ∀ res, _ → mcall (d + 2) 287 [vR 0, vI x1] (LR z f) = some res := fun res H => mcall_i (mq287 (cu := [])).2.2 rfl (vc287_0 d x1 z f res H)
  have h : ¬ x1 = -1 := im1n (by omega)
  rw [hz] at go
  exact go _ ⟨fun _ => ⟨fun _ => ⟨fun q => absurd rfl q, fun _ => rfl⟩, fun q => absurd hb q⟩, fun q => absurd q h⟩
set_option maxRecDepth 100000 in
theorem b242_1 (call : QC FA) (x1 : Int32) (L : QH FA) (F : Nat) : rnG call 242 (F + 2) 0 [some (vR 0), some (vI x1)] [] L = rnG call 242 F 2 [some (vR 0), some (vI x1)] [vI 0, vR 0] L := rfl
set_option maxRecDepth 100000 in
theorem b242_2 (call : QC FA) (y : Int32) (ls : List (Option PV)) (z : Nat → Int32) (f : Nat → FA) (F : Nat) : rnG call 242 (F + 1) 2 ls [vI y, vR 0] (LR z f) = rnG call 242 F 3 ls [] (LR (uZ z 0 y) f) := rfl
set_option maxRecDepth 100000 in
theorem b242_3 (call : QC FA) (x1 : Int32) (L : QH FA) (F : Nat) : rnG call 242 (F + 2) 3 [some (vR 0), some (vI x1)] [] L = rnG call 242 F 5 [some (vR 0), some (vI x1)] [vI ((-1)), vI x1] L := rfl
set_option maxRecDepth 100000 in
theorem b242_4 (call : QC FA) (x y : Int32) (ls : List (Option PV)) (L : QH FA) (F : Nat) : rnG call 242 (F + 1) 5 ls [vI y, vI x] L = bif pcmp 1 x y then rnG call 242 F 11 ls [] L else rnG call 242 F 6 ls [] L := rfl
set_option maxRecDepth 100000 in
theorem b242_5 (call : QC FA) (x1 : Int32) (L : QH FA) (F : Nat) : rnG call 242 (F + 4) 11 [some (vR 0), some (vI x1)] [] L = rnG call 242 F 15 [some (vR 0), some (vI x1)] [vI 9, vI 0, vI x1, vR 0] L := rfl
set_option maxRecDepth 100000 in
theorem b242_6 (call : QC FA) (a0 : Int32) (a1 : Int32) (a2 : Int32) (ls : List (Option PV)) (z : Nat → Int32) (f : Nat → FA) (F : Nat) : rnG call 242 (F + 1) 15 ls [vI a2, vI a1, vI a0, vR 0] (LR z f) = cbd (call 47 [vR 0, vI a0, vI a1, vI a2] (LR z f)) (fun r L' => rnG call 242 F 16 ls (r.toList ++ []) L') := pcY (ih := rnG call 242 F) (call := call) (a := 47) (b := 3) (v := 12) (t := 16) (x := 0) (ls := ls) (As := [vI a0, vI a1, vI a2]) (st' := []) (L := LR z f) rfl rfl rfl
set_option maxRecDepth 100000 in
theorem b242_7 (call : QC FA) (x : Int32) (ls : List (Option PV)) (L : QH FA) (F : Nat) : rnG call 242 (F + 1) 16 ls [vI x] L = bif pcmp 0 x 0 then rnG call 242 F 21 ls [] L else rnG call 242 F 17 ls [] L := rfl
set_option maxRecDepth 100000 in
theorem b242_8 (call : QC FA) (x1 : Int32) (L : QH FA) (F : Nat) : rnG call 242 (F + 1) 21 [some (vR 0), some (vI x1)] [] L = rnG call 242 F 22 [some (vR 0), some (vI x1)] [vI ((-1))] L := rfl
set_option maxRecDepth 100000 in
theorem b242_9 (call : QC FA) (x : Int32) (ls : List (Option PV)) (L : QH FA) (F : Nat) : rnG call 242 (F + 1) 22 ls [vI x] L = some (some (vI x), L) := rfl
set_option maxRecDepth 100000 in
theorem b242_10 (call : QC FA) (x1 : Int32) (z : Nat → Int32) (f : Nat → FA) (F : Nat) : rnG call 242 (F + 3) 17 [some (vR 0), some (vI x1)] [] (LR z f) = rnG call 242 F 20 [some (vR 0), some (vI x1)] [vI 15, vI (z 52)] (LR z f) := rfl
set_option maxRecDepth 100000 in
theorem b242_11 (call : QC FA) (x y : Int32) (ls : List (Option PV)) (L : QH FA) (F : Nat) : rnG call 242 (F + 1) 20 ls [vI y, vI x] L = bif pcmp 1 x y then rnG call 242 F 23 ls [] L else rnG call 242 F 21 ls [] L := rfl
set_option maxRecDepth 100000 in
theorem b242_12 (call : QC FA) (x1 : Int32) (z : Nat → Int32) (f : Nat → FA) (F : Nat) : rnG call 242 (F + 5) 23 [some (vR 0), some (vI x1)] [] (LR z f) = rnG call 242 F 28 [some (vR 0), some (vI x1)] [vI x1, vI (z 52), vR 30] (LR z f) := rfl
set_option maxRecDepth 100000 in
theorem b242_13 (call : QC FA) (x y : Int32) (ls : List (Option PV)) (z : Nat → Int32) (f : Nat → FA) (F : Nat) : rnG call 242 (F + 1) 28 ls [vI y, vI x, vR 30] (LR z f) = bif (Nat.beq 0 0 && pin x 15) then rnG call 242 F 29 ls [] (LR z (uA f 30 (upd (f 30) (ix x) y))) else none := rfl
set_option maxRecDepth 100000 in
theorem b242_14 (call : QC FA) (x1 : Int32) (z : Nat → Int32) (f : Nat → FA) (F : Nat) : rnG call 242 (F + 5) 29 [some (vR 0), some (vI x1)] [] (LR z f) = rnG call 242 F 34 [some (vR 0), some (vI x1)] [vI ((z 52) + 1), vR 0] (LR z f) := rfl
set_option maxRecDepth 100000 in
theorem b242_15 (call : QC FA) (y : Int32) (ls : List (Option PV)) (z : Nat → Int32) (f : Nat → FA) (F : Nat) : rnG call 242 (F + 1) 34 ls [vI y, vR 0] (LR z f) = rnG call 242 F 35 ls [] (LR (uZ z 52 y) f) := rfl
set_option maxRecDepth 100000 in
theorem b242_16 (call : QC FA) (x1 : Int32) (z : Nat → Int32) (f : Nat → FA) (F : Nat) : rnG call 242 (F + 2) 35 [some (vR 0), some (vI x1)] [] (LR z f) = rnG call 242 F 37 [some (vR 0), some (vI x1)] [vI (z 52)] (LR z f) := rfl
set_option maxRecDepth 100000 in
theorem b242_17 (call : QC FA) (x : Int32) (ls : List (Option PV)) (L : QH FA) (F : Nat) : rnG call 242 (F + 1) 37 ls [vI x] L = some (some (vI x), L) := rfl
set_option maxRecDepth 100000 in
theorem b242_18 (call : QC FA) (x1 : Int32) (L : QH FA) (F : Nat) : rnG call 242 (F + 2) 6 [some (vR 0), some (vI x1)] [] L = rnG call 242 F 8 [some (vR 0), some (vI x1)] [vI 0, vR 0] L := rfl
set_option maxRecDepth 100000 in
theorem b242_19 (call : QC FA) (y : Int32) (ls : List (Option PV)) (z : Nat → Int32) (f : Nat → FA) (F : Nat) : rnG call 242 (F + 1) 8 ls [vI y, vR 0] (LR z f) = rnG call 242 F 9 ls [] (LR (uZ z 52 y) f) := rfl
set_option maxRecDepth 100000 in
theorem b242_20 (call : QC FA) (x1 : Int32) (L : QH FA) (F : Nat) : rnG call 242 (F + 1) 9 [some (vR 0), some (vI x1)] [] L = rnG call 242 F 10 [some (vR 0), some (vI x1)] [vI 0] L := rfl
set_option maxRecDepth 100000 in
theorem b242_21 (call : QC FA) (x : Int32) (ls : List (Option PV)) (L : QH FA) (F : Nat) : rnG call 242 (F + 1) 10 ls [vI x] L = some (some (vI x), L) := rfl
theorem vc242_0 (d : Nat) (x1 : Int32) (z : Nat → Int32) (f : Nat → FA) (res : Option PV × QH FA) (H : ((¬ x1 = (-1) → (((0 ≤ I x1 ∧ I x1 ≤ 9) → ((¬ z 52 = 15 → (pin (z 52) 15 = true ∧ res = (some (vI ((z 52) + 1)), LR (uZ (uZ z 0 0) 52 ((z 52) + 1)) (uA f 30 (upd (f 30) (ix (z 52)) x1))))) ∧ (z 52 = 15 → res = (some (vI ((-1))), LR (uZ z 0 0) f)))) ∧ ((¬ (0 ≤ I x1 ∧ I x1 ≤ 9)) → res = (some (vI ((-1))), LR (uZ z 0 0) f)))) ∧ (x1 = (-1) → res = (some (vI 0), LR (uZ (uZ z 0 0) 52 0) f)))) : RC (mcall (d + 1)) (mP 242) 0 [some (vR 0), some (vI x1)] [] (LR z f) res := by
  refine rc_b (i' := 2) (ls' := [some (vR 0), some (vI x1)]) (st' := [vI 0, vR 0]) (L' := LR z f) 2 (b242_1 (mcall (d + 1)) x1 _) ?_
  refine rc_b (i' := 3) (ls' := [some (vR 0), some (vI x1)]) (st' := []) (L' := LR (uZ z 0 0) f) 1 (b242_2 (mcall (d + 1)) 0 _ z f) ?_
  refine rc_b (i' := 5) (ls' := [some (vR 0), some (vI x1)]) (st' := [vI ((-1)), vI x1]) (L' := LR (uZ z 0 0) f) 2 (b242_3 (mcall (d + 1)) x1 _) ?_
  refine rc_if (it := 11) (ie := 6) (ls' := [some (vR 0), some (vI x1)]) (st' := []) (b242_4 (mcall (d + 1)) x1 ((-1)) _ _) (fun q1 => ?_) (fun q1 => ?_)
  · have H := H.1 (cI1t q1)
    refine rc_b (i' := 15) (ls' := [some (vR 0), some (vI x1)]) (st' := [vI 9, vI 0, vI x1, vR 0]) (L' := LR (uZ z 0 0) f) 4 (b242_5 (mcall (d + 1)) x1 _) ?_
    refine rc_call (t := 16) (ls' := [some (vR 0), some (vI x1)]) (st' := []) (b242_6 (mcall (d + 1)) x1 0 9 _ (uZ z 0 0) f) (isIn_r _ x1 0 9 (uZ z 0 0) f) ?_
    show RC (mcall (d + 1)) (mP 242) 16 [some (vR 0), some (vI x1)] [vI (bI (0 ≤ I x1 ∧ I x1 ≤ 9))] (LR (uZ z 0 0) f) res
    refine rc_bz (it := 21) (ie := 17) (ls' := [some (vR 0), some (vI x1)]) (st' := []) (b242_7 (mcall (d + 1)) (bI (0 ≤ I x1 ∧ I x1 ≤ 9)) _ _) (fun q2 => ?_) (fun q2 => ?_)
    · have H := H.2 q2
      refine rc_b (i' := 22) (ls' := [some (vR 0), some (vI x1)]) (st' := [vI ((-1))]) (L' := LR (uZ z 0 0) f) 1 (b242_8 (mcall (d + 1)) x1 _) ?_
      subst H
      exact rc_ret (b242_9 (mcall (d + 1)) _ _ _)
    · have H := H.1 q2
      refine rc_b (i' := 20) (ls' := [some (vR 0), some (vI x1)]) (st' := [vI 15, vI (z 52)]) (L' := LR (uZ z 0 0) f) 3 (b242_10 (mcall (d + 1)) x1 (uZ z 0 0) f) ?_
      refine rc_if (it := 23) (ie := 21) (ls' := [some (vR 0), some (vI x1)]) (st' := []) (b242_11 (mcall (d + 1)) (z 52) 15 _ _) (fun q3 => ?_) (fun q3 => ?_)
      · have H := H.1 (cI1t q3)
        refine rc_b (i' := 28) (ls' := [some (vR 0), some (vI x1)]) (st' := [vI x1, vI (z 52), vR 30]) (L' := LR (uZ z 0 0) f) 5 (b242_12 (mcall (d + 1)) x1 (uZ z 0 0) f) ?_
        obtain ⟨g1, H⟩ := H
        refine rc_g (i' := 29) (ls' := [some (vR 0), some (vI x1)]) (st' := []) (L' := LR (uZ z 0 0) (uA f 30 (upd (f 30) (ix (z 52)) x1))) (b242_13 (mcall (d + 1)) (z 52) x1 _ (uZ z 0 0) f) (pinG g1) ?_
        refine rc_b (i' := 34) (ls' := [some (vR 0), some (vI x1)]) (st' := [vI ((z 52) + 1), vR 0]) (L' := LR (uZ z 0 0) (uA f 30 (upd (f 30) (ix (z 52)) x1))) 5 (b242_14 (mcall (d + 1)) x1 (uZ z 0 0) (uA f 30 (upd (f 30) (ix (z 52)) x1))) ?_
        refine rc_b (i' := 35) (ls' := [some (vR 0), some (vI x1)]) (st' := []) (L' := LR (uZ (uZ z 0 0) 52 ((z 52) + 1)) (uA f 30 (upd (f 30) (ix (z 52)) x1))) 1 (b242_15 (mcall (d + 1)) ((z 52) + 1) _ (uZ z 0 0) (uA f 30 (upd (f 30) (ix (z 52)) x1))) ?_
        refine rc_b (i' := 37) (ls' := [some (vR 0), some (vI x1)]) (st' := [vI ((z 52) + 1)]) (L' := LR (uZ (uZ z 0 0) 52 ((z 52) + 1)) (uA f 30 (upd (f 30) (ix (z 52)) x1))) 2 (b242_16 (mcall (d + 1)) x1 (uZ (uZ z 0 0) 52 ((z 52) + 1)) (uA f 30 (upd (f 30) (ix (z 52)) x1))) ?_
        subst H
        exact rc_ret (b242_17 (mcall (d + 1)) _ _ _)
      · have H := H.2 (cI1f q3)
        refine rc_b (i' := 22) (ls' := [some (vR 0), some (vI x1)]) (st' := [vI ((-1))]) (L' := LR (uZ z 0 0) f) 1 (b242_8 (mcall (d + 1)) x1 _) ?_
        subst H
        exact rc_ret (b242_9 (mcall (d + 1)) _ _ _)
  · have H := H.2 (cI1f q1)
    refine rc_b (i' := 8) (ls' := [some (vR 0), some (vI x1)]) (st' := [vI 0, vR 0]) (L' := LR (uZ z 0 0) f) 2 (b242_18 (mcall (d + 1)) x1 _) ?_
    refine rc_b (i' := 9) (ls' := [some (vR 0), some (vI x1)]) (st' := []) (L' := LR (uZ (uZ z 0 0) 52 0) f) 1 (b242_19 (mcall (d + 1)) 0 _ (uZ z 0 0) f) ?_
    refine rc_b (i' := 10) (ls' := [some (vR 0), some (vI x1)]) (st' := [vI 0]) (L' := LR (uZ (uZ z 0 0) 52 0) f) 1 (b242_20 (mcall (d + 1)) x1 _) ?_
    subst H
    exact rc_ret (b242_21 (mcall (d + 1)) _ _ _)
theorem m_name_e (d : Nat) {x1 : Int32} {z : Nat → Int32} {f : Nat → FA} (h : x1 = -1) : mcall (d + 2) 242 [vR 0, vI x1] (LR z f) = some (some (vI 0), LR (uZ (uZ z 0 0) 52 0) f) := by
  have go : ∀ res, _ → mcall (d + 2) 242 [vR 0, vI x1] (LR z f) = some res := fun res H => mcall_i (mq242 (cu := [])).2.2 rfl (vc242_0 d x1 z f res H)
  exact go _ ⟨fun q => absurd h q, fun _ => rfl⟩
theorem m_name_r (d : Nat) {x1 : Int32} {z : Nat → Int32} {f : Nat → FA} (h : ¬ x1 = -1) (hb : ¬ (0 ≤ I x1 ∧ I x1 ≤ 9)) : mcall (d + 2) 242 [vR 0, vI x1] (LR z f) = some (some (vI (-1)), LR (uZ z 0 0) f) := by
  have go : ∀ res, _ → mcall (d + 2) 242 [vR 0, vI x1] (LR z f) = some res := fun res H => mcall_i (mq242 (cu := [])).2.2 rfl (vc242_0 d x1 z f res H)
  exact go _ ⟨fun _ => ⟨fun q => absurd q hb, fun _ => rfl⟩, fun q => absurd q h⟩
theorem m_name_p (d : Nat) {x1 : Int32} {z : Nat → Int32} {f : Nat → FA} {n : Nat} (hb : 0 ≤ I x1 ∧ I x1 ≤ 9) (hz : z 52 = nI n) (hn : n < 15) : mcall (d + 2) 242 [vR 0, vI x1] (LR z f) = some (some (vI (nI (n + 1))), LR (uZ (uZ z 0 0) 52 (nI (n + 1))) (uA f 30 (upd (f 30) n x1))) := by
  have go : ∀ res, _ → mcall (d + 2) 242 [vR 0, vI x1] (LR z f) = some res := fun res H => mcall_i (mq242 (cu := [])).2.2 rfl (vc242_0 d x1 z f res H)
  have h : ¬ x1 = -1 := im1n (by omega)
  rw [hz, show nI n + 1 = nI (n + 1) from nI_add n 1, ix_nI (j := n) (by omega)] at go
  exact go _ ⟨fun _ => ⟨fun _ => ⟨fun _ => ⟨pin_nI (by omega) (by omega), rfl⟩, fun q => absurd q (nI_ne (b := 15) (by omega) (by omega) (by omega))⟩, fun q => absurd hb q⟩, fun q => absurd q h⟩
theorem m_name_f (d : Nat) {x1 : Int32} {z : Nat → Int32} {f : Nat → FA} (hb : 0 ≤ I x1 ∧ I x1 ≤ 9) (hz : z 52 = nI 15) : mcall (d + 2) 242 [vR 0, vI x1] (LR z f) = some (some (vI (-1)), LR (uZ z 0 0) f) := by
  have go : ∀ res, _ → mcall (d + 2) 242 [vR 0, vI x1] (LR z f) = some res := fun res H => mcall_i (mq242 (cu := [])).2.2 rfl (vc242_0 d x1 z f res H)
  have h : ¬ x1 = -1 := im1n (by omega)
  rw [hz] at go
  exact go _ ⟨fun _ => ⟨fun _ => ⟨fun q => absurd rfl q, fun _ => rfl⟩, fun q => absurd hb q⟩, fun q => absurd q h⟩
set_option maxRecDepth 100000 in
theorem b195_1 (call : QC FA) (x1 : Int32) (L : QH FA) (F : Nat) : rnG call 195 (F + 2) 0 [some (vR 0), some (vI x1)] [] L = rnG call 195 F 2 [some (vR 0), some (vI x1)] [vI 0, vR 0] L := rfl
set_option maxRecDepth 100000 in
theorem b195_2 (call : QC FA) (y : Int32) (ls : List (Option PV)) (z : Nat → Int32) (f : Nat → FA) (F : Nat) : rnG call 195 (F + 1) 2 ls [vI y, vR 0] (LR z f) = rnG call 195 F 3 ls [] (LR (uZ z 0 y) f) := rfl
set_option maxRecDepth 100000 in
theorem b195_3 (call : QC FA) (x1 : Int32) (L : QH FA) (F : Nat) : rnG call 195 (F + 2) 3 [some (vR 0), some (vI x1)] [] L = rnG call 195 F 5 [some (vR 0), some (vI x1)] [vI ((-1)), vI x1] L := rfl
set_option maxRecDepth 100000 in
theorem b195_4 (call : QC FA) (x y : Int32) (ls : List (Option PV)) (L : QH FA) (F : Nat) : rnG call 195 (F + 1) 5 ls [vI y, vI x] L = bif pcmp 1 x y then rnG call 195 F 11 ls [] L else rnG call 195 F 6 ls [] L := rfl
set_option maxRecDepth 100000 in
theorem b195_5 (call : QC FA) (x1 : Int32) (L : QH FA) (F : Nat) : rnG call 195 (F + 4) 11 [some (vR 0), some (vI x1)] [] L = rnG call 195 F 15 [some (vR 0), some (vI x1)] [vI 50, vI 1, vI x1, vR 0] L := rfl
set_option maxRecDepth 100000 in
theorem b195_6 (call : QC FA) (a0 : Int32) (a1 : Int32) (a2 : Int32) (ls : List (Option PV)) (z : Nat → Int32) (f : Nat → FA) (F : Nat) : rnG call 195 (F + 1) 15 ls [vI a2, vI a1, vI a0, vR 0] (LR z f) = cbd (call 47 [vR 0, vI a0, vI a1, vI a2] (LR z f)) (fun r L' => rnG call 195 F 16 ls (r.toList ++ []) L') := pcY (ih := rnG call 195 F) (call := call) (a := 47) (b := 3) (v := 12) (t := 16) (x := 0) (ls := ls) (As := [vI a0, vI a1, vI a2]) (st' := []) (L := LR z f) rfl rfl rfl
set_option maxRecDepth 100000 in
theorem b195_7 (call : QC FA) (x : Int32) (ls : List (Option PV)) (L : QH FA) (F : Nat) : rnG call 195 (F + 1) 16 ls [vI x] L = bif pcmp 0 x 0 then rnG call 195 F 21 ls [] L else rnG call 195 F 17 ls [] L := rfl
set_option maxRecDepth 100000 in
theorem b195_8 (call : QC FA) (x1 : Int32) (L : QH FA) (F : Nat) : rnG call 195 (F + 1) 21 [some (vR 0), some (vI x1)] [] L = rnG call 195 F 22 [some (vR 0), some (vI x1)] [vI ((-1))] L := rfl
set_option maxRecDepth 100000 in
theorem b195_9 (call : QC FA) (x : Int32) (ls : List (Option PV)) (L : QH FA) (F : Nat) : rnG call 195 (F + 1) 22 ls [vI x] L = some (some (vI x), L) := rfl
set_option maxRecDepth 100000 in
theorem b195_10 (call : QC FA) (x1 : Int32) (z : Nat → Int32) (f : Nat → FA) (F : Nat) : rnG call 195 (F + 3) 17 [some (vR 0), some (vI x1)] [] (LR z f) = rnG call 195 F 20 [some (vR 0), some (vI x1)] [vI 8, vI (z 54)] (LR z f) := rfl
set_option maxRecDepth 100000 in
theorem b195_11 (call : QC FA) (x y : Int32) (ls : List (Option PV)) (L : QH FA) (F : Nat) : rnG call 195 (F + 1) 20 ls [vI y, vI x] L = bif pcmp 1 x y then rnG call 195 F 23 ls [] L else rnG call 195 F 21 ls [] L := rfl
set_option maxRecDepth 100000 in
theorem b195_12 (call : QC FA) (x1 : Int32) (z : Nat → Int32) (f : Nat → FA) (F : Nat) : rnG call 195 (F + 5) 23 [some (vR 0), some (vI x1)] [] (LR z f) = rnG call 195 F 28 [some (vR 0), some (vI x1)] [vI x1, vI (z 54), vR 31] (LR z f) := rfl
set_option maxRecDepth 100000 in
theorem b195_13 (call : QC FA) (x y : Int32) (ls : List (Option PV)) (z : Nat → Int32) (f : Nat → FA) (F : Nat) : rnG call 195 (F + 1) 28 ls [vI y, vI x, vR 31] (LR z f) = bif (Nat.beq 0 0 && pin x 8) then rnG call 195 F 29 ls [] (LR z (uA f 31 (upd (f 31) (ix x) y))) else none := rfl
set_option maxRecDepth 100000 in
theorem b195_14 (call : QC FA) (x1 : Int32) (z : Nat → Int32) (f : Nat → FA) (F : Nat) : rnG call 195 (F + 5) 29 [some (vR 0), some (vI x1)] [] (LR z f) = rnG call 195 F 34 [some (vR 0), some (vI x1)] [vI ((z 54) + 1), vR 0] (LR z f) := rfl
set_option maxRecDepth 100000 in
theorem b195_15 (call : QC FA) (y : Int32) (ls : List (Option PV)) (z : Nat → Int32) (f : Nat → FA) (F : Nat) : rnG call 195 (F + 1) 34 ls [vI y, vR 0] (LR z f) = rnG call 195 F 35 ls [] (LR (uZ z 54 y) f) := rfl
set_option maxRecDepth 100000 in
theorem b195_16 (call : QC FA) (x1 : Int32) (z : Nat → Int32) (f : Nat → FA) (F : Nat) : rnG call 195 (F + 2) 35 [some (vR 0), some (vI x1)] [] (LR z f) = rnG call 195 F 37 [some (vR 0), some (vI x1)] [vI (z 54)] (LR z f) := rfl
set_option maxRecDepth 100000 in
theorem b195_17 (call : QC FA) (x : Int32) (ls : List (Option PV)) (L : QH FA) (F : Nat) : rnG call 195 (F + 1) 37 ls [vI x] L = some (some (vI x), L) := rfl
set_option maxRecDepth 100000 in
theorem b195_18 (call : QC FA) (x1 : Int32) (L : QH FA) (F : Nat) : rnG call 195 (F + 2) 6 [some (vR 0), some (vI x1)] [] L = rnG call 195 F 8 [some (vR 0), some (vI x1)] [vI 0, vR 0] L := rfl
set_option maxRecDepth 100000 in
theorem b195_19 (call : QC FA) (y : Int32) (ls : List (Option PV)) (z : Nat → Int32) (f : Nat → FA) (F : Nat) : rnG call 195 (F + 1) 8 ls [vI y, vR 0] (LR z f) = rnG call 195 F 9 ls [] (LR (uZ z 54 y) f) := rfl
set_option maxRecDepth 100000 in
theorem b195_20 (call : QC FA) (x1 : Int32) (L : QH FA) (F : Nat) : rnG call 195 (F + 1) 9 [some (vR 0), some (vI x1)] [] L = rnG call 195 F 10 [some (vR 0), some (vI x1)] [vI 0] L := rfl
set_option maxRecDepth 100000 in
theorem b195_21 (call : QC FA) (x : Int32) (ls : List (Option PV)) (L : QH FA) (F : Nat) : rnG call 195 (F + 1) 10 ls [vI x] L = some (some (vI x), L) := rfl
theorem vc195_0 (d : Nat) (x1 : Int32) (z : Nat → Int32) (f : Nat → FA) (res : Option PV × QH FA) (H : ((¬ x1 = (-1) → (((1 ≤ I x1 ∧ I x1 ≤ 50) → ((¬ z 54 = 8 → (pin (z 54) 8 = true ∧ res = (some (vI ((z 54) + 1)), LR (uZ (uZ z 0 0) 54 ((z 54) + 1)) (uA f 31 (upd (f 31) (ix (z 54)) x1))))) ∧ (z 54 = 8 → res = (some (vI ((-1))), LR (uZ z 0 0) f)))) ∧ ((¬ (1 ≤ I x1 ∧ I x1 ≤ 50)) → res = (some (vI ((-1))), LR (uZ z 0 0) f)))) ∧ (x1 = (-1) → res = (some (vI 0), LR (uZ (uZ z 0 0) 54 0) f)))) : RC (mcall (d + 1)) (mP 195) 0 [some (vR 0), some (vI x1)] [] (LR z f) res := by
  refine rc_b (i' := 2) (ls' := [some (vR 0), some (vI x1)]) (st' := [vI 0, vR 0]) (L' := LR z f) 2 (b195_1 (mcall (d + 1)) x1 _) ?_
  refine rc_b (i' := 3) (ls' := [some (vR 0), some (vI x1)]) (st' := []) (L' := LR (uZ z 0 0) f) 1 (b195_2 (mcall (d + 1)) 0 _ z f) ?_
  refine rc_b (i' := 5) (ls' := [some (vR 0), some (vI x1)]) (st' := [vI ((-1)), vI x1]) (L' := LR (uZ z 0 0) f) 2 (b195_3 (mcall (d + 1)) x1 _) ?_
  refine rc_if (it := 11) (ie := 6) (ls' := [some (vR 0), some (vI x1)]) (st' := []) (b195_4 (mcall (d + 1)) x1 ((-1)) _ _) (fun q1 => ?_) (fun q1 => ?_)
  · have H := H.1 (cI1t q1)
    refine rc_b (i' := 15) (ls' := [some (vR 0), some (vI x1)]) (st' := [vI 50, vI 1, vI x1, vR 0]) (L' := LR (uZ z 0 0) f) 4 (b195_5 (mcall (d + 1)) x1 _) ?_
    refine rc_call (t := 16) (ls' := [some (vR 0), some (vI x1)]) (st' := []) (b195_6 (mcall (d + 1)) x1 1 50 _ (uZ z 0 0) f) (isIn_r _ x1 1 50 (uZ z 0 0) f) ?_
    show RC (mcall (d + 1)) (mP 195) 16 [some (vR 0), some (vI x1)] [vI (bI (1 ≤ I x1 ∧ I x1 ≤ 50))] (LR (uZ z 0 0) f) res
    refine rc_bz (it := 21) (ie := 17) (ls' := [some (vR 0), some (vI x1)]) (st' := []) (b195_7 (mcall (d + 1)) (bI (1 ≤ I x1 ∧ I x1 ≤ 50)) _ _) (fun q2 => ?_) (fun q2 => ?_)
    · have H := H.2 q2
      refine rc_b (i' := 22) (ls' := [some (vR 0), some (vI x1)]) (st' := [vI ((-1))]) (L' := LR (uZ z 0 0) f) 1 (b195_8 (mcall (d + 1)) x1 _) ?_
      subst H
      exact rc_ret (b195_9 (mcall (d + 1)) _ _ _)
    · have H := H.1 q2
      refine rc_b (i' := 20) (ls' := [some (vR 0), some (vI x1)]) (st' := [vI 8, vI (z 54)]) (L' := LR (uZ z 0 0) f) 3 (b195_10 (mcall (d + 1)) x1 (uZ z 0 0) f) ?_
      refine rc_if (it := 23) (ie := 21) (ls' := [some (vR 0), some (vI x1)]) (st' := []) (b195_11 (mcall (d + 1)) (z 54) 8 _ _) (fun q3 => ?_) (fun q3 => ?_)
      · have H := H.1 (cI1t q3)
        refine rc_b (i' := 28) (ls' := [some (vR 0), some (vI x1)]) (st' := [vI x1, vI (z 54), vR 31]) (L' := LR (uZ z 0 0) f) 5 (b195_12 (mcall (d + 1)) x1 (uZ z 0 0) f) ?_
        obtain ⟨g1, H⟩ := H
        refine rc_g (i' := 29) (ls' := [some (vR 0), some (vI x1)]) (st' := []) (L' := LR (uZ z 0 0) (uA f 31 (upd (f 31) (ix (z 54)) x1))) (b195_13 (mcall (d + 1)) (z 54) x1 _ (uZ z 0 0) f) (pinG g1) ?_
        refine rc_b (i' := 34) (ls' := [some (vR 0), some (vI x1)]) (st' := [vI ((z 54) + 1), vR 0]) (L' := LR (uZ z 0 0) (uA f 31 (upd (f 31) (ix (z 54)) x1))) 5 (b195_14 (mcall (d + 1)) x1 (uZ z 0 0) (uA f 31 (upd (f 31) (ix (z 54)) x1))) ?_
        refine rc_b (i' := 35) (ls' := [some (vR 0), some (vI x1)]) (st' := []) (L' := LR (uZ (uZ z 0 0) 54 ((z 54) + 1)) (uA f 31 (upd (f 31) (ix (z 54)) x1))) 1 (b195_15 (mcall (d + 1)) ((z 54) + 1) _ (uZ z 0 0) (uA f 31 (upd (f 31) (ix (z 54)) x1))) ?_
        refine rc_b (i' := 37) (ls' := [some (vR 0), some (vI x1)]) (st' := [vI ((z 54) + 1)]) (L' := LR (uZ (uZ z 0 0) 54 ((z 54) + 1)) (uA f 31 (upd (f 31) (ix (z 54)) x1))) 2 (b195_16 (mcall (d + 1)) x1 (uZ (uZ z 0 0) 54 ((z 54) + 1)) (uA f 31 (upd (f 31) (ix (z 54)) x1))) ?_
        subst H
        exact rc_ret (b195_17 (mcall (d + 1)) _ _ _)
      · have H := H.2 (cI1f q3)
        refine rc_b (i' := 22) (ls' := [some (vR 0), some (vI x1)]) (st' := [vI ((-1))]) (L' := LR (uZ z 0 0) f) 1 (b195_8 (mcall (d + 1)) x1 _) ?_
        subst H
        exact rc_ret (b195_9 (mcall (d + 1)) _ _ _)
  · have H := H.2 (cI1f q1)
    refine rc_b (i' := 8) (ls' := [some (vR 0), some (vI x1)]) (st' := [vI 0, vR 0]) (L' := LR (uZ z 0 0) f) 2 (b195_18 (mcall (d + 1)) x1 _) ?_
    refine rc_b (i' := 9) (ls' := [some (vR 0), some (vI x1)]) (st' := []) (L' := LR (uZ (uZ z 0 0) 54 0) f) 1 (b195_19 (mcall (d + 1)) 0 _ (uZ z 0 0) f) ?_
    refine rc_b (i' := 10) (ls' := [some (vR 0), some (vI x1)]) (st' := [vI 0]) (L' := LR (uZ (uZ z 0 0) 54 0) f) 1 (b195_20 (mcall (d + 1)) x1 _) ?_
    subst H
    exact rc_ret (b195_21 (mcall (d + 1)) _ _ _)
theorem m_candle_e (d : Nat) {x1 : Int32} {z : Nat → Int32} {f : Nat → FA} (h : x1 = -1) : mcall (d + 2) 195 [vR 0, vI x1] (LR z f) = some (some (vI 0), LR (uZ (uZ z 0 0) 54 0) f) := by
  have go : ∀ res, _ → mcall (d + 2) 195 [vR 0, vI x1] (LR z f) = some res := fun res H => mcall_i (mq195 (cu := [])).2.2 rfl (vc195_0 d x1 z f res H)
  exact go _ ⟨fun q => absurd h q, fun _ => rfl⟩
theorem m_candle_r (d : Nat) {x1 : Int32} {z : Nat → Int32} {f : Nat → FA} (h : ¬ x1 = -1) (hb : ¬ (1 ≤ I x1 ∧ I x1 ≤ 50)) : mcall (d + 2) 195 [vR 0, vI x1] (LR z f) = some (some (vI (-1)), LR (uZ z 0 0) f) := by
  have go : ∀ res, _ → mcall (d + 2) 195 [vR 0, vI x1] (LR z f) = some res := fun res H => mcall_i (mq195 (cu := [])).2.2 rfl (vc195_0 d x1 z f res H)
  exact go _ ⟨fun _ => ⟨fun q => absurd q hb, fun _ => rfl⟩, fun q => absurd q h⟩
theorem m_candle_p (d : Nat) {x1 : Int32} {z : Nat → Int32} {f : Nat → FA} {n : Nat} (hb : 1 ≤ I x1 ∧ I x1 ≤ 50) (hz : z 54 = nI n) (hn : n < 8) : mcall (d + 2) 195 [vR 0, vI x1] (LR z f) = some (some (vI (nI (n + 1))), LR (uZ (uZ z 0 0) 54 (nI (n + 1))) (uA f 31 (upd (f 31) n x1))) := by
  have go : ∀ res, _ → mcall (d + 2) 195 [vR 0, vI x1] (LR z f) = some res := fun res H => mcall_i (mq195 (cu := [])).2.2 rfl (vc195_0 d x1 z f res H)
  have h : ¬ x1 = -1 := im1n (by omega)
  rw [hz, show nI n + 1 = nI (n + 1) from nI_add n 1, ix_nI (j := n) (by omega)] at go
  exact go _ ⟨fun _ => ⟨fun _ => ⟨fun _ => ⟨pin_nI (by omega) (by omega), rfl⟩, fun q => absurd q (nI_ne (b := 8) (by omega) (by omega) (by omega))⟩, fun q => absurd hb q⟩, fun q => absurd q h⟩
theorem m_candle_f (d : Nat) {x1 : Int32} {z : Nat → Int32} {f : Nat → FA} (hb : 1 ≤ I x1 ∧ I x1 ≤ 50) (hz : z 54 = nI 8) : mcall (d + 2) 195 [vR 0, vI x1] (LR z f) = some (some (vI (-1)), LR (uZ z 0 0) f) := by
  have go : ∀ res, _ → mcall (d + 2) 195 [vR 0, vI x1] (LR z f) = some res := fun res H => mcall_i (mq195 (cu := [])).2.2 rfl (vc195_0 d x1 z f res H)
  have h : ¬ x1 = -1 := im1n (by omega)
  rw [hz] at go
  exact go _ ⟨fun _ => ⟨fun _ => ⟨fun q => absurd rfl q, fun _ => rfl⟩, fun q => absurd hb q⟩, fun q => absurd q h⟩
set_option maxRecDepth 100000 in
theorem b276_1 (call : QC FA) (x1 : Int32) (L : QH FA) (F : Nat) : rnG call 276 (F + 2) 0 [some (vR 0), some (vI x1)] [] L = rnG call 276 F 2 [some (vR 0), some (vI x1)] [vI 0, vR 0] L := rfl
set_option maxRecDepth 100000 in
theorem b276_2 (call : QC FA) (y : Int32) (ls : List (Option PV)) (z : Nat → Int32) (f : Nat → FA) (F : Nat) : rnG call 276 (F + 1) 2 ls [vI y, vR 0] (LR z f) = rnG call 276 F 3 ls [] (LR (uZ z 0 y) f) := rfl
set_option maxRecDepth 100000 in
theorem b276_3 (call : QC FA) (x1 : Int32) (L : QH FA) (F : Nat) : rnG call 276 (F + 2) 3 [some (vR 0), some (vI x1)] [] L = rnG call 276 F 5 [some (vR 0), some (vI x1)] [vI ((-1)), vI x1] L := rfl
set_option maxRecDepth 100000 in
theorem b276_4 (call : QC FA) (x y : Int32) (ls : List (Option PV)) (L : QH FA) (F : Nat) : rnG call 276 (F + 1) 5 ls [vI y, vI x] L = bif pcmp 1 x y then rnG call 276 F 11 ls [] L else rnG call 276 F 6 ls [] L := rfl
set_option maxRecDepth 100000 in
theorem b276_5 (call : QC FA) (x1 : Int32) (L : QH FA) (F : Nat) : rnG call 276 (F + 4) 11 [some (vR 0), some (vI x1)] [] L = rnG call 276 F 15 [some (vR 0), some (vI x1)] [vI 30, vI 0, vI x1, vR 0] L := rfl
set_option maxRecDepth 100000 in
theorem b276_6 (call : QC FA) (a0 : Int32) (a1 : Int32) (a2 : Int32) (ls : List (Option PV)) (z : Nat → Int32) (f : Nat → FA) (F : Nat) : rnG call 276 (F + 1) 15 ls [vI a2, vI a1, vI a0, vR 0] (LR z f) = cbd (call 47 [vR 0, vI a0, vI a1, vI a2] (LR z f)) (fun r L' => rnG call 276 F 16 ls (r.toList ++ []) L') := pcY (ih := rnG call 276 F) (call := call) (a := 47) (b := 3) (v := 12) (t := 16) (x := 0) (ls := ls) (As := [vI a0, vI a1, vI a2]) (st' := []) (L := LR z f) rfl rfl rfl
set_option maxRecDepth 100000 in
theorem b276_7 (call : QC FA) (x : Int32) (ls : List (Option PV)) (L : QH FA) (F : Nat) : rnG call 276 (F + 1) 16 ls [vI x] L = bif pcmp 0 x 0 then rnG call 276 F 21 ls [] L else rnG call 276 F 17 ls [] L := rfl
set_option maxRecDepth 100000 in
theorem b276_8 (call : QC FA) (x1 : Int32) (L : QH FA) (F : Nat) : rnG call 276 (F + 1) 21 [some (vR 0), some (vI x1)] [] L = rnG call 276 F 22 [some (vR 0), some (vI x1)] [vI ((-1))] L := rfl
set_option maxRecDepth 100000 in
theorem b276_9 (call : QC FA) (x : Int32) (ls : List (Option PV)) (L : QH FA) (F : Nat) : rnG call 276 (F + 1) 22 ls [vI x] L = some (some (vI x), L) := rfl
set_option maxRecDepth 100000 in
theorem b276_10 (call : QC FA) (x1 : Int32) (z : Nat → Int32) (f : Nat → FA) (F : Nat) : rnG call 276 (F + 3) 17 [some (vR 0), some (vI x1)] [] (LR z f) = rnG call 276 F 20 [some (vR 0), some (vI x1)] [vI 12, vI (z 61)] (LR z f) := rfl
set_option maxRecDepth 100000 in
theorem b276_11 (call : QC FA) (x y : Int32) (ls : List (Option PV)) (L : QH FA) (F : Nat) : rnG call 276 (F + 1) 20 ls [vI y, vI x] L = bif pcmp 1 x y then rnG call 276 F 23 ls [] L else rnG call 276 F 21 ls [] L := rfl
set_option maxRecDepth 100000 in
theorem b276_12 (call : QC FA) (x1 : Int32) (z : Nat → Int32) (f : Nat → FA) (F : Nat) : rnG call 276 (F + 5) 23 [some (vR 0), some (vI x1)] [] (LR z f) = rnG call 276 F 28 [some (vR 0), some (vI x1)] [vI x1, vI (z 61), vR 36] (LR z f) := rfl
set_option maxRecDepth 100000 in
theorem b276_13 (call : QC FA) (x y : Int32) (ls : List (Option PV)) (z : Nat → Int32) (f : Nat → FA) (F : Nat) : rnG call 276 (F + 1) 28 ls [vI y, vI x, vR 36] (LR z f) = bif (Nat.beq 0 0 && pin x 12) then rnG call 276 F 29 ls [] (LR z (uA f 36 (upd (f 36) (ix x) y))) else none := rfl
set_option maxRecDepth 100000 in
theorem b276_14 (call : QC FA) (x1 : Int32) (z : Nat → Int32) (f : Nat → FA) (F : Nat) : rnG call 276 (F + 5) 29 [some (vR 0), some (vI x1)] [] (LR z f) = rnG call 276 F 34 [some (vR 0), some (vI x1)] [vI ((z 61) + 1), vR 0] (LR z f) := rfl
set_option maxRecDepth 100000 in
theorem b276_15 (call : QC FA) (y : Int32) (ls : List (Option PV)) (z : Nat → Int32) (f : Nat → FA) (F : Nat) : rnG call 276 (F + 1) 34 ls [vI y, vR 0] (LR z f) = rnG call 276 F 35 ls [] (LR (uZ z 61 y) f) := rfl
set_option maxRecDepth 100000 in
theorem b276_16 (call : QC FA) (x1 : Int32) (z : Nat → Int32) (f : Nat → FA) (F : Nat) : rnG call 276 (F + 2) 35 [some (vR 0), some (vI x1)] [] (LR z f) = rnG call 276 F 37 [some (vR 0), some (vI x1)] [vI (z 61)] (LR z f) := rfl
set_option maxRecDepth 100000 in
theorem b276_17 (call : QC FA) (x : Int32) (ls : List (Option PV)) (L : QH FA) (F : Nat) : rnG call 276 (F + 1) 37 ls [vI x] L = some (some (vI x), L) := rfl
set_option maxRecDepth 100000 in
theorem b276_18 (call : QC FA) (x1 : Int32) (L : QH FA) (F : Nat) : rnG call 276 (F + 2) 6 [some (vR 0), some (vI x1)] [] L = rnG call 276 F 8 [some (vR 0), some (vI x1)] [vI 0, vR 0] L := rfl
set_option maxRecDepth 100000 in
theorem b276_19 (call : QC FA) (y : Int32) (ls : List (Option PV)) (z : Nat → Int32) (f : Nat → FA) (F : Nat) : rnG call 276 (F + 1) 8 ls [vI y, vR 0] (LR z f) = rnG call 276 F 9 ls [] (LR (uZ z 61 y) f) := rfl
set_option maxRecDepth 100000 in
theorem b276_20 (call : QC FA) (x1 : Int32) (L : QH FA) (F : Nat) : rnG call 276 (F + 1) 9 [some (vR 0), some (vI x1)] [] L = rnG call 276 F 10 [some (vR 0), some (vI x1)] [vI 0] L := rfl
set_option maxRecDepth 100000 in
theorem b276_21 (call : QC FA) (x : Int32) (ls : List (Option PV)) (L : QH FA) (F : Nat) : rnG call 276 (F + 1) 10 ls [vI x] L = some (some (vI x), L) := rfl
theorem vc276_0 (d : Nat) (x1 : Int32) (z : Nat → Int32) (f : Nat → FA) (res : Option PV × QH FA) (H : ((¬ x1 = (-1) → (((0 ≤ I x1 ∧ I x1 ≤ 30) → ((¬ z 61 = 12 → (pin (z 61) 12 = true ∧ res = (some (vI ((z 61) + 1)), LR (uZ (uZ z 0 0) 61 ((z 61) + 1)) (uA f 36 (upd (f 36) (ix (z 61)) x1))))) ∧ (z 61 = 12 → res = (some (vI ((-1))), LR (uZ z 0 0) f)))) ∧ ((¬ (0 ≤ I x1 ∧ I x1 ≤ 30)) → res = (some (vI ((-1))), LR (uZ z 0 0) f)))) ∧ (x1 = (-1) → res = (some (vI 0), LR (uZ (uZ z 0 0) 61 0) f)))) : RC (mcall (d + 1)) (mP 276) 0 [some (vR 0), some (vI x1)] [] (LR z f) res := by
  refine rc_b (i' := 2) (ls' := [some (vR 0), some (vI x1)]) (st' := [vI 0, vR 0]) (L' := LR z f) 2 (b276_1 (mcall (d + 1)) x1 _) ?_
  refine rc_b (i' := 3) (ls' := [some (vR 0), some (vI x1)]) (st' := []) (L' := LR (uZ z 0 0) f) 1 (b276_2 (mcall (d + 1)) 0 _ z f) ?_
  refine rc_b (i' := 5) (ls' := [some (vR 0), some (vI x1)]) (st' := [vI ((-1)), vI x1]) (L' := LR (uZ z 0 0) f) 2 (b276_3 (mcall (d + 1)) x1 _) ?_
  refine rc_if (it := 11) (ie := 6) (ls' := [some (vR 0), some (vI x1)]) (st' := []) (b276_4 (mcall (d + 1)) x1 ((-1)) _ _) (fun q1 => ?_) (fun q1 => ?_)
  · have H := H.1 (cI1t q1)
    refine rc_b (i' := 15) (ls' := [some (vR 0), some (vI x1)]) (st' := [vI 30, vI 0, vI x1, vR 0]) (L' := LR (uZ z 0 0) f) 4 (b276_5 (mcall (d + 1)) x1 _) ?_
    refine rc_call (t := 16) (ls' := [some (vR 0), some (vI x1)]) (st' := []) (b276_6 (mcall (d + 1)) x1 0 30 _ (uZ z 0 0) f) (isIn_r _ x1 0 30 (uZ z 0 0) f) ?_
    show RC (mcall (d + 1)) (mP 276) 16 [some (vR 0), some (vI x1)] [vI (bI (0 ≤ I x1 ∧ I x1 ≤ 30))] (LR (uZ z 0 0) f) res
    refine rc_bz (it := 21) (ie := 17) (ls' := [some (vR 0), some (vI x1)]) (st' := []) (b276_7 (mcall (d + 1)) (bI (0 ≤ I x1 ∧ I x1 ≤ 30)) _ _) (fun q2 => ?_) (fun q2 => ?_)
    · have H := H.2 q2
      refine rc_b (i' := 22) (ls' := [some (vR 0), some (vI x1)]) (st' := [vI ((-1))]) (L' := LR (uZ z 0 0) f) 1 (b276_8 (mcall (d + 1)) x1 _) ?_
      subst H
      exact rc_ret (b276_9 (mcall (d + 1)) _ _ _)
    · have H := H.1 q2
      refine rc_b (i' := 20) (ls' := [some (vR 0), some (vI x1)]) (st' := [vI 12, vI (z 61)]) (L' := LR (uZ z 0 0) f) 3 (b276_10 (mcall (d + 1)) x1 (uZ z 0 0) f) ?_
      refine rc_if (it := 23) (ie := 21) (ls' := [some (vR 0), some (vI x1)]) (st' := []) (b276_11 (mcall (d + 1)) (z 61) 12 _ _) (fun q3 => ?_) (fun q3 => ?_)
      · have H := H.1 (cI1t q3)
        refine rc_b (i' := 28) (ls' := [some (vR 0), some (vI x1)]) (st' := [vI x1, vI (z 61), vR 36]) (L' := LR (uZ z 0 0) f) 5 (b276_12 (mcall (d + 1)) x1 (uZ z 0 0) f) ?_
        obtain ⟨g1, H⟩ := H
        refine rc_g (i' := 29) (ls' := [some (vR 0), some (vI x1)]) (st' := []) (L' := LR (uZ z 0 0) (uA f 36 (upd (f 36) (ix (z 61)) x1))) (b276_13 (mcall (d + 1)) (z 61) x1 _ (uZ z 0 0) f) (pinG g1) ?_
        refine rc_b (i' := 34) (ls' := [some (vR 0), some (vI x1)]) (st' := [vI ((z 61) + 1), vR 0]) (L' := LR (uZ z 0 0) (uA f 36 (upd (f 36) (ix (z 61)) x1))) 5 (b276_14 (mcall (d + 1)) x1 (uZ z 0 0) (uA f 36 (upd (f 36) (ix (z 61)) x1))) ?_
        refine rc_b (i' := 35) (ls' := [some (vR 0), some (vI x1)]) (st' := []) (L' := LR (uZ (uZ z 0 0) 61 ((z 61) + 1)) (uA f 36 (upd (f 36) (ix (z 61)) x1))) 1 (b276_15 (mcall (d + 1)) ((z 61) + 1) _ (uZ z 0 0) (uA f 36 (upd (f 36) (ix (z 61)) x1))) ?_
        refine rc_b (i' := 37) (ls' := [some (vR 0), some (vI x1)]) (st' := [vI ((z 61) + 1)]) (L' := LR (uZ (uZ z 0 0) 61 ((z 61) + 1)) (uA f 36 (upd (f 36) (ix (z 61)) x1))) 2 (b276_16 (mcall (d + 1)) x1 (uZ (uZ z 0 0) 61 ((z 61) + 1)) (uA f 36 (upd (f 36) (ix (z 61)) x1))) ?_
        subst H
        exact rc_ret (b276_17 (mcall (d + 1)) _ _ _)
      · have H := H.2 (cI1f q3)
        refine rc_b (i' := 22) (ls' := [some (vR 0), some (vI x1)]) (st' := [vI ((-1))]) (L' := LR (uZ z 0 0) f) 1 (b276_8 (mcall (d + 1)) x1 _) ?_
        subst H
        exact rc_ret (b276_9 (mcall (d + 1)) _ _ _)
  · have H := H.2 (cI1f q1)
    refine rc_b (i' := 8) (ls' := [some (vR 0), some (vI x1)]) (st' := [vI 0, vR 0]) (L' := LR (uZ z 0 0) f) 2 (b276_18 (mcall (d + 1)) x1 _) ?_
    refine rc_b (i' := 9) (ls' := [some (vR 0), some (vI x1)]) (st' := []) (L' := LR (uZ (uZ z 0 0) 61 0) f) 1 (b276_19 (mcall (d + 1)) 0 _ (uZ z 0 0) f) ?_
    refine rc_b (i' := 10) (ls' := [some (vR 0), some (vI x1)]) (st' := [vI 0]) (L' := LR (uZ (uZ z 0 0) 61 0) f) 1 (b276_20 (mcall (d + 1)) x1 _) ?_
    subst H
    exact rc_ret (b276_21 (mcall (d + 1)) _ _ _)
theorem m_stands_e (d : Nat) {x1 : Int32} {z : Nat → Int32} {f : Nat → FA} (h : x1 = -1) : mcall (d + 2) 276 [vR 0, vI x1] (LR z f) = some (some (vI 0), LR (uZ (uZ z 0 0) 61 0) f) := by
  have go : ∀ res, _ → mcall (d + 2) 276 [vR 0, vI x1] (LR z f) = some res := fun res H => mcall_i (mq276 (cu := [])).2.2 rfl (vc276_0 d x1 z f res H)
  exact go _ ⟨fun q => absurd h q, fun _ => rfl⟩
theorem m_stands_r (d : Nat) {x1 : Int32} {z : Nat → Int32} {f : Nat → FA} (h : ¬ x1 = -1) (hb : ¬ (0 ≤ I x1 ∧ I x1 ≤ 30)) : mcall (d + 2) 276 [vR 0, vI x1] (LR z f) = some (some (vI (-1)), LR (uZ z 0 0) f) := by
  have go : ∀ res, _ → mcall (d + 2) 276 [vR 0, vI x1] (LR z f) = some res := fun res H => mcall_i (mq276 (cu := [])).2.2 rfl (vc276_0 d x1 z f res H)
  exact go _ ⟨fun _ => ⟨fun q => absurd q hb, fun _ => rfl⟩, fun q => absurd q h⟩
theorem m_stands_p (d : Nat) {x1 : Int32} {z : Nat → Int32} {f : Nat → FA} {n : Nat} (hb : 0 ≤ I x1 ∧ I x1 ≤ 30) (hz : z 61 = nI n) (hn : n < 12) : mcall (d + 2) 276 [vR 0, vI x1] (LR z f) = some (some (vI (nI (n + 1))), LR (uZ (uZ z 0 0) 61 (nI (n + 1))) (uA f 36 (upd (f 36) n x1))) := by
  have go : ∀ res, _ → mcall (d + 2) 276 [vR 0, vI x1] (LR z f) = some res := fun res H => mcall_i (mq276 (cu := [])).2.2 rfl (vc276_0 d x1 z f res H)
  have h : ¬ x1 = -1 := im1n (by omega)
  rw [hz, show nI n + 1 = nI (n + 1) from nI_add n 1, ix_nI (j := n) (by omega)] at go
  exact go _ ⟨fun _ => ⟨fun _ => ⟨fun _ => ⟨pin_nI (by omega) (by omega), rfl⟩, fun q => absurd q (nI_ne (b := 12) (by omega) (by omega) (by omega))⟩, fun q => absurd hb q⟩, fun q => absurd q h⟩
theorem m_stands_f (d : Nat) {x1 : Int32} {z : Nat → Int32} {f : Nat → FA} (hb : 0 ≤ I x1 ∧ I x1 ≤ 30) (hz : z 61 = nI 12) : mcall (d + 2) 276 [vR 0, vI x1] (LR z f) = some (some (vI (-1)), LR (uZ z 0 0) f) := by
  have go : ∀ res, _ → mcall (d + 2) 276 [vR 0, vI x1] (LR z f) = some res := fun res H => mcall_i (mq276 (cu := [])).2.2 rfl (vc276_0 d x1 z f res H)
  have h : ¬ x1 = -1 := im1n (by omega)
  rw [hz] at go
  exact go _ ⟨fun _ => ⟨fun _ => ⟨fun q => absurd rfl q, fun _ => rfl⟩, fun q => absurd hb q⟩, fun q => absurd q h⟩
set_option maxRecDepth 100000 in
theorem b203_1 (call : QC FA) (x1 : Int32) (x2 : Int32) (L : QH FA) (F : Nat) : rnG call 203 (F + 2) 0 [some (vR 0), some (vI x1), some (vI x2)] [] L = rnG call 203 F 2 [some (vR 0), some (vI x1), some (vI x2)] [vI 0, vR 0] L := rfl
set_option maxRecDepth 100000 in
theorem b203_2 (call : QC FA) (y : Int32) (ls : List (Option PV)) (z : Nat → Int32) (f : Nat → FA) (F : Nat) : rnG call 203 (F + 1) 2 ls [vI y, vR 0] (LR z f) = rnG call 203 F 3 ls [] (LR (uZ z 0 y) f) := rfl
set_option maxRecDepth 100000 in
theorem b203_3 (call : QC FA) (x1 : Int32) (x2 : Int32) (L : QH FA) (F : Nat) : rnG call 203 (F + 2) 3 [some (vR 0), some (vI x1), some (vI x2)] [] L = rnG call 203 F 5 [some (vR 0), some (vI x1), some (vI x2)] [vI ((-1)), vI x1] L := rfl
set_option maxRecDepth 100000 in
theorem b203_4 (call : QC FA) (x y : Int32) (ls : List (Option PV)) (L : QH FA) (F : Nat) : rnG call 203 (F + 1) 5 ls [vI y, vI x] L = bif pcmp 1 x y then rnG call 203 F 11 ls [] L else rnG call 203 F 6 ls [] L := rfl
set_option maxRecDepth 100000 in
theorem b203_5 (call : QC FA) (x1 : Int32) (x2 : Int32) (L : QH FA) (F : Nat) : rnG call 203 (F + 4) 11 [some (vR 0), some (vI x1), some (vI x2)] [] L = rnG call 203 F 15 [some (vR 0), some (vI x1), some (vI x2)] [vI 50, vI 1, vI x1, vR 0] L := rfl
set_option maxRecDepth 100000 in
theorem b203_6 (call : QC FA) (a0 : Int32) (a1 : Int32) (a2 : Int32) (ls : List (Option PV)) (z : Nat → Int32) (f : Nat → FA) (F : Nat) : rnG call 203 (F + 1) 15 ls [vI a2, vI a1, vI a0, vR 0] (LR z f) = cbd (call 47 [vR 0, vI a0, vI a1, vI a2] (LR z f)) (fun r L' => rnG call 203 F 16 ls (r.toList ++ []) L') := pcY (ih := rnG call 203 F) (call := call) (a := 47) (b := 3) (v := 12) (t := 16) (x := 0) (ls := ls) (As := [vI a0, vI a1, vI a2]) (st' := []) (L := LR z f) rfl rfl rfl
set_option maxRecDepth 100000 in
theorem b203_7 (call : QC FA) (x : Int32) (ls : List (Option PV)) (L : QH FA) (F : Nat) : rnG call 203 (F + 1) 16 ls [vI x] L = bif pcmp 0 x 0 then rnG call 203 F 27 ls [] L else rnG call 203 F 17 ls [] L := rfl
set_option maxRecDepth 100000 in
theorem b203_8 (call : QC FA) (x1 : Int32) (x2 : Int32) (L : QH FA) (F : Nat) : rnG call 203 (F + 1) 27 [some (vR 0), some (vI x1), some (vI x2)] [] L = rnG call 203 F 28 [some (vR 0), some (vI x1), some (vI x2)] [vI ((-1))] L := rfl
set_option maxRecDepth 100000 in
theorem b203_9 (call : QC FA) (x : Int32) (ls : List (Option PV)) (L : QH FA) (F : Nat) : rnG call 203 (F + 1) 28 ls [vI x] L = some (some (vI x), L) := rfl
set_option maxRecDepth 100000 in
theorem b203_10 (call : QC FA) (x1 : Int32) (x2 : Int32) (L : QH FA) (F : Nat) : rnG call 203 (F + 4) 17 [some (vR 0), some (vI x1), some (vI x2)] [] L = rnG call 203 F 21 [some (vR 0), some (vI x1), some (vI x2)] [vI 200, vI 0, vI x2, vR 0] L := rfl
set_option maxRecDepth 100000 in
theorem b203_11 (call : QC FA) (a0 : Int32) (a1 : Int32) (a2 : Int32) (ls : List (Option PV)) (z : Nat → Int32) (f : Nat → FA) (F : Nat) : rnG call 203 (F + 1) 21 ls [vI a2, vI a1, vI a0, vR 0] (LR z f) = cbd (call 47 [vR 0, vI a0, vI a1, vI a2] (LR z f)) (fun r L' => rnG call 203 F 22 ls (r.toList ++ []) L') := pcY (ih := rnG call 203 F) (call := call) (a := 47) (b := 3) (v := 12) (t := 22) (x := 0) (ls := ls) (As := [vI a0, vI a1, vI a2]) (st' := []) (L := LR z f) rfl rfl rfl
set_option maxRecDepth 100000 in
theorem b203_12 (call : QC FA) (x : Int32) (ls : List (Option PV)) (L : QH FA) (F : Nat) : rnG call 203 (F + 1) 22 ls [vI x] L = bif pcmp 0 x 0 then rnG call 203 F 27 ls [] L else rnG call 203 F 23 ls [] L := rfl
set_option maxRecDepth 100000 in
theorem b203_13 (call : QC FA) (x1 : Int32) (x2 : Int32) (z : Nat → Int32) (f : Nat → FA) (F : Nat) : rnG call 203 (F + 3) 23 [some (vR 0), some (vI x1), some (vI x2)] [] (LR z f) = rnG call 203 F 26 [some (vR 0), some (vI x1), some (vI x2)] [vI 8, vI (z 57)] (LR z f) := rfl
set_option maxRecDepth 100000 in
theorem b203_14 (call : QC FA) (x y : Int32) (ls : List (Option PV)) (L : QH FA) (F : Nat) : rnG call 203 (F + 1) 26 ls [vI y, vI x] L = bif pcmp 1 x y then rnG call 203 F 29 ls [] L else rnG call 203 F 27 ls [] L := rfl
set_option maxRecDepth 100000 in
theorem b203_15 (call : QC FA) (x1 : Int32) (x2 : Int32) (z : Nat → Int32) (f : Nat → FA) (F : Nat) : rnG call 203 (F + 5) 29 [some (vR 0), some (vI x1), some (vI x2)] [] (LR z f) = rnG call 203 F 34 [some (vR 0), some (vI x1), some (vI x2)] [vI x1, vI (z 57), vR 33] (LR z f) := rfl
set_option maxRecDepth 100000 in
theorem b203_16 (call : QC FA) (x y : Int32) (ls : List (Option PV)) (z : Nat → Int32) (f : Nat → FA) (F : Nat) : rnG call 203 (F + 1) 34 ls [vI y, vI x, vR 33] (LR z f) = bif (Nat.beq 0 0 && pin x 8) then rnG call 203 F 35 ls [] (LR z (uA f 33 (upd (f 33) (ix x) y))) else none := rfl
set_option maxRecDepth 100000 in
theorem b203_17 (call : QC FA) (x1 : Int32) (x2 : Int32) (z : Nat → Int32) (f : Nat → FA) (F : Nat) : rnG call 203 (F + 5) 35 [some (vR 0), some (vI x1), some (vI x2)] [] (LR z f) = rnG call 203 F 40 [some (vR 0), some (vI x1), some (vI x2)] [vI x2, vI (z 57), vR 34] (LR z f) := rfl
set_option maxRecDepth 100000 in
theorem b203_18 (call : QC FA) (x y : Int32) (ls : List (Option PV)) (z : Nat → Int32) (f : Nat → FA) (F : Nat) : rnG call 203 (F + 1) 40 ls [vI y, vI x, vR 34] (LR z f) = bif (Nat.beq 0 0 && pin x 8) then rnG call 203 F 41 ls [] (LR z (uA f 34 (upd (f 34) (ix x) y))) else none := rfl
set_option maxRecDepth 100000 in
theorem b203_19 (call : QC FA) (x1 : Int32) (x2 : Int32) (z : Nat → Int32) (f : Nat → FA) (F : Nat) : rnG call 203 (F + 5) 41 [some (vR 0), some (vI x1), some (vI x2)] [] (LR z f) = rnG call 203 F 46 [some (vR 0), some (vI x1), some (vI x2)] [vI ((z 57) + 1), vR 0] (LR z f) := rfl
set_option maxRecDepth 100000 in
theorem b203_20 (call : QC FA) (y : Int32) (ls : List (Option PV)) (z : Nat → Int32) (f : Nat → FA) (F : Nat) : rnG call 203 (F + 1) 46 ls [vI y, vR 0] (LR z f) = rnG call 203 F 47 ls [] (LR (uZ z 57 y) f) := rfl
set_option maxRecDepth 100000 in
theorem b203_21 (call : QC FA) (x1 : Int32) (x2 : Int32) (z : Nat → Int32) (f : Nat → FA) (F : Nat) : rnG call 203 (F + 2) 47 [some (vR 0), some (vI x1), some (vI x2)] [] (LR z f) = rnG call 203 F 49 [some (vR 0), some (vI x1), some (vI x2)] [vI (z 57)] (LR z f) := rfl
set_option maxRecDepth 100000 in
theorem b203_22 (call : QC FA) (x : Int32) (ls : List (Option PV)) (L : QH FA) (F : Nat) : rnG call 203 (F + 1) 49 ls [vI x] L = some (some (vI x), L) := rfl
set_option maxRecDepth 100000 in
theorem b203_23 (call : QC FA) (x1 : Int32) (x2 : Int32) (L : QH FA) (F : Nat) : rnG call 203 (F + 2) 6 [some (vR 0), some (vI x1), some (vI x2)] [] L = rnG call 203 F 8 [some (vR 0), some (vI x1), some (vI x2)] [vI 0, vR 0] L := rfl
set_option maxRecDepth 100000 in
theorem b203_24 (call : QC FA) (y : Int32) (ls : List (Option PV)) (z : Nat → Int32) (f : Nat → FA) (F : Nat) : rnG call 203 (F + 1) 8 ls [vI y, vR 0] (LR z f) = rnG call 203 F 9 ls [] (LR (uZ z 57 y) f) := rfl
set_option maxRecDepth 100000 in
theorem b203_25 (call : QC FA) (x1 : Int32) (x2 : Int32) (L : QH FA) (F : Nat) : rnG call 203 (F + 1) 9 [some (vR 0), some (vI x1), some (vI x2)] [] L = rnG call 203 F 10 [some (vR 0), some (vI x1), some (vI x2)] [vI 0] L := rfl
set_option maxRecDepth 100000 in
theorem b203_26 (call : QC FA) (x : Int32) (ls : List (Option PV)) (L : QH FA) (F : Nat) : rnG call 203 (F + 1) 10 ls [vI x] L = some (some (vI x), L) := rfl
theorem vc203_0 (d : Nat) (x1 : Int32) (x2 : Int32) (z : Nat → Int32) (f : Nat → FA) (res : Option PV × QH FA) (H : ((¬ x1 = (-1) → (((1 ≤ I x1 ∧ I x1 ≤ 50) → (((0 ≤ I x2 ∧ I x2 ≤ 200) → ((¬ z 57 = 8 → (pin (z 57) 8 = true ∧ (pin (z 57) 8 = true ∧ res = (some (vI ((z 57) + 1)), LR (uZ (uZ z 0 0) 57 ((z 57) + 1)) (uA (uA f 33 (upd (f 33) (ix (z 57)) x1)) 34 (upd (f 34) (ix (z 57)) x2)))))) ∧ (z 57 = 8 → res = (some (vI ((-1))), LR (uZ z 0 0) f)))) ∧ ((¬ (0 ≤ I x2 ∧ I x2 ≤ 200)) → res = (some (vI ((-1))), LR (uZ z 0 0) f)))) ∧ ((¬ (1 ≤ I x1 ∧ I x1 ≤ 50)) → res = (some (vI ((-1))), LR (uZ z 0 0) f)))) ∧ (x1 = (-1) → res = (some (vI 0), LR (uZ (uZ z 0 0) 57 0) f)))) : RC (mcall (d + 1)) (mP 203) 0 [some (vR 0), some (vI x1), some (vI x2)] [] (LR z f) res := by
  refine rc_b (i' := 2) (ls' := [some (vR 0), some (vI x1), some (vI x2)]) (st' := [vI 0, vR 0]) (L' := LR z f) 2 (b203_1 (mcall (d + 1)) x1 x2 _) ?_
  refine rc_b (i' := 3) (ls' := [some (vR 0), some (vI x1), some (vI x2)]) (st' := []) (L' := LR (uZ z 0 0) f) 1 (b203_2 (mcall (d + 1)) 0 _ z f) ?_
  refine rc_b (i' := 5) (ls' := [some (vR 0), some (vI x1), some (vI x2)]) (st' := [vI ((-1)), vI x1]) (L' := LR (uZ z 0 0) f) 2 (b203_3 (mcall (d + 1)) x1 x2 _) ?_
  refine rc_if (it := 11) (ie := 6) (ls' := [some (vR 0), some (vI x1), some (vI x2)]) (st' := []) (b203_4 (mcall (d + 1)) x1 ((-1)) _ _) (fun q1 => ?_) (fun q1 => ?_)
  · have H := H.1 (cI1t q1)
    refine rc_b (i' := 15) (ls' := [some (vR 0), some (vI x1), some (vI x2)]) (st' := [vI 50, vI 1, vI x1, vR 0]) (L' := LR (uZ z 0 0) f) 4 (b203_5 (mcall (d + 1)) x1 x2 _) ?_
    refine rc_call (t := 16) (ls' := [some (vR 0), some (vI x1), some (vI x2)]) (st' := []) (b203_6 (mcall (d + 1)) x1 1 50 _ (uZ z 0 0) f) (isIn_r _ x1 1 50 (uZ z 0 0) f) ?_
    show RC (mcall (d + 1)) (mP 203) 16 [some (vR 0), some (vI x1), some (vI x2)] [vI (bI (1 ≤ I x1 ∧ I x1 ≤ 50))] (LR (uZ z 0 0) f) res
    refine rc_bz (it := 27) (ie := 17) (ls' := [some (vR 0), some (vI x1), some (vI x2)]) (st' := []) (b203_7 (mcall (d + 1)) (bI (1 ≤ I x1 ∧ I x1 ≤ 50)) _ _) (fun q2 => ?_) (fun q2 => ?_)
    · have H := H.2 q2
      refine rc_b (i' := 28) (ls' := [some (vR 0), some (vI x1), some (vI x2)]) (st' := [vI ((-1))]) (L' := LR (uZ z 0 0) f) 1 (b203_8 (mcall (d + 1)) x1 x2 _) ?_
      subst H
      exact rc_ret (b203_9 (mcall (d + 1)) _ _ _)
    · have H := H.1 q2
      refine rc_b (i' := 21) (ls' := [some (vR 0), some (vI x1), some (vI x2)]) (st' := [vI 200, vI 0, vI x2, vR 0]) (L' := LR (uZ z 0 0) f) 4 (b203_10 (mcall (d + 1)) x1 x2 _) ?_
      refine rc_call (t := 22) (ls' := [some (vR 0), some (vI x1), some (vI x2)]) (st' := []) (b203_11 (mcall (d + 1)) x2 0 200 _ (uZ z 0 0) f) (isIn_r _ x2 0 200 (uZ z 0 0) f) ?_
      show RC (mcall (d + 1)) (mP 203) 22 [some (vR 0), some (vI x1), some (vI x2)] [vI (bI (0 ≤ I x2 ∧ I x2 ≤ 200))] (LR (uZ z 0 0) f) res
      refine rc_bz (it := 27) (ie := 23) (ls' := [some (vR 0), some (vI x1), some (vI x2)]) (st' := []) (b203_12 (mcall (d + 1)) (bI (0 ≤ I x2 ∧ I x2 ≤ 200)) _ _) (fun q3 => ?_) (fun q3 => ?_)
      · have H := H.2 q3
        refine rc_b (i' := 28) (ls' := [some (vR 0), some (vI x1), some (vI x2)]) (st' := [vI ((-1))]) (L' := LR (uZ z 0 0) f) 1 (b203_8 (mcall (d + 1)) x1 x2 _) ?_
        subst H
        exact rc_ret (b203_9 (mcall (d + 1)) _ _ _)
      · have H := H.1 q3
        refine rc_b (i' := 26) (ls' := [some (vR 0), some (vI x1), some (vI x2)]) (st' := [vI 8, vI (z 57)]) (L' := LR (uZ z 0 0) f) 3 (b203_13 (mcall (d + 1)) x1 x2 (uZ z 0 0) f) ?_
        refine rc_if (it := 29) (ie := 27) (ls' := [some (vR 0), some (vI x1), some (vI x2)]) (st' := []) (b203_14 (mcall (d + 1)) (z 57) 8 _ _) (fun q4 => ?_) (fun q4 => ?_)
        · have H := H.1 (cI1t q4)
          refine rc_b (i' := 34) (ls' := [some (vR 0), some (vI x1), some (vI x2)]) (st' := [vI x1, vI (z 57), vR 33]) (L' := LR (uZ z 0 0) f) 5 (b203_15 (mcall (d + 1)) x1 x2 (uZ z 0 0) f) ?_
          obtain ⟨g1, H⟩ := H
          refine rc_g (i' := 35) (ls' := [some (vR 0), some (vI x1), some (vI x2)]) (st' := []) (L' := LR (uZ z 0 0) (uA f 33 (upd (f 33) (ix (z 57)) x1))) (b203_16 (mcall (d + 1)) (z 57) x1 _ (uZ z 0 0) f) (pinG g1) ?_
          refine rc_b (i' := 40) (ls' := [some (vR 0), some (vI x1), some (vI x2)]) (st' := [vI x2, vI (z 57), vR 34]) (L' := LR (uZ z 0 0) (uA f 33 (upd (f 33) (ix (z 57)) x1))) 5 (b203_17 (mcall (d + 1)) x1 x2 (uZ z 0 0) (uA f 33 (upd (f 33) (ix (z 57)) x1))) ?_
          obtain ⟨g1, H⟩ := H
          refine rc_g (i' := 41) (ls' := [some (vR 0), some (vI x1), some (vI x2)]) (st' := []) (L' := LR (uZ z 0 0) (uA (uA f 33 (upd (f 33) (ix (z 57)) x1)) 34 (upd (f 34) (ix (z 57)) x2))) (b203_18 (mcall (d + 1)) (z 57) x2 _ (uZ z 0 0) (uA f 33 (upd (f 33) (ix (z 57)) x1))) (pinG g1) ?_
          refine rc_b (i' := 46) (ls' := [some (vR 0), some (vI x1), some (vI x2)]) (st' := [vI ((z 57) + 1), vR 0]) (L' := LR (uZ z 0 0) (uA (uA f 33 (upd (f 33) (ix (z 57)) x1)) 34 (upd (f 34) (ix (z 57)) x2))) 5 (b203_19 (mcall (d + 1)) x1 x2 (uZ z 0 0) (uA (uA f 33 (upd (f 33) (ix (z 57)) x1)) 34 (upd (f 34) (ix (z 57)) x2))) ?_
          refine rc_b (i' := 47) (ls' := [some (vR 0), some (vI x1), some (vI x2)]) (st' := []) (L' := LR (uZ (uZ z 0 0) 57 ((z 57) + 1)) (uA (uA f 33 (upd (f 33) (ix (z 57)) x1)) 34 (upd (f 34) (ix (z 57)) x2))) 1 (b203_20 (mcall (d + 1)) ((z 57) + 1) _ (uZ z 0 0) (uA (uA f 33 (upd (f 33) (ix (z 57)) x1)) 34 (upd (f 34) (ix (z 57)) x2))) ?_
          refine rc_b (i' := 49) (ls' := [some (vR 0), some (vI x1), some (vI x2)]) (st' := [vI ((z 57) + 1)]) (L' := LR (uZ (uZ z 0 0) 57 ((z 57) + 1)) (uA (uA f 33 (upd (f 33) (ix (z 57)) x1)) 34 (upd (f 34) (ix (z 57)) x2))) 2 (b203_21 (mcall (d + 1)) x1 x2 (uZ (uZ z 0 0) 57 ((z 57) + 1)) (uA (uA f 33 (upd (f 33) (ix (z 57)) x1)) 34 (upd (f 34) (ix (z 57)) x2))) ?_
          subst H
          exact rc_ret (b203_22 (mcall (d + 1)) _ _ _)
        · have H := H.2 (cI1f q4)
          refine rc_b (i' := 28) (ls' := [some (vR 0), some (vI x1), some (vI x2)]) (st' := [vI ((-1))]) (L' := LR (uZ z 0 0) f) 1 (b203_8 (mcall (d + 1)) x1 x2 _) ?_
          subst H
          exact rc_ret (b203_9 (mcall (d + 1)) _ _ _)
  · have H := H.2 (cI1f q1)
    refine rc_b (i' := 8) (ls' := [some (vR 0), some (vI x1), some (vI x2)]) (st' := [vI 0, vR 0]) (L' := LR (uZ z 0 0) f) 2 (b203_23 (mcall (d + 1)) x1 x2 _) ?_
    refine rc_b (i' := 9) (ls' := [some (vR 0), some (vI x1), some (vI x2)]) (st' := []) (L' := LR (uZ (uZ z 0 0) 57 0) f) 1 (b203_24 (mcall (d + 1)) 0 _ (uZ z 0 0) f) ?_
    refine rc_b (i' := 10) (ls' := [some (vR 0), some (vI x1), some (vI x2)]) (st' := [vI 0]) (L' := LR (uZ (uZ z 0 0) 57 0) f) 1 (b203_25 (mcall (d + 1)) x1 x2 _) ?_
    subst H
    exact rc_ret (b203_26 (mcall (d + 1)) _ _ _)
theorem m_door_e (d : Nat) {x1 x2 : Int32} {z : Nat → Int32} {f : Nat → FA} (h : x1 = -1) : mcall (d + 2) 203 [vR 0, vI x1, vI x2] (LR z f) = some (some (vI 0), LR (uZ (uZ z 0 0) 57 0) f) := by
  have go : ∀ res, _ → mcall (d + 2) 203 [vR 0, vI x1, vI x2] (LR z f) = some res := fun res H => mcall_i (mq203 (cu := [])).2.2 rfl (vc203_0 d x1 x2 z f res H)
  exact go _ ⟨fun q => absurd h q, fun _ => rfl⟩
theorem m_door_r (d : Nat) {x1 x2 : Int32} {z : Nat → Int32} {f : Nat → FA} (h : ¬ x1 = -1) (hb : ¬ (1 ≤ I x1 ∧ I x1 ≤ 50 ∧ 0 ≤ I x2 ∧ I x2 ≤ 200)) : mcall (d + 2) 203 [vR 0, vI x1, vI x2] (LR z f) = some (some (vI (-1)), LR (uZ z 0 0) f) := by
  have go : ∀ res, _ → mcall (d + 2) 203 [vR 0, vI x1, vI x2] (LR z f) = some res := fun res H => mcall_i (mq203 (cu := [])).2.2 rfl (vc203_0 d x1 x2 z f res H)
  exact go _ ⟨fun _ => ⟨fun q1 => ⟨fun q2 => absurd ⟨q1.1, q1.2, q2.1, q2.2⟩ hb, fun _ => rfl⟩, fun _ => rfl⟩, fun q => absurd q h⟩
theorem m_door_p (d : Nat) {x1 x2 : Int32} {z : Nat → Int32} {f : Nat → FA} {n : Nat} (hb : 1 ≤ I x1 ∧ I x1 ≤ 50 ∧ 0 ≤ I x2 ∧ I x2 ≤ 200) (hz : z 57 = nI n) (hn : n < 8) : mcall (d + 2) 203 [vR 0, vI x1, vI x2] (LR z f) = some (some (vI (nI (n + 1))), LR (uZ (uZ z 0 0) 57 (nI (n + 1))) (uA (uA f 33 (upd (f 33) n x1)) 34 (upd (f 34) n x2))) := by
  have go : ∀ res, _ → mcall (d + 2) 203 [vR 0, vI x1, vI x2] (LR z f) = some res := fun res H => mcall_i (mq203 (cu := [])).2.2 rfl (vc203_0 d x1 x2 z f res H)
  have h : ¬ x1 = -1 := im1n (by omega)
  rw [hz, show nI n + 1 = nI (n + 1) from nI_add n 1, ix_nI (j := n) (by omega)] at go
  exact go _ ⟨fun _ => ⟨fun _ => ⟨fun _ => ⟨fun _ => ⟨pin_nI (by omega) (by omega), pin_nI (by omega) (by omega), rfl⟩, fun q => absurd q (nI_ne (b := 8) (by omega) (by omega) (by omega))⟩, fun q => absurd ⟨hb.2.2.1, hb.2.2.2⟩ q⟩, fun q => absurd ⟨hb.1, hb.2.1⟩ q⟩, fun q => absurd q h⟩
theorem m_door_f (d : Nat) {x1 x2 : Int32} {z : Nat → Int32} {f : Nat → FA} (hb : 1 ≤ I x1 ∧ I x1 ≤ 50 ∧ 0 ≤ I x2 ∧ I x2 ≤ 200) (hz : z 57 = nI 8) : mcall (d + 2) 203 [vR 0, vI x1, vI x2] (LR z f) = some (some (vI (-1)), LR (uZ z 0 0) f) := by
  have go : ∀ res, _ → mcall (d + 2) 203 [vR 0, vI x1, vI x2] (LR z f) = some res := fun res H => mcall_i (mq203 (cu := [])).2.2 rfl (vc203_0 d x1 x2 z f res H)
  have h : ¬ x1 = -1 := im1n (by omega)
  rw [hz] at go
  exact go _ ⟨fun _ => ⟨fun _ => ⟨fun _ => ⟨fun q => absurd rfl q, fun _ => rfl⟩, fun q => absurd ⟨hb.2.2.1, hb.2.2.2⟩ q⟩, fun q => absurd ⟨hb.1, hb.2.1⟩ q⟩, fun q => absurd q h⟩
def b1u (g : FA) (a b : Nat) : FA := upd g a (g a ||| (1 <<< (nI b &&& 31)))
/-- a row whose first n numbers are put to 0 -/
def zr0 (g : FA) (n : Nat) : FA := fun j => if j < n then 0 else g j
theorem zr0_0 (g : FA) : zr0 g 0 = g := by
  funext j
  exact if_neg (Nat.not_lt_zero j)
theorem zr0_s (g : FA) (n : Nat) : upd (zr0 g n) n 0 = zr0 g (n + 1) := by
  funext j
  unfold upd zr0
  by_cases e : j = n
  · subst e
    simp
  · simp only [e, if_false]
    by_cases q : j < n
    · rw [if_pos q, if_pos (by omega)]
    · rw [if_neg q, if_neg (by omega)]
set_option maxRecDepth 100000 in
theorem b189_1 (call : QC FA) (x1 : Int32) (x2 : Int32) (o3 : Option PV) (L : QH FA) (F : Nat) : rnG call 189 (F + 2) 0 [some (vR 0), some (vI x1), some (vI x2), o3] [] L = rnG call 189 F 2 [some (vR 0), some (vI x1), some (vI x2), o3] [vI 0, vR 0] L := rfl
set_option maxRecDepth 100000 in
theorem b189_2 (call : QC FA) (y : Int32) (ls : List (Option PV)) (z : Nat → Int32) (f : Nat → FA) (F : Nat) : rnG call 189 (F + 1) 2 ls [vI y, vR 0] (LR z f) = rnG call 189 F 3 ls [] (LR (uZ z 0 y) f) := rfl
set_option maxRecDepth 100000 in
theorem b189_3 (call : QC FA) (x1 : Int32) (x2 : Int32) (o3 : Option PV) (L : QH FA) (F : Nat) : rnG call 189 (F + 2) 3 [some (vR 0), some (vI x1), some (vI x2), o3] [] L = rnG call 189 F 5 [some (vR 0), some (vI x1), some (vI x2), o3] [vI ((-1)), vI x1] L := rfl
set_option maxRecDepth 100000 in
theorem b189_4 (call : QC FA) (x y : Int32) (ls : List (Option PV)) (L : QH FA) (F : Nat) : rnG call 189 (F + 1) 5 ls [vI y, vI x] L = bif pcmp 1 x y then rnG call 189 F 23 ls [] L else rnG call 189 F 6 ls [] L := rfl
set_option maxRecDepth 100000 in
theorem b189_5 (call : QC FA) (x1 : Int32) (x2 : Int32) (o3 : Option PV) (L : QH FA) (F : Nat) : rnG call 189 (F + 4) 23 [some (vR 0), some (vI x1), some (vI x2), o3] [] L = rnG call 189 F 27 [some (vR 0), some (vI x1), some (vI x2), o3] [vI 7, vI 0, vI x1, vR 0] L := rfl
set_option maxRecDepth 100000 in
theorem b189_6 (call : QC FA) (a0 : Int32) (a1 : Int32) (a2 : Int32) (ls : List (Option PV)) (z : Nat → Int32) (f : Nat → FA) (F : Nat) : rnG call 189 (F + 1) 27 ls [vI a2, vI a1, vI a0, vR 0] (LR z f) = cbd (call 47 [vR 0, vI a0, vI a1, vI a2] (LR z f)) (fun r L' => rnG call 189 F 28 ls (r.toList ++ []) L') := pcY (ih := rnG call 189 F) (call := call) (a := 47) (b := 3) (v := 12) (t := 28) (x := 0) (ls := ls) (As := [vI a0, vI a1, vI a2]) (st' := []) (L := LR z f) rfl rfl rfl
set_option maxRecDepth 100000 in
theorem b189_7 (call : QC FA) (x : Int32) (ls : List (Option PV)) (L : QH FA) (F : Nat) : rnG call 189 (F + 1) 28 ls [vI x] L = bif pcmp 0 x 0 then rnG call 189 F 42 ls [] L else rnG call 189 F 29 ls [] L := rfl
set_option maxRecDepth 100000 in
theorem b189_8 (call : QC FA) (x1 : Int32) (x2 : Int32) (o3 : Option PV) (L : QH FA) (F : Nat) : rnG call 189 (F + 1) 42 [some (vR 0), some (vI x1), some (vI x2), o3] [] L = rnG call 189 F 43 [some (vR 0), some (vI x1), some (vI x2), o3] [vI ((-1))] L := rfl
set_option maxRecDepth 100000 in
theorem b189_9 (call : QC FA) (x : Int32) (ls : List (Option PV)) (L : QH FA) (F : Nat) : rnG call 189 (F + 1) 43 ls [vI x] L = some (some (vI x), L) := rfl
set_option maxRecDepth 100000 in
theorem b189_10 (call : QC FA) (x1 : Int32) (x2 : Int32) (o3 : Option PV) (L : QH FA) (F : Nat) : rnG call 189 (F + 4) 29 [some (vR 0), some (vI x1), some (vI x2), o3] [] L = rnG call 189 F 33 [some (vR 0), some (vI x1), some (vI x2), o3] [vI 7, vI 0, vI x2, vR 0] L := rfl
set_option maxRecDepth 100000 in
theorem b189_11 (call : QC FA) (a0 : Int32) (a1 : Int32) (a2 : Int32) (ls : List (Option PV)) (z : Nat → Int32) (f : Nat → FA) (F : Nat) : rnG call 189 (F + 1) 33 ls [vI a2, vI a1, vI a0, vR 0] (LR z f) = cbd (call 47 [vR 0, vI a0, vI a1, vI a2] (LR z f)) (fun r L' => rnG call 189 F 34 ls (r.toList ++ []) L') := pcY (ih := rnG call 189 F) (call := call) (a := 47) (b := 3) (v := 12) (t := 34) (x := 0) (ls := ls) (As := [vI a0, vI a1, vI a2]) (st' := []) (L := LR z f) rfl rfl rfl
set_option maxRecDepth 100000 in
theorem b189_12 (call : QC FA) (x : Int32) (ls : List (Option PV)) (L : QH FA) (F : Nat) : rnG call 189 (F + 1) 34 ls [vI x] L = bif pcmp 0 x 0 then rnG call 189 F 42 ls [] L else rnG call 189 F 35 ls [] L := rfl
set_option maxRecDepth 100000 in
theorem b189_13 (call : QC FA) (x1 : Int32) (x2 : Int32) (o3 : Option PV) (L : QH FA) (F : Nat) : rnG call 189 (F + 2) 35 [some (vR 0), some (vI x1), some (vI x2), o3] [] L = rnG call 189 F 37 [some (vR 0), some (vI x1), some (vI x2), o3] [vI x2, vI x1] L := rfl
set_option maxRecDepth 100000 in
theorem b189_14 (call : QC FA) (x y : Int32) (ls : List (Option PV)) (L : QH FA) (F : Nat) : rnG call 189 (F + 1) 37 ls [vI y, vI x] L = bif pcmp 0 x y then rnG call 189 F 42 ls [] L else rnG call 189 F 38 ls [] L := rfl
set_option maxRecDepth 100000 in
theorem b189_15 (call : QC FA) (x1 : Int32) (x2 : Int32) (o3 : Option PV) (z : Nat → Int32) (f : Nat → FA) (F : Nat) : rnG call 189 (F + 3) 38 [some (vR 0), some (vI x1), some (vI x2), o3] [] (LR z f) = rnG call 189 F 41 [some (vR 0), some (vI x1), some (vI x2), o3] [vI 12, vI (z 63)] (LR z f) := rfl
set_option maxRecDepth 100000 in
theorem b189_16 (call : QC FA) (x y : Int32) (ls : List (Option PV)) (L : QH FA) (F : Nat) : rnG call 189 (F + 1) 41 ls [vI y, vI x] L = bif pcmp 1 x y then rnG call 189 F 44 ls [] L else rnG call 189 F 42 ls [] L := rfl
set_option maxRecDepth 100000 in
theorem b189_17 (call : QC FA) (x1 : Int32) (x2 : Int32) (o3 : Option PV) (z : Nat → Int32) (f : Nat → FA) (F : Nat) : rnG call 189 (F + 6) 44 [some (vR 0), some (vI x1), some (vI x2), o3] [] (LR z f) = rnG call 189 F 50 [some (vR 0), some (vI x1), some (vI x2), o3] [vI x1, vR 37, vI x1, vR 37] (LR z f) := rfl
set_option maxRecDepth 100000 in
theorem b189_18 (call : QC FA) (x : Int32) (s0 : Int32) (ls : List (Option PV)) (z : Nat → Int32) (f : Nat → FA) (F : Nat) : rnG call 189 (F + 1) 50 ls [vI x, vR 37, vI s0, vR 37] (LR z f) = bif (Nat.beq 0 0 && pin x 8) then rnG call 189 F 51 ls [vI (f 37 (ix x)), vI s0, vR 37] (LR z f) else none := rfl
set_option maxRecDepth 100000 in
theorem b189_19 (call : QC FA) (x1 : Int32) (x2 : Int32) (o3 : Option PV) (s0 : Int32) (s1 : Int32) (L : QH FA) (F : Nat) : rnG call 189 (F + 4) 51 [some (vR 0), some (vI x1), some (vI x2), o3] [vI s0, vI s1, vR 37] L = rnG call 189 F 55 [some (vR 0), some (vI x1), some (vI x2), o3] [vI (s0 ||| (1 <<< (x2 &&& 31))), vI s1, vR 37] L := rfl
set_option maxRecDepth 100000 in
theorem b189_20 (call : QC FA) (x y : Int32) (ls : List (Option PV)) (z : Nat → Int32) (f : Nat → FA) (F : Nat) : rnG call 189 (F + 1) 55 ls [vI y, vI x, vR 37] (LR z f) = bif (Nat.beq 0 0 && pin x 8) then rnG call 189 F 56 ls [] (LR z (uA f 37 (upd (f 37) (ix x) y))) else none := rfl
set_option maxRecDepth 100000 in
theorem b189_21 (call : QC FA) (x1 : Int32) (x2 : Int32) (o3 : Option PV) (z : Nat → Int32) (f : Nat → FA) (F : Nat) : rnG call 189 (F + 6) 56 [some (vR 0), some (vI x1), some (vI x2), o3] [] (LR z f) = rnG call 189 F 62 [some (vR 0), some (vI x1), some (vI x2), o3] [vI x2, vR 37, vI x2, vR 37] (LR z f) := rfl
set_option maxRecDepth 100000 in
theorem b189_22 (call : QC FA) (x : Int32) (s0 : Int32) (ls : List (Option PV)) (z : Nat → Int32) (f : Nat → FA) (F : Nat) : rnG call 189 (F + 1) 62 ls [vI x, vR 37, vI s0, vR 37] (LR z f) = bif (Nat.beq 0 0 && pin x 8) then rnG call 189 F 63 ls [vI (f 37 (ix x)), vI s0, vR 37] (LR z f) else none := rfl
set_option maxRecDepth 100000 in
theorem b189_23 (call : QC FA) (x1 : Int32) (x2 : Int32) (o3 : Option PV) (s0 : Int32) (s1 : Int32) (L : QH FA) (F : Nat) : rnG call 189 (F + 4) 63 [some (vR 0), some (vI x1), some (vI x2), o3] [vI s0, vI s1, vR 37] L = rnG call 189 F 67 [some (vR 0), some (vI x1), some (vI x2), o3] [vI (s0 ||| (1 <<< (x1 &&& 31))), vI s1, vR 37] L := rfl
set_option maxRecDepth 100000 in
theorem b189_24 (call : QC FA) (x y : Int32) (ls : List (Option PV)) (z : Nat → Int32) (f : Nat → FA) (F : Nat) : rnG call 189 (F + 1) 67 ls [vI y, vI x, vR 37] (LR z f) = bif (Nat.beq 0 0 && pin x 8) then rnG call 189 F 68 ls [] (LR z (uA f 37 (upd (f 37) (ix x) y))) else none := rfl
set_option maxRecDepth 100000 in
theorem b189_25 (call : QC FA) (x1 : Int32) (x2 : Int32) (o3 : Option PV) (z : Nat → Int32) (f : Nat → FA) (F : Nat) : rnG call 189 (F + 5) 68 [some (vR 0), some (vI x1), some (vI x2), o3] [] (LR z f) = rnG call 189 F 73 [some (vR 0), some (vI x1), some (vI x2), o3] [vI ((z 63) + 1), vR 0] (LR z f) := rfl
set_option maxRecDepth 100000 in
theorem b189_26 (call : QC FA) (y : Int32) (ls : List (Option PV)) (z : Nat → Int32) (f : Nat → FA) (F : Nat) : rnG call 189 (F + 1) 73 ls [vI y, vR 0] (LR z f) = rnG call 189 F 74 ls [] (LR (uZ z 63 y) f) := rfl
set_option maxRecDepth 100000 in
theorem b189_27 (call : QC FA) (x1 : Int32) (x2 : Int32) (o3 : Option PV) (z : Nat → Int32) (f : Nat → FA) (F : Nat) : rnG call 189 (F + 2) 74 [some (vR 0), some (vI x1), some (vI x2), o3] [] (LR z f) = rnG call 189 F 76 [some (vR 0), some (vI x1), some (vI x2), o3] [vI (z 63)] (LR z f) := rfl
set_option maxRecDepth 100000 in
theorem b189_28 (call : QC FA) (x : Int32) (ls : List (Option PV)) (L : QH FA) (F : Nat) : rnG call 189 (F + 1) 76 ls [vI x] L = some (some (vI x), L) := rfl
set_option maxRecDepth 100000 in
theorem b189_29 (call : QC FA) (x1 : Int32) (x2 : Int32) (o3 : Option PV) (L : QH FA) (F : Nat) : rnG call 189 (F + 2) 6 [some (vR 0), some (vI x1), some (vI x2), o3] [] L = rnG call 189 F 8 [some (vR 0), some (vI x1), some (vI x2), o3] [vI 0, vR 0] L := rfl
set_option maxRecDepth 100000 in
theorem b189_30 (call : QC FA) (y : Int32) (ls : List (Option PV)) (z : Nat → Int32) (f : Nat → FA) (F : Nat) : rnG call 189 (F + 1) 8 ls [vI y, vR 0] (LR z f) = rnG call 189 F 9 ls [] (LR (uZ z 63 y) f) := rfl
set_option maxRecDepth 100000 in
theorem b189_31 (call : QC FA) (x1 : Int32) (x2 : Int32) (o3 : Option PV) (L : QH FA) (F : Nat) : rnG call 189 (F + 2) 9 [some (vR 0), some (vI x1), some (vI x2), o3] [] L = rnG call 189 F 11 [some (vR 0), some (vI x1), some (vI x2), some (vI 0)] [] L := rfl
theorem vc189_0 (d : Nat) (x1 : Int32) (x2 : Int32) (o3 : Option PV) (z : Nat → Int32) (f : Nat → FA) (res : Option PV × QH FA) (H : ((¬ x1 = (-1) → (((0 ≤ I x1 ∧ I x1 ≤ 7) → (((0 ≤ I x2 ∧ I x2 ≤ 7) → ((x1 = x2 → res = (some (vI ((-1))), LR (uZ z 0 0) f)) ∧ (¬ x1 = x2 → ((¬ z 63 = 12 → (pin x1 8 = true ∧ (pin x1 8 = true ∧ (pin x2 8 = true ∧ (pin x2 8 = true ∧ res = (some (vI ((z 63) + 1)), LR (uZ (uZ z 0 0) 63 ((z 63) + 1)) (uA (uA f 37 (upd (f 37) (ix x1) ((f 37 (ix x1)) ||| (1 <<< (x2 &&& 31))))) 37 (upd (upd (f 37) (ix x1) ((f 37 (ix x1)) ||| (1 <<< (x2 &&& 31)))) (ix x2) (((upd (f 37) (ix x1) ((f 37 (ix x1)) ||| (1 <<< (x2 &&& 31)))) (ix x2)) ||| (1 <<< (x1 &&& 31))))))))))) ∧ (z 63 = 12 → res = (some (vI ((-1))), LR (uZ z 0 0) f)))))) ∧ ((¬ (0 ≤ I x2 ∧ I x2 ≤ 7)) → res = (some (vI ((-1))), LR (uZ z 0 0) f)))) ∧ ((¬ (0 ≤ I x1 ∧ I x1 ≤ 7)) → res = (some (vI ((-1))), LR (uZ z 0 0) f)))) ∧ (x1 = (-1) → RC (mcall (d + 1)) (mP 189) 11 [some (vR 0), some (vI x1), some (vI x2), some (vI 0)] [] (LR (uZ (uZ z 0 0) 63 0) f) res))) : RC (mcall (d + 1)) (mP 189) 0 [some (vR 0), some (vI x1), some (vI x2), o3] [] (LR z f) res := by
  refine rc_b (i' := 2) (ls' := [some (vR 0), some (vI x1), some (vI x2), o3]) (st' := [vI 0, vR 0]) (L' := LR z f) 2 (b189_1 (mcall (d + 1)) x1 x2 o3 _) ?_
  refine rc_b (i' := 3) (ls' := [some (vR 0), some (vI x1), some (vI x2), o3]) (st' := []) (L' := LR (uZ z 0 0) f) 1 (b189_2 (mcall (d + 1)) 0 _ z f) ?_
  refine rc_b (i' := 5) (ls' := [some (vR 0), some (vI x1), some (vI x2), o3]) (st' := [vI ((-1)), vI x1]) (L' := LR (uZ z 0 0) f) 2 (b189_3 (mcall (d + 1)) x1 x2 o3 _) ?_
  refine rc_if (it := 23) (ie := 6) (ls' := [some (vR 0), some (vI x1), some (vI x2), o3]) (st' := []) (b189_4 (mcall (d + 1)) x1 ((-1)) _ _) (fun q1 => ?_) (fun q1 => ?_)
  · have H := H.1 (cI1t q1)
    refine rc_b (i' := 27) (ls' := [some (vR 0), some (vI x1), some (vI x2), o3]) (st' := [vI 7, vI 0, vI x1, vR 0]) (L' := LR (uZ z 0 0) f) 4 (b189_5 (mcall (d + 1)) x1 x2 o3 _) ?_
    refine rc_call (t := 28) (ls' := [some (vR 0), some (vI x1), some (vI x2), o3]) (st' := []) (b189_6 (mcall (d + 1)) x1 0 7 _ (uZ z 0 0) f) (isIn_r _ x1 0 7 (uZ z 0 0) f) ?_
    show RC (mcall (d + 1)) (mP 189) 28 [some (vR 0), some (vI x1), some (vI x2), o3] [vI (bI (0 ≤ I x1 ∧ I x1 ≤ 7))] (LR (uZ z 0 0) f) res
    refine rc_bz (it := 42) (ie := 29) (ls' := [some (vR 0), some (vI x1), some (vI x2), o3]) (st' := []) (b189_7 (mcall (d + 1)) (bI (0 ≤ I x1 ∧ I x1 ≤ 7)) _ _) (fun q2 => ?_) (fun q2 => ?_)
    · have H := H.2 q2
      refine rc_b (i' := 43) (ls' := [some (vR 0), some (vI x1), some (vI x2), o3]) (st' := [vI ((-1))]) (L' := LR (uZ z 0 0) f) 1 (b189_8 (mcall (d + 1)) x1 x2 o3 _) ?_
      subst H
      exact rc_ret (b189_9 (mcall (d + 1)) _ _ _)
    · have H := H.1 q2
      refine rc_b (i' := 33) (ls' := [some (vR 0), some (vI x1), some (vI x2), o3]) (st' := [vI 7, vI 0, vI x2, vR 0]) (L' := LR (uZ z 0 0) f) 4 (b189_10 (mcall (d + 1)) x1 x2 o3 _) ?_
      refine rc_call (t := 34) (ls' := [some (vR 0), some (vI x1), some (vI x2), o3]) (st' := []) (b189_11 (mcall (d + 1)) x2 0 7 _ (uZ z 0 0) f) (isIn_r _ x2 0 7 (uZ z 0 0) f) ?_
      show RC (mcall (d + 1)) (mP 189) 34 [some (vR 0), some (vI x1), some (vI x2), o3] [vI (bI (0 ≤ I x2 ∧ I x2 ≤ 7))] (LR (uZ z 0 0) f) res
      refine rc_bz (it := 42) (ie := 35) (ls' := [some (vR 0), some (vI x1), some (vI x2), o3]) (st' := []) (b189_12 (mcall (d + 1)) (bI (0 ≤ I x2 ∧ I x2 ≤ 7)) _ _) (fun q3 => ?_) (fun q3 => ?_)
      · have H := H.2 q3
        refine rc_b (i' := 43) (ls' := [some (vR 0), some (vI x1), some (vI x2), o3]) (st' := [vI ((-1))]) (L' := LR (uZ z 0 0) f) 1 (b189_8 (mcall (d + 1)) x1 x2 o3 _) ?_
        subst H
        exact rc_ret (b189_9 (mcall (d + 1)) _ _ _)
      · have H := H.1 q3
        refine rc_b (i' := 37) (ls' := [some (vR 0), some (vI x1), some (vI x2), o3]) (st' := [vI x2, vI x1]) (L' := LR (uZ z 0 0) f) 2 (b189_13 (mcall (d + 1)) x1 x2 o3 _) ?_
        refine rc_if (it := 42) (ie := 38) (ls' := [some (vR 0), some (vI x1), some (vI x2), o3]) (st' := []) (b189_14 (mcall (d + 1)) x1 x2 _ _) (fun q4 => ?_) (fun q4 => ?_)
        · have H := H.1 (cI0t q4)
          refine rc_b (i' := 43) (ls' := [some (vR 0), some (vI x1), some (vI x2), o3]) (st' := [vI ((-1))]) (L' := LR (uZ z 0 0) f) 1 (b189_8 (mcall (d + 1)) x1 x2 o3 _) ?_
          subst H
          exact rc_ret (b189_9 (mcall (d + 1)) _ _ _)
        · have H := H.2 (cI0f q4)
          refine rc_b (i' := 41) (ls' := [some (vR 0), some (vI x1), some (vI x2), o3]) (st' := [vI 12, vI (z 63)]) (L' := LR (uZ z 0 0) f) 3 (b189_15 (mcall (d + 1)) x1 x2 o3 (uZ z 0 0) f) ?_
          refine rc_if (it := 44) (ie := 42) (ls' := [some (vR 0), some (vI x1), some (vI x2), o3]) (st' := []) (b189_16 (mcall (d + 1)) (z 63) 12 _ _) (fun q5 => ?_) (fun q5 => ?_)
          · have H := H.1 (cI1t q5)
            refine rc_b (i' := 50) (ls' := [some (vR 0), some (vI x1), some (vI x2), o3]) (st' := [vI x1, vR 37, vI x1, vR 37]) (L' := LR (uZ z 0 0) f) 6 (b189_17 (mcall (d + 1)) x1 x2 o3 (uZ z 0 0) f) ?_
            obtain ⟨g1, H⟩ := H
            refine rc_g (i' := 51) (ls' := [some (vR 0), some (vI x1), some (vI x2), o3]) (st' := [vI (f 37 (ix x1)), vI x1, vR 37]) (L' := LR (uZ z 0 0) f) (b189_18 (mcall (d + 1)) x1 x1 _ (uZ z 0 0) f) (pinG g1) ?_
            refine rc_b (i' := 55) (ls' := [some (vR 0), some (vI x1), some (vI x2), o3]) (st' := [vI ((f 37 (ix x1)) ||| (1 <<< (x2 &&& 31))), vI x1, vR 37]) (L' := LR (uZ z 0 0) f) 4 (b189_19 (mcall (d + 1)) x1 x2 o3 (f 37 (ix x1)) x1 _) ?_
            obtain ⟨g1, H⟩ := H
            refine rc_g (i' := 56) (ls' := [some (vR 0), some (vI x1), some (vI x2), o3]) (st' := []) (L' := LR (uZ z 0 0) (uA f 37 (upd (f 37) (ix x1) ((f 37 (ix x1)) ||| (1 <<< (x2 &&& 31)))))) (b189_20 (mcall (d + 1)) x1 ((f 37 (ix x1)) ||| (1 <<< (x2 &&& 31))) _ (uZ z 0 0) f) (pinG g1) ?_
            refine rc_b (i' := 62) (ls' := [some (vR 0), some (vI x1), some (vI x2), o3]) (st' := [vI x2, vR 37, vI x2, vR 37]) (L' := LR (uZ z 0 0) (uA f 37 (upd (f 37) (ix x1) ((f 37 (ix x1)) ||| (1 <<< (x2 &&& 31)))))) 6 (b189_21 (mcall (d + 1)) x1 x2 o3 (uZ z 0 0) (uA f 37 (upd (f 37) (ix x1) ((f 37 (ix x1)) ||| (1 <<< (x2 &&& 31)))))) ?_
            obtain ⟨g1, H⟩ := H
            refine rc_g (i' := 63) (ls' := [some (vR 0), some (vI x1), some (vI x2), o3]) (st' := [vI ((upd (f 37) (ix x1) ((f 37 (ix x1)) ||| (1 <<< (x2 &&& 31)))) (ix x2)), vI x2, vR 37]) (L' := LR (uZ z 0 0) (uA f 37 (upd (f 37) (ix x1) ((f 37 (ix x1)) ||| (1 <<< (x2 &&& 31)))))) (b189_22 (mcall (d + 1)) x2 x2 _ (uZ z 0 0) (uA f 37 (upd (f 37) (ix x1) ((f 37 (ix x1)) ||| (1 <<< (x2 &&& 31)))))) (pinG g1) ?_
            refine rc_b (i' := 67) (ls' := [some (vR 0), some (vI x1), some (vI x2), o3]) (st' := [vI (((upd (f 37) (ix x1) ((f 37 (ix x1)) ||| (1 <<< (x2 &&& 31)))) (ix x2)) ||| (1 <<< (x1 &&& 31))), vI x2, vR 37]) (L' := LR (uZ z 0 0) (uA f 37 (upd (f 37) (ix x1) ((f 37 (ix x1)) ||| (1 <<< (x2 &&& 31)))))) 4 (b189_23 (mcall (d + 1)) x1 x2 o3 ((upd (f 37) (ix x1) ((f 37 (ix x1)) ||| (1 <<< (x2 &&& 31)))) (ix x2)) x2 _) ?_
            obtain ⟨g1, H⟩ := H
            refine rc_g (i' := 68) (ls' := [some (vR 0), some (vI x1), some (vI x2), o3]) (st' := []) (L' := LR (uZ z 0 0) (uA (uA f 37 (upd (f 37) (ix x1) ((f 37 (ix x1)) ||| (1 <<< (x2 &&& 31))))) 37 (upd (upd (f 37) (ix x1) ((f 37 (ix x1)) ||| (1 <<< (x2 &&& 31)))) (ix x2) (((upd (f 37) (ix x1) ((f 37 (ix x1)) ||| (1 <<< (x2 &&& 31)))) (ix x2)) ||| (1 <<< (x1 &&& 31)))))) (b189_24 (mcall (d + 1)) x2 (((upd (f 37) (ix x1) ((f 37 (ix x1)) ||| (1 <<< (x2 &&& 31)))) (ix x2)) ||| (1 <<< (x1 &&& 31))) _ (uZ z 0 0) (uA f 37 (upd (f 37) (ix x1) ((f 37 (ix x1)) ||| (1 <<< (x2 &&& 31)))))) (pinG g1) ?_
            refine rc_b (i' := 73) (ls' := [some (vR 0), some (vI x1), some (vI x2), o3]) (st' := [vI ((z 63) + 1), vR 0]) (L' := LR (uZ z 0 0) (uA (uA f 37 (upd (f 37) (ix x1) ((f 37 (ix x1)) ||| (1 <<< (x2 &&& 31))))) 37 (upd (upd (f 37) (ix x1) ((f 37 (ix x1)) ||| (1 <<< (x2 &&& 31)))) (ix x2) (((upd (f 37) (ix x1) ((f 37 (ix x1)) ||| (1 <<< (x2 &&& 31)))) (ix x2)) ||| (1 <<< (x1 &&& 31)))))) 5 (b189_25 (mcall (d + 1)) x1 x2 o3 (uZ z 0 0) (uA (uA f 37 (upd (f 37) (ix x1) ((f 37 (ix x1)) ||| (1 <<< (x2 &&& 31))))) 37 (upd (upd (f 37) (ix x1) ((f 37 (ix x1)) ||| (1 <<< (x2 &&& 31)))) (ix x2) (((upd (f 37) (ix x1) ((f 37 (ix x1)) ||| (1 <<< (x2 &&& 31)))) (ix x2)) ||| (1 <<< (x1 &&& 31)))))) ?_
            refine rc_b (i' := 74) (ls' := [some (vR 0), some (vI x1), some (vI x2), o3]) (st' := []) (L' := LR (uZ (uZ z 0 0) 63 ((z 63) + 1)) (uA (uA f 37 (upd (f 37) (ix x1) ((f 37 (ix x1)) ||| (1 <<< (x2 &&& 31))))) 37 (upd (upd (f 37) (ix x1) ((f 37 (ix x1)) ||| (1 <<< (x2 &&& 31)))) (ix x2) (((upd (f 37) (ix x1) ((f 37 (ix x1)) ||| (1 <<< (x2 &&& 31)))) (ix x2)) ||| (1 <<< (x1 &&& 31)))))) 1 (b189_26 (mcall (d + 1)) ((z 63) + 1) _ (uZ z 0 0) (uA (uA f 37 (upd (f 37) (ix x1) ((f 37 (ix x1)) ||| (1 <<< (x2 &&& 31))))) 37 (upd (upd (f 37) (ix x1) ((f 37 (ix x1)) ||| (1 <<< (x2 &&& 31)))) (ix x2) (((upd (f 37) (ix x1) ((f 37 (ix x1)) ||| (1 <<< (x2 &&& 31)))) (ix x2)) ||| (1 <<< (x1 &&& 31)))))) ?_
            refine rc_b (i' := 76) (ls' := [some (vR 0), some (vI x1), some (vI x2), o3]) (st' := [vI ((z 63) + 1)]) (L' := LR (uZ (uZ z 0 0) 63 ((z 63) + 1)) (uA (uA f 37 (upd (f 37) (ix x1) ((f 37 (ix x1)) ||| (1 <<< (x2 &&& 31))))) 37 (upd (upd (f 37) (ix x1) ((f 37 (ix x1)) ||| (1 <<< (x2 &&& 31)))) (ix x2) (((upd (f 37) (ix x1) ((f 37 (ix x1)) ||| (1 <<< (x2 &&& 31)))) (ix x2)) ||| (1 <<< (x1 &&& 31)))))) 2 (b189_27 (mcall (d + 1)) x1 x2 o3 (uZ (uZ z 0 0) 63 ((z 63) + 1)) (uA (uA f 37 (upd (f 37) (ix x1) ((f 37 (ix x1)) ||| (1 <<< (x2 &&& 31))))) 37 (upd (upd (f 37) (ix x1) ((f 37 (ix x1)) ||| (1 <<< (x2 &&& 31)))) (ix x2) (((upd (f 37) (ix x1) ((f 37 (ix x1)) ||| (1 <<< (x2 &&& 31)))) (ix x2)) ||| (1 <<< (x1 &&& 31)))))) ?_
            subst H
            exact rc_ret (b189_28 (mcall (d + 1)) _ _ _)
          · have H := H.2 (cI1f q5)
            refine rc_b (i' := 43) (ls' := [some (vR 0), some (vI x1), some (vI x2), o3]) (st' := [vI ((-1))]) (L' := LR (uZ z 0 0) f) 1 (b189_8 (mcall (d + 1)) x1 x2 o3 _) ?_
            subst H
            exact rc_ret (b189_9 (mcall (d + 1)) _ _ _)
  · have H := H.2 (cI1f q1)
    refine rc_b (i' := 8) (ls' := [some (vR 0), some (vI x1), some (vI x2), o3]) (st' := [vI 0, vR 0]) (L' := LR (uZ z 0 0) f) 2 (b189_29 (mcall (d + 1)) x1 x2 o3 _) ?_
    refine rc_b (i' := 9) (ls' := [some (vR 0), some (vI x1), some (vI x2), o3]) (st' := []) (L' := LR (uZ (uZ z 0 0) 63 0) f) 1 (b189_30 (mcall (d + 1)) 0 _ (uZ z 0 0) f) ?_
    refine rc_b (i' := 11) (ls' := [some (vR 0), some (vI x1), some (vI x2), some (vI 0)]) (st' := []) (L' := LR (uZ (uZ z 0 0) 63 0) f) 2 (b189_31 (mcall (d + 1)) x1 x2 o3 _) ?_
    exact H
set_option maxRecDepth 100000 in
theorem bc11_189_1 (call : QC FA) (o1 : Option PV) (o2 : Option PV) (x3 : Int32) (L : QH FA) (F : Nat) : rnG call 189 (F + 2) 11 [some (vR 0), o1, o2, some (vI x3)] [] L = rnG call 189 F 13 [some (vR 0), o1, o2, some (vI x3)] [vI 8, vI x3] L := rfl
set_option maxRecDepth 100000 in
theorem bc11_189_2 (call : QC FA) (x y : Int32) (ls : List (Option PV)) (L : QH FA) (F : Nat) : rnG call 189 (F + 1) 13 ls [vI y, vI x] L = bif pcmp 3 x y then rnG call 189 F 21 ls [] L else rnG call 189 F 14 ls [] L := rfl
set_option maxRecDepth 100000 in
theorem bc11_189_3 (call : QC FA) (o1 : Option PV) (o2 : Option PV) (x3 : Int32) (L : QH FA) (F : Nat) : rnG call 189 (F + 1) 21 [some (vR 0), o1, o2, some (vI x3)] [] L = rnG call 189 F 22 [some (vR 0), o1, o2, some (vI x3)] [vI 0] L := rfl
set_option maxRecDepth 100000 in
theorem bc11_189_4 (call : QC FA) (x : Int32) (ls : List (Option PV)) (L : QH FA) (F : Nat) : rnG call 189 (F + 1) 22 ls [vI x] L = some (some (vI x), L) := rfl
set_option maxRecDepth 100000 in
theorem bc11_189_5 (call : QC FA) (o1 : Option PV) (o2 : Option PV) (x3 : Int32) (z : Nat → Int32) (f : Nat → FA) (F : Nat) : rnG call 189 (F + 4) 14 [some (vR 0), o1, o2, some (vI x3)] [] (LR z f) = rnG call 189 F 18 [some (vR 0), o1, o2, some (vI x3)] [vI 0, vI x3, vR 37] (LR z f) := rfl
set_option maxRecDepth 100000 in
theorem bc11_189_6 (call : QC FA) (x y : Int32) (ls : List (Option PV)) (z : Nat → Int32) (f : Nat → FA) (F : Nat) : rnG call 189 (F + 1) 18 ls [vI y, vI x, vR 37] (LR z f) = bif (Nat.beq 0 0 && pin x 8) then rnG call 189 F 19 ls [] (LR z (uA f 37 (upd (f 37) (ix x) y))) else none := rfl
set_option maxRecDepth 100000 in
theorem bc11_189_7 (call : QC FA) (o1 : Option PV) (o2 : Option PV) (x3 : Int32) (L : QH FA) (F : Nat) : rnG call 189 (F + 1) 19 [some (vR 0), o1, o2, some (vI x3)] [] L = rnG call 189 F 20 [some (vR 0), o1, o2, some (vI (x3 + 1))] [] L := rfl
set_option maxRecDepth 100000 in
theorem bc11_189_8 (call : QC FA) (o1 : Option PV) (o2 : Option PV) (x3 : Int32) (L : QH FA) (F : Nat) : rnG call 189 (F + 1) 20 [some (vR 0), o1, o2, some (vI x3)] [] L = rnG call 189 F 11 [some (vR 0), o1, o2, some (vI x3)] [] L := rfl
theorem vcc11_189_11 (d : Nat) (o1 : Option PV) (o2 : Option PV) (x3 : Int32) (z : Nat → Int32) (f : Nat → FA) (res : Option PV × QH FA) (H : ((8 ≤ I x3 → res = (some (vI 0), LR z f)) ∧ (I x3 < 8 → (pin x3 8 = true ∧ RC (mcall (d + 1)) (mP 189) 11 [some (vR 0), o1, o2, some (vI (x3 + 1))] [] (LR z (uA f 37 (upd (f 37) (ix x3) 0))) res)))) : RC (mcall (d + 1)) (mP 189) 11 [some (vR 0), o1, o2, some (vI x3)] [] (LR z f) res := by
  refine rc_b (i' := 13) (ls' := [some (vR 0), o1, o2, some (vI x3)]) (st' := [vI 8, vI x3]) (L' := LR z f) 2 (bc11_189_1 (mcall (d + 1)) o1 o2 x3 _) ?_
  refine rc_if (it := 21) (ie := 14) (ls' := [some (vR 0), o1, o2, some (vI x3)]) (st' := []) (bc11_189_2 (mcall (d + 1)) x3 8 _ _) (fun q1 => ?_) (fun q1 => ?_)
  · have H := H.1 (cI3t q1 rfl rfl)
    refine rc_b (i' := 22) (ls' := [some (vR 0), o1, o2, some (vI x3)]) (st' := [vI 0]) (L' := LR z f) 1 (bc11_189_3 (mcall (d + 1)) o1 o2 x3 _) ?_
    subst H
    exact rc_ret (bc11_189_4 (mcall (d + 1)) _ _ _)
  · have H := H.2 (cI3f q1 rfl rfl)
    refine rc_b (i' := 18) (ls' := [some (vR 0), o1, o2, some (vI x3)]) (st' := [vI 0, vI x3, vR 37]) (L' := LR z f) 4 (bc11_189_5 (mcall (d + 1)) o1 o2 x3 z f) ?_
    obtain ⟨g1, H⟩ := H
    refine rc_g (i' := 19) (ls' := [some (vR 0), o1, o2, some (vI x3)]) (st' := []) (L' := LR z (uA f 37 (upd (f 37) (ix x3) 0))) (bc11_189_6 (mcall (d + 1)) x3 0 _ z f) (pinG g1) ?_
    refine rc_b (i' := 20) (ls' := [some (vR 0), o1, o2, some (vI (x3 + 1))]) (st' := []) (L' := LR z (uA f 37 (upd (f 37) (ix x3) 0))) 1 (bc11_189_7 (mcall (d + 1)) o1 o2 x3 _) ?_
    refine rc_b (i' := 11) (ls' := [some (vR 0), o1, o2, some (vI (x3 + 1))]) (st' := []) (L' := LR z (uA f 37 (upd (f 37) (ix x3) 0))) 1 (bc11_189_8 (mcall (d + 1)) o1 o2 (x3 + 1) _) ?_
    exact H
theorem m_bill_l (d : Nat) (o1 o2 : Option PV) (z : Nat → Int32) (f : Nat → FA) : ∀ t n, n + t = 8 → RC (mcall (d + 1)) (mP 189) 11 [some (vR 0), o1, o2, some (vI (nI n))] [] (LR z (uA f 37 (zr0 (f 37) n))) (some (vI 0), LR z (uA f 37 (zr0 (f 37) 8))) := by
  intro t
  induction t with
  | zero =>
    intro n hn
    obtain rfl : n = 8 := by omega
    exact vcc11_189_11 d o1 o2 _ z _ _ ⟨fun _ => rfl, fun q => by rw [I_nI (n := 8) (by omega)] at q; omega⟩
  | succ t ih =>
    intro n hn
    have h := ih (n + 1) (by omega)
    rw [← nI_add n 1, ← zr0_s] at h
    refine vcc11_189_11 d o1 o2 _ z _ _ ⟨fun q => by rw [I_nI (n := n) (by omega)] at q; omega, fun _ => ⟨pin_nI (by omega) (by omega), ?_⟩⟩
    rw [ix_nI (j := n) (by omega), uA_uA, uA_self]
    exact h
theorem m_bill_e (d : Nat) {x1 x2 : Int32} {z : Nat → Int32} {f : Nat → FA} (h : x1 = -1) : mcall (d + 2) 189 [vR 0, vI x1, vI x2] (LR z f) = some (some (vI 0), LR (uZ (uZ z 0 0) 63 0) (uA f 37 (zr0 (f 37) 8))) := by
  have go : ∀ res, _ → mcall (d + 2) 189 [vR 0, vI x1, vI x2] (LR z f) = some res := fun res H => mcall_i (mq189 (cu := [])).2.2 rfl (vc189_0 d x1 x2 none z f res H)
  have hl := m_bill_l d (some (vI x1)) (some (vI x2)) (uZ (uZ z 0 0) 63 0) f 8 0 rfl
  rw [zr0_0, uA_id rfl] at hl
  exact go _ ⟨fun q => absurd h q, fun _ => hl⟩
theorem m_bill_r (d : Nat) {x1 x2 : Int32} {z : Nat → Int32} {f : Nat → FA} (h : ¬ x1 = -1) (hb : ¬ (0 ≤ I x1 ∧ I x1 ≤ 7 ∧ 0 ≤ I x2 ∧ I x2 ≤ 7 ∧ ¬ x1 = x2)) : mcall (d + 2) 189 [vR 0, vI x1, vI x2] (LR z f) = some (some (vI (-1)), LR (uZ z 0 0) f) := by
  have go : ∀ res, _ → mcall (d + 2) 189 [vR 0, vI x1, vI x2] (LR z f) = some res := fun res H => mcall_i (mq189 (cu := [])).2.2 rfl (vc189_0 d x1 x2 none z f res H)
  exact go _ ⟨fun _ => ⟨fun q1 => ⟨fun q2 => ⟨fun _ => rfl, fun q3 => absurd ⟨q1.1, q1.2, q2.1, q2.2, q3⟩ hb⟩, fun _ => rfl⟩, fun _ => rfl⟩, fun q => absurd q h⟩
theorem m_bill_p (d : Nat) {a b : Nat} {z : Nat → Int32} {f : Nat → FA} (ha : a < 8) (hb : b < 8) (hab : a ≠ b) {n : Nat} (hz : z 63 = nI n) (hn : n < 12) : mcall (d + 2) 189 [vR 0, vI (nI a), vI (nI b)] (LR z f) = some (some (vI (nI (n + 1))), LR (uZ (uZ z 0 0) 63 (nI (n + 1))) (uA f 37 (b1u (b1u (f 37) a b) b a))) := by
  have go : ∀ res, _ → mcall (d + 2) 189 [vR 0, vI (nI a), vI (nI b)] (LR z f) = some res := fun res H => mcall_i (mq189 (cu := [])).2.2 rfl (vc189_0 d (nI a) (nI b) none z f res H)
  have i1 := I_nI (n := a) (by omega)
  have i2 := I_nI (n := b) (by omega)
  have h : ¬ nI a = -1 := im1n (by rw [i1]; omega)
  rw [hz, show nI n + 1 = nI (n + 1) from nI_add n 1, i1, i2, ix_nI (j := a) (by omega), ix_nI (j := b) (by omega)] at go
  exact go _ ⟨fun _ => ⟨fun _ => ⟨fun _ => ⟨fun q => absurd q (nI_ne (by omega) (by omega) hab), fun _ => ⟨fun _ => ⟨pin_nI ha (by omega), pin_nI ha (by omega), pin_nI hb (by omega), pin_nI hb (by omega), by rw [uA_uA]; rfl⟩, fun q => absurd q (nI_ne (b := 12) (by omega) (by omega) (by omega))⟩⟩, fun q => absurd ⟨by omega, by omega⟩ q⟩, fun q => absurd ⟨by omega, by omega⟩ q⟩, fun q => absurd q h⟩
theorem m_bill_f (d : Nat) {a b : Nat} {z : Nat → Int32} {f : Nat → FA} (ha : a < 8) (hb : b < 8) (hab : a ≠ b) (hz : z 63 = nI 12) : mcall (d + 2) 189 [vR 0, vI (nI a), vI (nI b)] (LR z f) = some (some (vI (-1)), LR (uZ z 0 0) f) := by
  have go : ∀ res, _ → mcall (d + 2) 189 [vR 0, vI (nI a), vI (nI b)] (LR z f) = some res := fun res H => mcall_i (mq189 (cu := [])).2.2 rfl (vc189_0 d (nI a) (nI b) none z f res H)
  have i1 := I_nI (n := a) (by omega)
  have i2 := I_nI (n := b) (by omega)
  have h : ¬ nI a = -1 := im1n (by rw [i1]; omega)
  rw [hz, i1, i2] at go
  exact go _ ⟨fun _ => ⟨fun _ => ⟨fun _ => ⟨fun q => absurd q (nI_ne (by omega) (by omega) hab), fun _ => ⟨fun q => absurd rfl q, fun _ => rfl⟩⟩, fun q => absurd ⟨by omega, by omega⟩ q⟩, fun q => absurd ⟨by omega, by omega⟩ q⟩, fun q => absurd q h⟩
set_option maxRecDepth 100000 in
theorem b188_1 (call : QC FA) (x1 : Int32) (x2 : Int32) (o3 : Option PV) (L : QH FA) (F : Nat) : rnG call 188 (F + 2) 0 [some (vR 0), some (vI x1), some (vI x2), o3] [] L = rnG call 188 F 2 [some (vR 0), some (vI x1), some (vI x2), o3] [vI 0, vR 0] L := rfl
set_option maxRecDepth 100000 in
theorem b188_2 (call : QC FA) (y : Int32) (ls : List (Option PV)) (z : Nat → Int32) (f : Nat → FA) (F : Nat) : rnG call 188 (F + 1) 2 ls [vI y, vR 0] (LR z f) = rnG call 188 F 3 ls [] (LR (uZ z 0 y) f) := rfl
set_option maxRecDepth 100000 in
theorem b188_3 (call : QC FA) (x1 : Int32) (x2 : Int32) (o3 : Option PV) (L : QH FA) (F : Nat) : rnG call 188 (F + 2) 3 [some (vR 0), some (vI x1), some (vI x2), o3] [] L = rnG call 188 F 5 [some (vR 0), some (vI x1), some (vI x2), o3] [vI ((-1)), vI x1] L := rfl
set_option maxRecDepth 100000 in
theorem b188_4 (call : QC FA) (x y : Int32) (ls : List (Option PV)) (L : QH FA) (F : Nat) : rnG call 188 (F + 1) 5 ls [vI y, vI x] L = bif pcmp 1 x y then rnG call 188 F 23 ls [] L else rnG call 188 F 6 ls [] L := rfl
set_option maxRecDepth 100000 in
theorem b188_5 (call : QC FA) (x1 : Int32) (x2 : Int32) (o3 : Option PV) (L : QH FA) (F : Nat) : rnG call 188 (F + 4) 23 [some (vR 0), some (vI x1), some (vI x2), o3] [] L = rnG call 188 F 27 [some (vR 0), some (vI x1), some (vI x2), o3] [vI 7, vI 0, vI x1, vR 0] L := rfl
set_option maxRecDepth 100000 in
theorem b188_6 (call : QC FA) (a0 : Int32) (a1 : Int32) (a2 : Int32) (ls : List (Option PV)) (z : Nat → Int32) (f : Nat → FA) (F : Nat) : rnG call 188 (F + 1) 27 ls [vI a2, vI a1, vI a0, vR 0] (LR z f) = cbd (call 47 [vR 0, vI a0, vI a1, vI a2] (LR z f)) (fun r L' => rnG call 188 F 28 ls (r.toList ++ []) L') := pcY (ih := rnG call 188 F) (call := call) (a := 47) (b := 3) (v := 12) (t := 28) (x := 0) (ls := ls) (As := [vI a0, vI a1, vI a2]) (st' := []) (L := LR z f) rfl rfl rfl
set_option maxRecDepth 100000 in
theorem b188_7 (call : QC FA) (x : Int32) (ls : List (Option PV)) (L : QH FA) (F : Nat) : rnG call 188 (F + 1) 28 ls [vI x] L = bif pcmp 0 x 0 then rnG call 188 F 42 ls [] L else rnG call 188 F 29 ls [] L := rfl
set_option maxRecDepth 100000 in
theorem b188_8 (call : QC FA) (x1 : Int32) (x2 : Int32) (o3 : Option PV) (L : QH FA) (F : Nat) : rnG call 188 (F + 1) 42 [some (vR 0), some (vI x1), some (vI x2), o3] [] L = rnG call 188 F 43 [some (vR 0), some (vI x1), some (vI x2), o3] [vI ((-1))] L := rfl
set_option maxRecDepth 100000 in
theorem b188_9 (call : QC FA) (x : Int32) (ls : List (Option PV)) (L : QH FA) (F : Nat) : rnG call 188 (F + 1) 43 ls [vI x] L = some (some (vI x), L) := rfl
set_option maxRecDepth 100000 in
theorem b188_10 (call : QC FA) (x1 : Int32) (x2 : Int32) (o3 : Option PV) (L : QH FA) (F : Nat) : rnG call 188 (F + 4) 29 [some (vR 0), some (vI x1), some (vI x2), o3] [] L = rnG call 188 F 33 [some (vR 0), some (vI x1), some (vI x2), o3] [vI 7, vI 0, vI x2, vR 0] L := rfl
set_option maxRecDepth 100000 in
theorem b188_11 (call : QC FA) (a0 : Int32) (a1 : Int32) (a2 : Int32) (ls : List (Option PV)) (z : Nat → Int32) (f : Nat → FA) (F : Nat) : rnG call 188 (F + 1) 33 ls [vI a2, vI a1, vI a0, vR 0] (LR z f) = cbd (call 47 [vR 0, vI a0, vI a1, vI a2] (LR z f)) (fun r L' => rnG call 188 F 34 ls (r.toList ++ []) L') := pcY (ih := rnG call 188 F) (call := call) (a := 47) (b := 3) (v := 12) (t := 34) (x := 0) (ls := ls) (As := [vI a0, vI a1, vI a2]) (st' := []) (L := LR z f) rfl rfl rfl
set_option maxRecDepth 100000 in
theorem b188_12 (call : QC FA) (x : Int32) (ls : List (Option PV)) (L : QH FA) (F : Nat) : rnG call 188 (F + 1) 34 ls [vI x] L = bif pcmp 0 x 0 then rnG call 188 F 42 ls [] L else rnG call 188 F 35 ls [] L := rfl
set_option maxRecDepth 100000 in
theorem b188_13 (call : QC FA) (x1 : Int32) (x2 : Int32) (o3 : Option PV) (L : QH FA) (F : Nat) : rnG call 188 (F + 2) 35 [some (vR 0), some (vI x1), some (vI x2), o3] [] L = rnG call 188 F 37 [some (vR 0), some (vI x1), some (vI x2), o3] [vI x2, vI x1] L := rfl
set_option maxRecDepth 100000 in
theorem b188_14 (call : QC FA) (x y : Int32) (ls : List (Option PV)) (L : QH FA) (F : Nat) : rnG call 188 (F + 1) 37 ls [vI y, vI x] L = bif pcmp 0 x y then rnG call 188 F 42 ls [] L else rnG call 188 F 38 ls [] L := rfl
set_option maxRecDepth 100000 in
theorem b188_15 (call : QC FA) (x1 : Int32) (x2 : Int32) (o3 : Option PV) (z : Nat → Int32) (f : Nat → FA) (F : Nat) : rnG call 188 (F + 3) 38 [some (vR 0), some (vI x1), some (vI x2), o3] [] (LR z f) = rnG call 188 F 41 [some (vR 0), some (vI x1), some (vI x2), o3] [vI 12, vI (z 65)] (LR z f) := rfl
set_option maxRecDepth 100000 in
theorem b188_16 (call : QC FA) (x y : Int32) (ls : List (Option PV)) (L : QH FA) (F : Nat) : rnG call 188 (F + 1) 41 ls [vI y, vI x] L = bif pcmp 1 x y then rnG call 188 F 44 ls [] L else rnG call 188 F 42 ls [] L := rfl
set_option maxRecDepth 100000 in
theorem b188_17 (call : QC FA) (x1 : Int32) (x2 : Int32) (o3 : Option PV) (z : Nat → Int32) (f : Nat → FA) (F : Nat) : rnG call 188 (F + 6) 44 [some (vR 0), some (vI x1), some (vI x2), o3] [] (LR z f) = rnG call 188 F 50 [some (vR 0), some (vI x1), some (vI x2), o3] [vI x2, vR 38, vI x2, vR 38] (LR z f) := rfl
set_option maxRecDepth 100000 in
theorem b188_18 (call : QC FA) (x : Int32) (s0 : Int32) (ls : List (Option PV)) (z : Nat → Int32) (f : Nat → FA) (F : Nat) : rnG call 188 (F + 1) 50 ls [vI x, vR 38, vI s0, vR 38] (LR z f) = bif (Nat.beq 0 0 && pin x 8) then rnG call 188 F 51 ls [vI (f 38 (ix x)), vI s0, vR 38] (LR z f) else none := rfl
set_option maxRecDepth 100000 in
theorem b188_19 (call : QC FA) (x1 : Int32) (x2 : Int32) (o3 : Option PV) (s0 : Int32) (s1 : Int32) (L : QH FA) (F : Nat) : rnG call 188 (F + 4) 51 [some (vR 0), some (vI x1), some (vI x2), o3] [vI s0, vI s1, vR 38] L = rnG call 188 F 55 [some (vR 0), some (vI x1), some (vI x2), o3] [vI (s0 ||| (1 <<< (x1 &&& 31))), vI s1, vR 38] L := rfl
set_option maxRecDepth 100000 in
theorem b188_20 (call : QC FA) (x y : Int32) (ls : List (Option PV)) (z : Nat → Int32) (f : Nat → FA) (F : Nat) : rnG call 188 (F + 1) 55 ls [vI y, vI x, vR 38] (LR z f) = bif (Nat.beq 0 0 && pin x 8) then rnG call 188 F 56 ls [] (LR z (uA f 38 (upd (f 38) (ix x) y))) else none := rfl
set_option maxRecDepth 100000 in
theorem b188_21 (call : QC FA) (x1 : Int32) (x2 : Int32) (o3 : Option PV) (z : Nat → Int32) (f : Nat → FA) (F : Nat) : rnG call 188 (F + 5) 56 [some (vR 0), some (vI x1), some (vI x2), o3] [] (LR z f) = rnG call 188 F 61 [some (vR 0), some (vI x1), some (vI x2), o3] [vI ((z 65) + 1), vR 0] (LR z f) := rfl
set_option maxRecDepth 100000 in
theorem b188_22 (call : QC FA) (y : Int32) (ls : List (Option PV)) (z : Nat → Int32) (f : Nat → FA) (F : Nat) : rnG call 188 (F + 1) 61 ls [vI y, vR 0] (LR z f) = rnG call 188 F 62 ls [] (LR (uZ z 65 y) f) := rfl
set_option maxRecDepth 100000 in
theorem b188_23 (call : QC FA) (x1 : Int32) (x2 : Int32) (o3 : Option PV) (z : Nat → Int32) (f : Nat → FA) (F : Nat) : rnG call 188 (F + 2) 62 [some (vR 0), some (vI x1), some (vI x2), o3] [] (LR z f) = rnG call 188 F 64 [some (vR 0), some (vI x1), some (vI x2), o3] [vI (z 65)] (LR z f) := rfl
set_option maxRecDepth 100000 in
theorem b188_24 (call : QC FA) (x : Int32) (ls : List (Option PV)) (L : QH FA) (F : Nat) : rnG call 188 (F + 1) 64 ls [vI x] L = some (some (vI x), L) := rfl
set_option maxRecDepth 100000 in
theorem b188_25 (call : QC FA) (x1 : Int32) (x2 : Int32) (o3 : Option PV) (L : QH FA) (F : Nat) : rnG call 188 (F + 2) 6 [some (vR 0), some (vI x1), some (vI x2), o3] [] L = rnG call 188 F 8 [some (vR 0), some (vI x1), some (vI x2), o3] [vI 0, vR 0] L := rfl
set_option maxRecDepth 100000 in
theorem b188_26 (call : QC FA) (y : Int32) (ls : List (Option PV)) (z : Nat → Int32) (f : Nat → FA) (F : Nat) : rnG call 188 (F + 1) 8 ls [vI y, vR 0] (LR z f) = rnG call 188 F 9 ls [] (LR (uZ z 65 y) f) := rfl
set_option maxRecDepth 100000 in
theorem b188_27 (call : QC FA) (x1 : Int32) (x2 : Int32) (o3 : Option PV) (L : QH FA) (F : Nat) : rnG call 188 (F + 2) 9 [some (vR 0), some (vI x1), some (vI x2), o3] [] L = rnG call 188 F 11 [some (vR 0), some (vI x1), some (vI x2), some (vI 0)] [] L := rfl
theorem vc188_0 (d : Nat) (x1 : Int32) (x2 : Int32) (o3 : Option PV) (z : Nat → Int32) (f : Nat → FA) (res : Option PV × QH FA) (H : ((¬ x1 = (-1) → (((0 ≤ I x1 ∧ I x1 ≤ 7) → (((0 ≤ I x2 ∧ I x2 ≤ 7) → ((x1 = x2 → res = (some (vI ((-1))), LR (uZ z 0 0) f)) ∧ (¬ x1 = x2 → ((¬ z 65 = 12 → (pin x2 8 = true ∧ (pin x2 8 = true ∧ res = (some (vI ((z 65) + 1)), LR (uZ (uZ z 0 0) 65 ((z 65) + 1)) (uA f 38 (upd (f 38) (ix x2) ((f 38 (ix x2)) ||| (1 <<< (x1 &&& 31))))))))) ∧ (z 65 = 12 → res = (some (vI ((-1))), LR (uZ z 0 0) f)))))) ∧ ((¬ (0 ≤ I x2 ∧ I x2 ≤ 7)) → res = (some (vI ((-1))), LR (uZ z 0 0) f)))) ∧ ((¬ (0 ≤ I x1 ∧ I x1 ≤ 7)) → res = (some (vI ((-1))), LR (uZ z 0 0) f)))) ∧ (x1 = (-1) → RC (mcall (d + 1)) (mP 188) 11 [some (vR 0), some (vI x1), some (vI x2), some (vI 0)] [] (LR (uZ (uZ z 0 0) 65 0) f) res))) : RC (mcall (d + 1)) (mP 188) 0 [some (vR 0), some (vI x1), some (vI x2), o3] [] (LR z f) res := by
  refine rc_b (i' := 2) (ls' := [some (vR 0), some (vI x1), some (vI x2), o3]) (st' := [vI 0, vR 0]) (L' := LR z f) 2 (b188_1 (mcall (d + 1)) x1 x2 o3 _) ?_
  refine rc_b (i' := 3) (ls' := [some (vR 0), some (vI x1), some (vI x2), o3]) (st' := []) (L' := LR (uZ z 0 0) f) 1 (b188_2 (mcall (d + 1)) 0 _ z f) ?_
  refine rc_b (i' := 5) (ls' := [some (vR 0), some (vI x1), some (vI x2), o3]) (st' := [vI ((-1)), vI x1]) (L' := LR (uZ z 0 0) f) 2 (b188_3 (mcall (d + 1)) x1 x2 o3 _) ?_
  refine rc_if (it := 23) (ie := 6) (ls' := [some (vR 0), some (vI x1), some (vI x2), o3]) (st' := []) (b188_4 (mcall (d + 1)) x1 ((-1)) _ _) (fun q1 => ?_) (fun q1 => ?_)
  · have H := H.1 (cI1t q1)
    refine rc_b (i' := 27) (ls' := [some (vR 0), some (vI x1), some (vI x2), o3]) (st' := [vI 7, vI 0, vI x1, vR 0]) (L' := LR (uZ z 0 0) f) 4 (b188_5 (mcall (d + 1)) x1 x2 o3 _) ?_
    refine rc_call (t := 28) (ls' := [some (vR 0), some (vI x1), some (vI x2), o3]) (st' := []) (b188_6 (mcall (d + 1)) x1 0 7 _ (uZ z 0 0) f) (isIn_r _ x1 0 7 (uZ z 0 0) f) ?_
    show RC (mcall (d + 1)) (mP 188) 28 [some (vR 0), some (vI x1), some (vI x2), o3] [vI (bI (0 ≤ I x1 ∧ I x1 ≤ 7))] (LR (uZ z 0 0) f) res
    refine rc_bz (it := 42) (ie := 29) (ls' := [some (vR 0), some (vI x1), some (vI x2), o3]) (st' := []) (b188_7 (mcall (d + 1)) (bI (0 ≤ I x1 ∧ I x1 ≤ 7)) _ _) (fun q2 => ?_) (fun q2 => ?_)
    · have H := H.2 q2
      refine rc_b (i' := 43) (ls' := [some (vR 0), some (vI x1), some (vI x2), o3]) (st' := [vI ((-1))]) (L' := LR (uZ z 0 0) f) 1 (b188_8 (mcall (d + 1)) x1 x2 o3 _) ?_
      subst H
      exact rc_ret (b188_9 (mcall (d + 1)) _ _ _)
    · have H := H.1 q2
      refine rc_b (i' := 33) (ls' := [some (vR 0), some (vI x1), some (vI x2), o3]) (st' := [vI 7, vI 0, vI x2, vR 0]) (L' := LR (uZ z 0 0) f) 4 (b188_10 (mcall (d + 1)) x1 x2 o3 _) ?_
      refine rc_call (t := 34) (ls' := [some (vR 0), some (vI x1), some (vI x2), o3]) (st' := []) (b188_11 (mcall (d + 1)) x2 0 7 _ (uZ z 0 0) f) (isIn_r _ x2 0 7 (uZ z 0 0) f) ?_
      show RC (mcall (d + 1)) (mP 188) 34 [some (vR 0), some (vI x1), some (vI x2), o3] [vI (bI (0 ≤ I x2 ∧ I x2 ≤ 7))] (LR (uZ z 0 0) f) res
      refine rc_bz (it := 42) (ie := 35) (ls' := [some (vR 0), some (vI x1), some (vI x2), o3]) (st' := []) (b188_12 (mcall (d + 1)) (bI (0 ≤ I x2 ∧ I x2 ≤ 7)) _ _) (fun q3 => ?_) (fun q3 => ?_)
      · have H := H.2 q3
        refine rc_b (i' := 43) (ls' := [some (vR 0), some (vI x1), some (vI x2), o3]) (st' := [vI ((-1))]) (L' := LR (uZ z 0 0) f) 1 (b188_8 (mcall (d + 1)) x1 x2 o3 _) ?_
        subst H
        exact rc_ret (b188_9 (mcall (d + 1)) _ _ _)
      · have H := H.1 q3
        refine rc_b (i' := 37) (ls' := [some (vR 0), some (vI x1), some (vI x2), o3]) (st' := [vI x2, vI x1]) (L' := LR (uZ z 0 0) f) 2 (b188_13 (mcall (d + 1)) x1 x2 o3 _) ?_
        refine rc_if (it := 42) (ie := 38) (ls' := [some (vR 0), some (vI x1), some (vI x2), o3]) (st' := []) (b188_14 (mcall (d + 1)) x1 x2 _ _) (fun q4 => ?_) (fun q4 => ?_)
        · have H := H.1 (cI0t q4)
          refine rc_b (i' := 43) (ls' := [some (vR 0), some (vI x1), some (vI x2), o3]) (st' := [vI ((-1))]) (L' := LR (uZ z 0 0) f) 1 (b188_8 (mcall (d + 1)) x1 x2 o3 _) ?_
          subst H
          exact rc_ret (b188_9 (mcall (d + 1)) _ _ _)
        · have H := H.2 (cI0f q4)
          refine rc_b (i' := 41) (ls' := [some (vR 0), some (vI x1), some (vI x2), o3]) (st' := [vI 12, vI (z 65)]) (L' := LR (uZ z 0 0) f) 3 (b188_15 (mcall (d + 1)) x1 x2 o3 (uZ z 0 0) f) ?_
          refine rc_if (it := 44) (ie := 42) (ls' := [some (vR 0), some (vI x1), some (vI x2), o3]) (st' := []) (b188_16 (mcall (d + 1)) (z 65) 12 _ _) (fun q5 => ?_) (fun q5 => ?_)
          · have H := H.1 (cI1t q5)
            refine rc_b (i' := 50) (ls' := [some (vR 0), some (vI x1), some (vI x2), o3]) (st' := [vI x2, vR 38, vI x2, vR 38]) (L' := LR (uZ z 0 0) f) 6 (b188_17 (mcall (d + 1)) x1 x2 o3 (uZ z 0 0) f) ?_
            obtain ⟨g1, H⟩ := H
            refine rc_g (i' := 51) (ls' := [some (vR 0), some (vI x1), some (vI x2), o3]) (st' := [vI (f 38 (ix x2)), vI x2, vR 38]) (L' := LR (uZ z 0 0) f) (b188_18 (mcall (d + 1)) x2 x2 _ (uZ z 0 0) f) (pinG g1) ?_
            refine rc_b (i' := 55) (ls' := [some (vR 0), some (vI x1), some (vI x2), o3]) (st' := [vI ((f 38 (ix x2)) ||| (1 <<< (x1 &&& 31))), vI x2, vR 38]) (L' := LR (uZ z 0 0) f) 4 (b188_19 (mcall (d + 1)) x1 x2 o3 (f 38 (ix x2)) x2 _) ?_
            obtain ⟨g1, H⟩ := H
            refine rc_g (i' := 56) (ls' := [some (vR 0), some (vI x1), some (vI x2), o3]) (st' := []) (L' := LR (uZ z 0 0) (uA f 38 (upd (f 38) (ix x2) ((f 38 (ix x2)) ||| (1 <<< (x1 &&& 31)))))) (b188_20 (mcall (d + 1)) x2 ((f 38 (ix x2)) ||| (1 <<< (x1 &&& 31))) _ (uZ z 0 0) f) (pinG g1) ?_
            refine rc_b (i' := 61) (ls' := [some (vR 0), some (vI x1), some (vI x2), o3]) (st' := [vI ((z 65) + 1), vR 0]) (L' := LR (uZ z 0 0) (uA f 38 (upd (f 38) (ix x2) ((f 38 (ix x2)) ||| (1 <<< (x1 &&& 31)))))) 5 (b188_21 (mcall (d + 1)) x1 x2 o3 (uZ z 0 0) (uA f 38 (upd (f 38) (ix x2) ((f 38 (ix x2)) ||| (1 <<< (x1 &&& 31)))))) ?_
            refine rc_b (i' := 62) (ls' := [some (vR 0), some (vI x1), some (vI x2), o3]) (st' := []) (L' := LR (uZ (uZ z 0 0) 65 ((z 65) + 1)) (uA f 38 (upd (f 38) (ix x2) ((f 38 (ix x2)) ||| (1 <<< (x1 &&& 31)))))) 1 (b188_22 (mcall (d + 1)) ((z 65) + 1) _ (uZ z 0 0) (uA f 38 (upd (f 38) (ix x2) ((f 38 (ix x2)) ||| (1 <<< (x1 &&& 31)))))) ?_
            refine rc_b (i' := 64) (ls' := [some (vR 0), some (vI x1), some (vI x2), o3]) (st' := [vI ((z 65) + 1)]) (L' := LR (uZ (uZ z 0 0) 65 ((z 65) + 1)) (uA f 38 (upd (f 38) (ix x2) ((f 38 (ix x2)) ||| (1 <<< (x1 &&& 31)))))) 2 (b188_23 (mcall (d + 1)) x1 x2 o3 (uZ (uZ z 0 0) 65 ((z 65) + 1)) (uA f 38 (upd (f 38) (ix x2) ((f 38 (ix x2)) ||| (1 <<< (x1 &&& 31)))))) ?_
            subst H
            exact rc_ret (b188_24 (mcall (d + 1)) _ _ _)
          · have H := H.2 (cI1f q5)
            refine rc_b (i' := 43) (ls' := [some (vR 0), some (vI x1), some (vI x2), o3]) (st' := [vI ((-1))]) (L' := LR (uZ z 0 0) f) 1 (b188_8 (mcall (d + 1)) x1 x2 o3 _) ?_
            subst H
            exact rc_ret (b188_9 (mcall (d + 1)) _ _ _)
  · have H := H.2 (cI1f q1)
    refine rc_b (i' := 8) (ls' := [some (vR 0), some (vI x1), some (vI x2), o3]) (st' := [vI 0, vR 0]) (L' := LR (uZ z 0 0) f) 2 (b188_25 (mcall (d + 1)) x1 x2 o3 _) ?_
    refine rc_b (i' := 9) (ls' := [some (vR 0), some (vI x1), some (vI x2), o3]) (st' := []) (L' := LR (uZ (uZ z 0 0) 65 0) f) 1 (b188_26 (mcall (d + 1)) 0 _ (uZ z 0 0) f) ?_
    refine rc_b (i' := 11) (ls' := [some (vR 0), some (vI x1), some (vI x2), some (vI 0)]) (st' := []) (L' := LR (uZ (uZ z 0 0) 65 0) f) 2 (b188_27 (mcall (d + 1)) x1 x2 o3 _) ?_
    exact H
set_option maxRecDepth 100000 in
theorem bc11_188_1 (call : QC FA) (o1 : Option PV) (o2 : Option PV) (x3 : Int32) (L : QH FA) (F : Nat) : rnG call 188 (F + 2) 11 [some (vR 0), o1, o2, some (vI x3)] [] L = rnG call 188 F 13 [some (vR 0), o1, o2, some (vI x3)] [vI 8, vI x3] L := rfl
set_option maxRecDepth 100000 in
theorem bc11_188_2 (call : QC FA) (x y : Int32) (ls : List (Option PV)) (L : QH FA) (F : Nat) : rnG call 188 (F + 1) 13 ls [vI y, vI x] L = bif pcmp 3 x y then rnG call 188 F 21 ls [] L else rnG call 188 F 14 ls [] L := rfl
set_option maxRecDepth 100000 in
theorem bc11_188_3 (call : QC FA) (o1 : Option PV) (o2 : Option PV) (x3 : Int32) (L : QH FA) (F : Nat) : rnG call 188 (F + 1) 21 [some (vR 0), o1, o2, some (vI x3)] [] L = rnG call 188 F 22 [some (vR 0), o1, o2, some (vI x3)] [vI 0] L := rfl
set_option maxRecDepth 100000 in
theorem bc11_188_4 (call : QC FA) (x : Int32) (ls : List (Option PV)) (L : QH FA) (F : Nat) : rnG call 188 (F + 1) 22 ls [vI x] L = some (some (vI x), L) := rfl
set_option maxRecDepth 100000 in
theorem bc11_188_5 (call : QC FA) (o1 : Option PV) (o2 : Option PV) (x3 : Int32) (z : Nat → Int32) (f : Nat → FA) (F : Nat) : rnG call 188 (F + 4) 14 [some (vR 0), o1, o2, some (vI x3)] [] (LR z f) = rnG call 188 F 18 [some (vR 0), o1, o2, some (vI x3)] [vI 0, vI x3, vR 38] (LR z f) := rfl
set_option maxRecDepth 100000 in
theorem bc11_188_6 (call : QC FA) (x y : Int32) (ls : List (Option PV)) (z : Nat → Int32) (f : Nat → FA) (F : Nat) : rnG call 188 (F + 1) 18 ls [vI y, vI x, vR 38] (LR z f) = bif (Nat.beq 0 0 && pin x 8) then rnG call 188 F 19 ls [] (LR z (uA f 38 (upd (f 38) (ix x) y))) else none := rfl
set_option maxRecDepth 100000 in
theorem bc11_188_7 (call : QC FA) (o1 : Option PV) (o2 : Option PV) (x3 : Int32) (L : QH FA) (F : Nat) : rnG call 188 (F + 1) 19 [some (vR 0), o1, o2, some (vI x3)] [] L = rnG call 188 F 20 [some (vR 0), o1, o2, some (vI (x3 + 1))] [] L := rfl
set_option maxRecDepth 100000 in
theorem bc11_188_8 (call : QC FA) (o1 : Option PV) (o2 : Option PV) (x3 : Int32) (L : QH FA) (F : Nat) : rnG call 188 (F + 1) 20 [some (vR 0), o1, o2, some (vI x3)] [] L = rnG call 188 F 11 [some (vR 0), o1, o2, some (vI x3)] [] L := rfl
theorem vcc11_188_11 (d : Nat) (o1 : Option PV) (o2 : Option PV) (x3 : Int32) (z : Nat → Int32) (f : Nat → FA) (res : Option PV × QH FA) (H : ((8 ≤ I x3 → res = (some (vI 0), LR z f)) ∧ (I x3 < 8 → (pin x3 8 = true ∧ RC (mcall (d + 1)) (mP 188) 11 [some (vR 0), o1, o2, some (vI (x3 + 1))] [] (LR z (uA f 38 (upd (f 38) (ix x3) 0))) res)))) : RC (mcall (d + 1)) (mP 188) 11 [some (vR 0), o1, o2, some (vI x3)] [] (LR z f) res := by
  refine rc_b (i' := 13) (ls' := [some (vR 0), o1, o2, some (vI x3)]) (st' := [vI 8, vI x3]) (L' := LR z f) 2 (bc11_188_1 (mcall (d + 1)) o1 o2 x3 _) ?_
  refine rc_if (it := 21) (ie := 14) (ls' := [some (vR 0), o1, o2, some (vI x3)]) (st' := []) (bc11_188_2 (mcall (d + 1)) x3 8 _ _) (fun q1 => ?_) (fun q1 => ?_)
  · have H := H.1 (cI3t q1 rfl rfl)
    refine rc_b (i' := 22) (ls' := [some (vR 0), o1, o2, some (vI x3)]) (st' := [vI 0]) (L' := LR z f) 1 (bc11_188_3 (mcall (d + 1)) o1 o2 x3 _) ?_
    subst H
    exact rc_ret (bc11_188_4 (mcall (d + 1)) _ _ _)
  · have H := H.2 (cI3f q1 rfl rfl)
    refine rc_b (i' := 18) (ls' := [some (vR 0), o1, o2, some (vI x3)]) (st' := [vI 0, vI x3, vR 38]) (L' := LR z f) 4 (bc11_188_5 (mcall (d + 1)) o1 o2 x3 z f) ?_
    obtain ⟨g1, H⟩ := H
    refine rc_g (i' := 19) (ls' := [some (vR 0), o1, o2, some (vI x3)]) (st' := []) (L' := LR z (uA f 38 (upd (f 38) (ix x3) 0))) (bc11_188_6 (mcall (d + 1)) x3 0 _ z f) (pinG g1) ?_
    refine rc_b (i' := 20) (ls' := [some (vR 0), o1, o2, some (vI (x3 + 1))]) (st' := []) (L' := LR z (uA f 38 (upd (f 38) (ix x3) 0))) 1 (bc11_188_7 (mcall (d + 1)) o1 o2 x3 _) ?_
    refine rc_b (i' := 11) (ls' := [some (vR 0), o1, o2, some (vI (x3 + 1))]) (st' := []) (L' := LR z (uA f 38 (upd (f 38) (ix x3) 0))) 1 (bc11_188_8 (mcall (d + 1)) o1 o2 (x3 + 1) _) ?_
    exact H
theorem m_before_l (d : Nat) (o1 o2 : Option PV) (z : Nat → Int32) (f : Nat → FA) : ∀ t n, n + t = 8 → RC (mcall (d + 1)) (mP 188) 11 [some (vR 0), o1, o2, some (vI (nI n))] [] (LR z (uA f 38 (zr0 (f 38) n))) (some (vI 0), LR z (uA f 38 (zr0 (f 38) 8))) := by
  intro t
  induction t with
  | zero =>
    intro n hn
    obtain rfl : n = 8 := by omega
    exact vcc11_188_11 d o1 o2 _ z _ _ ⟨fun _ => rfl, fun q => by rw [I_nI (n := 8) (by omega)] at q; omega⟩
  | succ t ih =>
    intro n hn
    have h := ih (n + 1) (by omega)
    rw [← nI_add n 1, ← zr0_s] at h
    refine vcc11_188_11 d o1 o2 _ z _ _ ⟨fun q => by rw [I_nI (n := n) (by omega)] at q; omega, fun _ => ⟨pin_nI (by omega) (by omega), ?_⟩⟩
    rw [ix_nI (j := n) (by omega), uA_uA, uA_self]
    exact h
theorem m_before_e (d : Nat) {x1 x2 : Int32} {z : Nat → Int32} {f : Nat → FA} (h : x1 = -1) : mcall (d + 2) 188 [vR 0, vI x1, vI x2] (LR z f) = some (some (vI 0), LR (uZ (uZ z 0 0) 65 0) (uA f 38 (zr0 (f 38) 8))) := by
  have go : ∀ res, _ → mcall (d + 2) 188 [vR 0, vI x1, vI x2] (LR z f) = some res := fun res H => mcall_i (mq188 (cu := [])).2.2 rfl (vc188_0 d x1 x2 none z f res H)
  have hl := m_before_l d (some (vI x1)) (some (vI x2)) (uZ (uZ z 0 0) 65 0) f 8 0 rfl
  rw [zr0_0, uA_id rfl] at hl
  exact go _ ⟨fun q => absurd h q, fun _ => hl⟩
theorem m_before_r (d : Nat) {x1 x2 : Int32} {z : Nat → Int32} {f : Nat → FA} (h : ¬ x1 = -1) (hb : ¬ (0 ≤ I x1 ∧ I x1 ≤ 7 ∧ 0 ≤ I x2 ∧ I x2 ≤ 7 ∧ ¬ x1 = x2)) : mcall (d + 2) 188 [vR 0, vI x1, vI x2] (LR z f) = some (some (vI (-1)), LR (uZ z 0 0) f) := by
  have go : ∀ res, _ → mcall (d + 2) 188 [vR 0, vI x1, vI x2] (LR z f) = some res := fun res H => mcall_i (mq188 (cu := [])).2.2 rfl (vc188_0 d x1 x2 none z f res H)
  exact go _ ⟨fun _ => ⟨fun q1 => ⟨fun q2 => ⟨fun _ => rfl, fun q3 => absurd ⟨q1.1, q1.2, q2.1, q2.2, q3⟩ hb⟩, fun _ => rfl⟩, fun _ => rfl⟩, fun q => absurd q h⟩
theorem m_before_p (d : Nat) {a b : Nat} {z : Nat → Int32} {f : Nat → FA} (ha : a < 8) (hb : b < 8) (hab : a ≠ b) {n : Nat} (hz : z 65 = nI n) (hn : n < 12) : mcall (d + 2) 188 [vR 0, vI (nI a), vI (nI b)] (LR z f) = some (some (vI (nI (n + 1))), LR (uZ (uZ z 0 0) 65 (nI (n + 1))) (uA f 38 (b1u (f 38) b a))) := by
  have go : ∀ res, _ → mcall (d + 2) 188 [vR 0, vI (nI a), vI (nI b)] (LR z f) = some res := fun res H => mcall_i (mq188 (cu := [])).2.2 rfl (vc188_0 d (nI a) (nI b) none z f res H)
  have i1 := I_nI (n := a) (by omega)
  have i2 := I_nI (n := b) (by omega)
  have h : ¬ nI a = -1 := im1n (by rw [i1]; omega)
  rw [hz, show nI n + 1 = nI (n + 1) from nI_add n 1, i1, i2, ix_nI (j := b) (by omega)] at go
  exact go _ ⟨fun _ => ⟨fun _ => ⟨fun _ => ⟨fun q => absurd q (nI_ne (by omega) (by omega) hab), fun _ => ⟨fun _ => ⟨pin_nI hb (by omega), pin_nI hb (by omega), rfl⟩, fun q => absurd q (nI_ne (b := 12) (by omega) (by omega) (by omega))⟩⟩, fun q => absurd ⟨by omega, by omega⟩ q⟩, fun q => absurd ⟨by omega, by omega⟩ q⟩, fun q => absurd q h⟩
theorem m_before_f (d : Nat) {a b : Nat} {z : Nat → Int32} {f : Nat → FA} (ha : a < 8) (hb : b < 8) (hab : a ≠ b) (hz : z 65 = nI 12) : mcall (d + 2) 188 [vR 0, vI (nI a), vI (nI b)] (LR z f) = some (some (vI (-1)), LR (uZ z 0 0) f) := by
  have go : ∀ res, _ → mcall (d + 2) 188 [vR 0, vI (nI a), vI (nI b)] (LR z f) = some res := fun res H => mcall_i (mq188 (cu := [])).2.2 rfl (vc188_0 d (nI a) (nI b) none z f res H)
  have i1 := I_nI (n := a) (by omega)
  have i2 := I_nI (n := b) (by omega)
  have h : ¬ nI a = -1 := im1n (by rw [i1]; omega)
  rw [hz, i1, i2] at go
  exact go _ ⟨fun _ => ⟨fun _ => ⟨fun _ => ⟨fun q => absurd q (nI_ne (by omega) (by omega) hab), fun _ => ⟨fun q => absurd rfl q, fun _ => rfl⟩⟩, fun q => absurd ⟨by omega, by omega⟩ q⟩, fun q => absurd ⟨by omega, by omega⟩ q⟩, fun q => absurd q h⟩
