/-! steps on both sides, in thought -/
section TWs
variable {W : TXW}
set_option maxRecDepth 100000 in
theorem bh_97_1 (call : QC FA) (x1 : Int32) (x2 : Int32) (x3 : Int32) (z : Nat → Int32) (f : Nat → FA) (F : Nat) : xnG call 97 (F + 2) 0 [some (vR 35), some (vI x1), some (vI x2), some (vI x3)] [] (LW W z f) = xnG call 97 F 2 [some (vR 35), some (vI x1), some (vI x2), some (vI x3)] [vN] (LW W z f) := rfl
set_option maxRecDepth 100000 in
theorem bh_97_2 (call : QC FA) (ls : List (Option PV)) (L : QH FA) (F : Nat) : xnG call 97 (F + 1) 2 ls [vN] L = xnG call 97 F 17 ls [] L := rfl
set_option maxRecDepth 100000 in
theorem bh_97_3 (call : QC FA) (ls : List (Option PV)) (L : QH FA) (F : Nat) : xnG call 97 (F + 1) 17 ls [] L = some (none, L) := rfl
theorem vch_97_0 (call : QC FA) (x1 : Int32) (x2 : Int32) (x3 : Int32) (z : Nat → Int32) (f : Nat → FA) (res : Option PV × QH FA) (H : res = (none, LW W z f)) : XC call (mP 97) 0 [some (vR 35), some (vI x1), some (vI x2), some (vI x3)] [] (LW W z f) res := by
  refine xc_b (i' := 2) (ls' := [some (vR 35), some (vI x1), some (vI x2), some (vI x3)]) (st' := [vN]) (L' := LW W z f) 2 (bh_97_1 call x1 x2 x3 z f) ?_
  refine xc_b (i' := 17) (ls' := [some (vR 35), some (vI x1), some (vI x2), some (vI x3)]) (st' := []) (L' := LW W z f) 1 (bh_97_2 call _ _) ?_
  subst H
  exact xc_ret (bh_97_3 call _ _)
set_option maxRecDepth 100000 in
theorem bh_101_1 (call : QC FA) (x1 : Int32) (x2 : Int32) (o3 : Option PV) (z : Nat → Int32) (f : Nat → FA) (F : Nat) : xnG call 101 (F + 3) 0 [some (vR 35), some (vI x1), some (vI x2), o3] [] (LW W z f) = xnG call 101 F 3 [some (vR 35), some (vI x1), some (vI x2), o3] [vI x1, vR 32] (LW W z f) := rfl
set_option maxRecDepth 100000 in
theorem bh_101_2 (call : QC FA) (a0 : Int32) (ls : List (Option PV)) (z : Nat → Int32) (f : Nat → FA) (F : Nat) : xnG call 101 (F + 1) 3 ls [vI a0, vR 32] (LW W z f) = cbd (call 6 [vR 32, vI a0] (LW W z f)) (fun r L' => xnG call 101 F 4 ls (r.toList ++ []) L') := pcY (ih := xnG call 101 F) (call := call) (a := 6) (b := 1) (v := 0) (t := 4) (x := 32) (ls := ls) (As := [vI a0]) (st' := []) (L := LW W z f) rfl rfl rfl
set_option maxRecDepth 100000 in
theorem bh_101_3 (call : QC FA) (x : Int32) (ls : List (Option PV)) (L : QH FA) (F : Nat) : xnG call 101 (F + 1) 4 ls [vI x] L = bif pcmp 0 x 0 then xnG call 101 F 19 ls [] L else xnG call 101 F 5 ls [] L := rfl
set_option maxRecDepth 100000 in
theorem bh_101_4 (call : QC FA) (ls : List (Option PV)) (L : QH FA) (F : Nat) : xnG call 101 (F + 1) 19 ls [] L = some (none, L) := rfl
set_option maxRecDepth 100000 in
theorem bh_101_5 (call : QC FA) (x1 : Int32) (x2 : Int32) (o3 : Option PV) (z : Nat → Int32) (f : Nat → FA) (F : Nat) : xnG call 101 (F + 3) 5 [some (vR 35), some (vI x1), some (vI x2), o3] [] (LW W z f) = xnG call 101 F 8 [some (vR 35), some (vI x1), some (vI x2), o3] [vI x1, vR 32] (LW W z f) := rfl
set_option maxRecDepth 100000 in
theorem bh_101_6 (call : QC FA) (a0 : Int32) (ls : List (Option PV)) (z : Nat → Int32) (f : Nat → FA) (F : Nat) : xnG call 101 (F + 1) 8 ls [vI a0, vR 32] (LW W z f) = cbd (call 11 [vR 32, vI a0] (LW W z f)) (fun r L' => xnG call 101 F 9 ls (r.toList ++ []) L') := pcY (ih := xnG call 101 F) (call := call) (a := 11) (b := 1) (v := 0) (t := 9) (x := 32) (ls := ls) (As := [vI a0]) (st' := []) (L := LW W z f) rfl rfl rfl
set_option maxRecDepth 100000 in
theorem bh_101_7 (call : QC FA) (x1 : Int32) (x2 : Int32) (o3 : Option PV) (s0 : Int32) (z : Nat → Int32) (f : Nat → FA) (F : Nat) : xnG call 101 (F + 4) 9 [some (vR 35), some (vI x1), some (vI x2), o3] [vI s0] (LW W z f) = xnG call 101 F 13 [some (vR 35), some (vI x1), some (vI x2), some (vI s0)] [vI x1, vR 32] (LW W z f) := rfl
set_option maxRecDepth 100000 in
theorem bh_101_8 (call : QC FA) (a0 : Int32) (ls : List (Option PV)) (z : Nat → Int32) (f : Nat → FA) (F : Nat) : xnG call 101 (F + 1) 13 ls [vI a0, vR 32] (LW W z f) = cbd (call 89 [vR 32, vI a0] (LW W z f)) (fun r L' => xnG call 101 F 14 ls (r.toList ++ []) L') := pcY (ih := xnG call 101 F) (call := call) (a := 89) (b := 1) (v := 0) (t := 14) (x := 32) (ls := ls) (As := [vI a0]) (st' := []) (L := LW W z f) rfl rfl rfl
set_option maxRecDepth 100000 in
theorem bh_101_9 (call : QC FA) (x1 : Int32) (x2 : Int32) (x3 : Int32) (L : QH FA) (F : Nat) : xnG call 101 (F + 4) 14 [some (vR 35), some (vI x1), some (vI x2), some (vI x3)] [] L = xnG call 101 F 18 [some (vR 35), some (vI x1), some (vI x2), some (vI x3)] [vI x1, vI x3, vI x2, vR 35] L := rfl
set_option maxRecDepth 100000 in
theorem bh_101_10 (call : QC FA) (a0 : Int32) (a1 : Int32) (a2 : Int32) (ls : List (Option PV)) (z : Nat → Int32) (f : Nat → FA) (F : Nat) : xnG call 101 (F + 1) 18 ls [vI a2, vI a1, vI a0, vR 35] (LW W z f) = cbd (call 97 [vR 35, vI a0, vI a1, vI a2] (LW W z f)) (fun r L' => xnG call 101 F 19 ls (r.toList ++ []) L') := pcY (ih := xnG call 101 F) (call := call) (a := 97) (b := 3) (v := 1) (t := 19) (x := 35) (ls := ls) (As := [vI a0, vI a1, vI a2]) (st' := []) (L := LW W z f) rfl rfl rfl
theorem vch_101_0 (call : QC FA) (x1 : Int32) (x2 : Int32) (o3 : Option PV) (z : Nat → Int32) (f : Nat → FA) (res : Option PV × QH FA) (H : (∃ (r1 : Int32) (z1 : Nat → Int32) (f1 : Nat → FA), call 6 [vR 32, vI x1] (LW W z f) = some (some (vI r1), LW W z1 f1) ∧ ((r1 = 0 → res = (none, LW W z1 f1)) ∧ (¬ r1 = 0 → (∃ (r2 : Int32) (z2 : Nat → Int32) (f2 : Nat → FA), call 11 [vR 32, vI x1] (LW W z1 f1) = some (some (vI r2), LW W z2 f2) ∧ (∃ (z3 : Nat → Int32) (f3 : Nat → FA), call 89 [vR 32, vI x1] (LW W z2 f2) = some (none, LW W z3 f3) ∧ (∃ (z4 : Nat → Int32) (f4 : Nat → FA), call 97 [vR 35, vI x2, vI r2, vI x1] (LW W z3 f3) = some (none, LW W z4 f4) ∧ res = (none, LW W z4 f4)))))))) : XC call (mP 101) 0 [some (vR 35), some (vI x1), some (vI x2), o3] [] (LW W z f) res := by
  refine xc_b (i' := 3) (ls' := [some (vR 35), some (vI x1), some (vI x2), o3]) (st' := [vI x1, vR 32]) (L' := LW W z f) 3 (bh_101_1 call x1 x2 o3 z f) ?_
  obtain ⟨r1, z1, f1, hc, H⟩ := H
  refine xc_call (t := 4) (ls' := [some (vR 35), some (vI x1), some (vI x2), o3]) (st' := []) (bh_101_2 call x1 _ z f) hc ?_
  show XC call (mP 101) 4 [some (vR 35), some (vI x1), some (vI x2), o3] [vI r1] (LW W z1 f1) res
  refine xc_if (it := 19) (ie := 5) (ls' := [some (vR 35), some (vI x1), some (vI x2), o3]) (st' := []) (bh_101_3 call r1 _ _) (fun q1 => ?_) (fun q1 => ?_)
  · have H := H.1 (cI0t q1)
    subst H
    exact xc_ret (bh_101_4 call _ _)
  · have H := H.2 (cI0f q1)
    refine xc_b (i' := 8) (ls' := [some (vR 35), some (vI x1), some (vI x2), o3]) (st' := [vI x1, vR 32]) (L' := LW W z1 f1) 3 (bh_101_5 call x1 x2 o3 z1 f1) ?_
    obtain ⟨r2, z2, f2, hc, H⟩ := H
    refine xc_call (t := 9) (ls' := [some (vR 35), some (vI x1), some (vI x2), o3]) (st' := []) (bh_101_6 call x1 _ z1 f1) hc ?_
    show XC call (mP 101) 9 [some (vR 35), some (vI x1), some (vI x2), o3] [vI r2] (LW W z2 f2) res
    refine xc_b (i' := 13) (ls' := [some (vR 35), some (vI x1), some (vI x2), some (vI r2)]) (st' := [vI x1, vR 32]) (L' := LW W z2 f2) 4 (bh_101_7 call x1 x2 o3 r2 z2 f2) ?_
    obtain ⟨z3, f3, hc, H⟩ := H
    refine xc_call (t := 14) (ls' := [some (vR 35), some (vI x1), some (vI x2), some (vI r2)]) (st' := []) (bh_101_8 call x1 _ z2 f2) hc ?_
    show XC call (mP 101) 14 [some (vR 35), some (vI x1), some (vI x2), some (vI r2)] [] (LW W z3 f3) res
    refine xc_b (i' := 18) (ls' := [some (vR 35), some (vI x1), some (vI x2), some (vI r2)]) (st' := [vI x1, vI r2, vI x2, vR 35]) (L' := LW W z3 f3) 4 (bh_101_9 call x1 x2 r2 _) ?_
    obtain ⟨z4, f4, hc, H⟩ := H
    refine xc_call (t := 19) (ls' := [some (vR 35), some (vI x1), some (vI x2), some (vI r2)]) (st' := []) (bh_101_10 call x2 r2 x1 _ z3 f3) hc ?_
    show XC call (mP 101) 19 [some (vR 35), some (vI x1), some (vI x2), some (vI r2)] [] (LW W z4 f4) res
    subst H
    exact xc_ret (bh_101_4 call _ _)
set_option maxRecDepth 100000 in
theorem bh_93_1 (call : QC FA) (x1 : Int32) (z : Nat → Int32) (f : Nat → FA) (F : Nat) : xnG call 93 (F + 2) 0 [some (vR 35), some (vI x1)] [] (LW W z f) = xnG call 93 F 2 [some (vR 35), some (vI x1)] [vN] (LW W z f) := rfl
set_option maxRecDepth 100000 in
theorem bh_93_2 (call : QC FA) (ls : List (Option PV)) (L : QH FA) (F : Nat) : xnG call 93 (F + 1) 2 ls [vN] L = xnG call 93 F 3 ls [] L := rfl
set_option maxRecDepth 100000 in
theorem bh_93_3 (call : QC FA) (x1 : Int32) (L : QH FA) (F : Nat) : xnG call 93 (F + 2) 3 [some (vR 35), some (vI x1)] [] L = xnG call 93 F 5 [some (vR 35), some (vI x1)] [vI 500, vI x1] L := rfl
set_option maxRecDepth 100000 in
theorem bh_93_4 (call : QC FA) (x y : Int32) (ls : List (Option PV)) (L : QH FA) (F : Nat) : xnG call 93 (F + 1) 5 ls [vI y, vI x] L = bif pcmp 2 x y then xnG call 93 F 8 ls [] L else xnG call 93 F 6 ls [] L := rfl
set_option maxRecDepth 100000 in
theorem bh_93_5 (call : QC FA) (x1 : Int32) (L : QH FA) (F : Nat) : xnG call 93 (F + 1) 8 [some (vR 35), some (vI x1)] [] L = xnG call 93 F 9 [some (vR 35), some (vI x1)] [vI 0] L := rfl
set_option maxRecDepth 100000 in
theorem bh_93_6 (call : QC FA) (ls : List (Option PV)) (L : QH FA) (F : Nat) : xnG call 93 (F + 1) 9 ls [vI 0] L = some (some (vI 0), L) := rfl
set_option maxRecDepth 100000 in
theorem bh_93_7 (call : QC FA) (x1 : Int32) (L : QH FA) (F : Nat) : xnG call 93 (F + 2) 6 [some (vR 35), some (vI x1)] [] L = xnG call 93 F 9 [some (vR 35), some (vI x1)] [vI 1] L := rfl
set_option maxRecDepth 100000 in
theorem bh_93_8 (call : QC FA) (ls : List (Option PV)) (L : QH FA) (F : Nat) : xnG call 93 (F + 1) 9 ls [vI 1] L = some (some (vI 1), L) := rfl
theorem vch_93_0 (call : QC FA) (x1 : Int32) (z : Nat → Int32) (f : Nat → FA) (res : Option PV × QH FA) (H : ((I x1 < 500 → res = (some (vI 0), LW W z f)) ∧ (500 ≤ I x1 → res = (some (vI 1), LW W z f)))) : XC call (mP 93) 0 [some (vR 35), some (vI x1)] [] (LW W z f) res := by
  refine xc_b (i' := 2) (ls' := [some (vR 35), some (vI x1)]) (st' := [vN]) (L' := LW W z f) 2 (bh_93_1 call x1 z f) ?_
  refine xc_b (i' := 3) (ls' := [some (vR 35), some (vI x1)]) (st' := []) (L' := LW W z f) 1 (bh_93_2 call _ _) ?_
  refine xc_b (i' := 5) (ls' := [some (vR 35), some (vI x1)]) (st' := [vI 500, vI x1]) (L' := LW W z f) 2 (bh_93_3 call x1 _) ?_
  refine xc_if (it := 8) (ie := 6) (ls' := [some (vR 35), some (vI x1)]) (st' := []) (bh_93_4 call x1 500 _ _) (fun q1 => ?_) (fun q1 => ?_)
  · have H := H.1 (cI2t q1 rfl rfl)
    refine xc_b (i' := 9) (ls' := [some (vR 35), some (vI x1)]) (st' := [vI 0]) (L' := LW W z f) 1 (bh_93_5 call x1 _) ?_
    subst H
    exact xc_ret (bh_93_6 call _ _)
  · have H := H.2 (cI2f q1 rfl rfl)
    refine xc_b (i' := 9) (ls' := [some (vR 35), some (vI x1)]) (st' := [vI 1]) (L' := LW W z f) 2 (bh_93_7 call x1 _) ?_
    subst H
    exact xc_ret (bh_93_8 call _ _)
/-- both sides beside one another -/
def RLh (nv : Nat) (z : Nat → Int32) (f : Nat → FA) (zr : Nat → Int32) (r : Nat → FA) : Prop := CRL 32 nv z f r ∧ ¬ zr 5 = 0
/-- what else is left alone -/
def FRh (z : Nat → Int32) (f r : Nat → FA) (z' : Nat → Int32) (f' r' : Nat → FA) : Prop := (∀ j, (j < 323 ∨ 329 < j) → z' j = z j) ∧ (∀ k, k ∉ [33, 34, 36, 37, 38] → f' k = f k) ∧ ∀ k, k ∉ [1, 21, 22] → r' k = r k
theorem FRh.rfl {z : Nat → Int32} {f r : Nat → FA} : FRh z f r z f r := ⟨fun _ _ => Eq.refl _, fun _ _ => Eq.refl _, fun _ _ => Eq.refl _⟩
theorem FRh.trans {z z' z2 : Nat → Int32} {f r f' r' f2 r2 : Nat → FA} (h : FRh z f r z' f' r') (g : FRh z' f' r' z2 f2 r2) : FRh z f r z2 f2 r2 := ⟨fun j hj => (g.1 j hj).trans (h.1 j hj), fun k hk => (g.2.1 k hk).trans (h.2.1 k hk), fun k hk => (g.2.2 k hk).trans (h.2.2 k hk)⟩
theorem cr_bareh {nv i : Nat} (hi : i < 144) {z : Nat → Int32} {f r : Nat → FA} (h : CRL 32 nv z f r) : CRL 32 nv z (uA f 34 (upd (f 34) i 0)) (uA r 1 (upd (upd (upd (r 1) (67 + i) 0) (211 + i) 0) (355 + i) 0)) := by
  obtain ⟨hn, hs, ht, hm, hr⟩ := h
  have g : ∀ j, j < 67 → upd (upd (upd (r 1) (67 + i) 0) (211 + i) 0) (355 + i) 0 j = r 1 j := fun j hj => by rw [pk_un (by omega), pk_un (by omega), pk_un (by omega)]
  refine ⟨hn, ?_, ?_, ?_, ?_⟩
  · rw [uA_self]
    unfold CRs
    rw [g 4 (by omega), g 1 (by omega), g 0 (by omega), g 5 (by omega), g 6 (by omega), g 2 (by omega), g 3 (by omega)]
    exact hs
  · rw [uA_self]
    exact ht.cong (fun j hj => by rw [uA_ne (show (33 : Nat) ≠ 34 by decide)]) (fun j h1 h2 => g j h2) (fun v hv => rfl) (fun v hv => rfl) (fun v hv => rfl) hn
  · rw [uA_self]
    show MRS nv (uA f 34 (upd (f 34) i 0) 34) _
    rw [uA_self]
    exact MRS.bare hm hi
  · rw [uA_self]
    unfold CRr
    rw [g 1 (by omega), g 3 (by omega)]
    exact hr
theorem cr_heath {nv : Nat} {z : Nat → Int32} {f r : Nat → FA} (x : Int32) (h : CRL 32 nv z f r) : CRL 32 nv (uZ z 323 x) f (uA r 1 (upd (r 1) 4 x)) := by
  obtain ⟨hn, hs, ht, hm, hr⟩ := h
  have g : ∀ j, j ≠ 4 → upd (r 1) 4 x j = r 1 j := fun j hj => pk_un hj
  refine ⟨hn, ?_, ?_, ?_, ?_⟩
  · rw [uA_self]
    obtain ⟨a1, a2, a3, a4, a5, a6, a7, a8⟩ := hs
    exact ⟨(uZ_n (by decide)).trans a1, uZ_s.trans pk_us.symm, ((uZ_n (by decide)).trans a3).trans (g 1 (by decide)).symm, ((uZ_n (by decide)).trans a4).trans (g 0 (by decide)).symm, ((uZ_n (by decide)).trans a5).trans (g 5 (by decide)).symm, ((uZ_n (by decide)).trans a6).trans (g 6 (by decide)).symm, ((uZ_n (by decide)).trans a7).trans (g 2 (by decide)).symm, ((uZ_n (by decide)).trans a8).trans (g 3 (by decide)).symm⟩
  · rw [uA_self]
    exact ht.cong (fun j hj => rfl) (fun j h1 h2 => g j (by omega)) (fun v hv => rfl) (fun v hv => rfl) (fun v hv => rfl) hn
  · rw [uA_self]
    exact hm.cong (fun j hj => rfl) (fun j h1 h2 => g j (by omega))
  · rw [uA_self]
    unfold CRr
    rw [g 1 (by decide), g 3 (by decide)]
    exact hr
theorem cr_mindh {nv v : Nat} (hv : v < nv) {z : Nat → Int32} {f r : Nat → FA} (x : Int32) (hx : x = -1 ∨ x = 0 ∨ x = 1) (h : CRL 32 nv z f r) : CRL 32 nv z (uA f 33 (upd (f 33) (20 + v) x)) (uA r 1 (upd (r 1) (7 + v) x)) := by
  obtain ⟨hn, hs, ht, hm, hr⟩ := h
  have g : ∀ j, j ≠ 7 + v → upd (r 1) (7 + v) x j = r 1 j := fun j hj => pk_un hj
  refine ⟨hn, ?_, ?_, ?_, ?_⟩
  · rw [uA_self]
    unfold CRs
    rw [g 4 (by omega), g 1 (by omega), g 0 (by omega), g 5 (by omega), g 6 (by omega), g 2 (by omega), g 3 (by omega)]
    exact hs
  · show CRt nv (upd (f 33) (20 + v) x) (upd (r 1) (7 + v) x) (r 4) (r 5) (r 6)
    intro u hu
    obtain ⟨b1, b2, b3, b4, b5, b6, b7, b8, b9⟩ := ht u hu
    refine ⟨(pk_un (by omega)).trans b1, ?_, (pk_un (by omega)).trans b3, (pk_un (by omega)).trans b4, ((pk_un (by omega)).trans b5).trans (g _ (by omega)).symm, ((pk_un (by omega)).trans b6).trans (g _ (by omega)).symm, b7, b8, ?_⟩
    · by_cases q : u = v
      · subst q
        rw [pk_us, pk_us]
      · rw [pk_un (by omega), pk_un (by omega)]
        exact b2
    · by_cases q : u = v
      · subst q
        rw [pk_us]
        exact hx
      · rw [pk_un (by omega)]
        exact b9
  · rw [uA_self]
    exact hm.cong (fun j hj => by rw [uA_ne (show (34 : Nat) ≠ 33 by decide)]) (fun j h1 h2 => g j (by omega))
  · rw [uA_self]
    unfold CRr
    rw [g 1 (by omega), g 3 (by omega)]
    exact hr
theorem cr_scrh {nv : Nat} {z : Nat → Int32} {f r f' r' : Nat → FA} (h : CRL 32 nv z f r) (ht : f' 33 = f 33) (hm : f' 34 = f 34) (h1 : r' 1 = r 1) (h4 : r' 4 = r 4) (h5 : r' 5 = r 5) (h6 : r' 6 = r 6) : CRL 32 nv z f' r' := by
  unfold CRL at h ⊢
  rw [show f' (32 + 1) = f (32 + 1) from ht, show f' (32 + 2) = f (32 + 2) from hm, h1, h4, h5, h6]
  exact h
theorem wNoteh (d : Nat) (a b e : Int32) {z : Nat → Int32} {f : Nat → FA} : xcall (d + 1) 97 [vR 35, vI a, vI b, vI e] (LW W z f) = some (none, LW W z f) := xcall_i (mq97 (cu := [])).2.2 rfl (vch_97_0 (xcall d) a b e z f _ rfl)
theorem simNoteh (d d' : Nat) (w who much : Int32) {nv : Nat} {z zr : Nat → Int32} {f r : Nat → FA} (h : RLh nv z f zr r) : ∃ z' f6 r7 x3, xcall (d + 2) 97 [vR 35, vI w, vI who, vI much] (LW W z f) = some (none, LW W z' (uA f 6 f6)) ∧ (∀ r2 : Nat → FA, r2 7 = r 7 → (∀ j, j < 4 → r2 1 j = r 1 j) → mcall (d' + 1) 243 [vR 0, vI w, vI who, vI much] (LR zr r2) = some (none, LR zr (uA (uA r2 7 r7) 1 (upd (r2 1) 3 x3)))) ∧ RLh nv z' (uA f 6 f6) zr (uA (uA r 7 r7) 1 (upd (r 1) 3 x3)) ∧ FRh z f r z' (uA f 6 f6) (uA (uA r 7 r7) 1 (upd (r 1) 3 x3)) := by
  have e2 : ∀ r2 : Nat → FA, r2 7 = r 7 → (∀ j, j < 4 → r2 1 j = r 1 j) → uA (uA r2 7 (r 7)) 1 (upd (r2 1) 3 (r 1 3)) = r2 := fun r2 q7 q1 => by
    rw [uA_id (k := 7) q7.symm]
    refine uA_id ?_
    funext j
    by_cases q : j = 3
    · rw [q, pk_us, q1 3 (by omega)]
    · rw [pk_un q]
  have e1 : uA f 6 (f 6) = f := uA_id rfl
  refine ⟨z, f 6, r 7, r 1 3, ?_, fun r2 q7 q1 => ?_, ?_, ?_⟩
  · rw [e1]
    exact wNoteh (d + 1) w who much
  · rw [e2 r2 q7 q1]
    exact mNoteT d' w who much h.2
  · rw [e1, e2 r rfl (fun _ _ => rfl)]
    exact h
  · rw [e1, e2 r rfl (fun _ _ => rfl)]
    exact FRh.rfl
theorem nI_dbw (a : Nat) : 2 * nI a = nI (2 * a) := by rw [show (2 : Int32) = nI 2 from rfl, mul_nI]
theorem simTakeh (d d' : Nat) (w : Int32) {nv i : Nat} (hi : i < 144) {z zr : Nat → Int32} {f r : Nat → FA} (h : RLh nv z f zr r) (hmk : ¬ f 34 i = 0) : ∃ z' f' r', xcall (d + 3) 101 [vR 35, vI (nI i), vI w] (LW W z f) = some (none, LW W z' f') ∧ (∀ r2 : Nat → FA, (∀ k, k ≠ 1 → r2 k = r k) → (∀ j, j ≠ 355 + i → r2 1 j = r 1 j) → ∃ r1, mcall (d' + 1) 243 [vR 0, vI w, vI (r 1 (67 + i) - 1), vI (nI i)] (LR zr r2) = some (none, LR zr r1) ∧ mcall (d' + 1) 220 [vR 0, vI (nI i)] (LR zr r1) = some (none, LR zr r')) ∧ RLh nv z' f' zr r' ∧ FRh z f r z' f' r' ∧ f' 34 = upd (f 34) i 0 ∧ r' 1 1 = r 1 1 := by
  obtain ⟨hC, h5⟩ := h
  have hk := wMkdh (W := W) (d + 2) (z := z) (f := f) hi
  rw [mk1_t hmk] at hk
  have ho' := wOwnh (W := W) (d + 1) (z := z) (f := f) hi
  refine ⟨z, _, uA r 1 (upd (upd (upd (r 1) (67 + i) 0) (211 + i) 0) (355 + i) 0), xcall_i (mq101 (cu := [])).2.2 rfl (vch_101_0 (xcall (d + 2)) (nI i) w none z f _ ⟨_, _, _, hk, fun q => absurd q (by decide), fun _ => ⟨_, _, _, ho', _, _, wTkMh (d + 1) hi, _, _, wNoteh (d + 1) _ _ _, rfl⟩⟩), ?_, ⟨cr_bareh hi hC, h5⟩, ⟨fun _ _ => rfl, fun k hk => uA_ne (fun q => hk (by rw [q]; decide)), fun k hk => uA_ne (fun q => hk (by rw [q]; decide))⟩, uA_self _ _ _, by rw [uA_self, pk_un (by omega), pk_un (by omega), pk_un (by omega)]⟩
  intro r2 g1 g2
  refine ⟨r2, mNoteT d' _ _ _ h5, ?_⟩
  have k6 := mBare d' hi (z := zr) (r := r2)
  rw [show uA r2 1 (upd (upd (upd (r2 1) (67 + i) 0) (211 + i) 0) (355 + i) 0) = uA r 1 (upd (upd (upd (r 1) (67 + i) 0) (211 + i) 0) (355 + i) 0) from by
    funext k
    by_cases c1 : k = 1
    · subst c1
      rw [uA_self, uA_self]
      funext j
      by_cases c5 : j = 355 + i
      · subst c5
        rw [pk_us, pk_us]
      · rw [pk_un c5, pk_un c5]
        unfold upd
        simp only [g2 j c5]
    · rw [uA_ne c1, uA_ne c1]
      exact g1 k c1] at k6
  exact k6
theorem wTake0h (d : Nat) (w : Int32) {i : Nat} (hi : i < 144) {z : Nat → Int32} {f : Nat → FA} (hmk : f 34 i = 0) : xcall (d + 3) 101 [vR 35, vI (nI i), vI w] (LW W z f) = some (none, LW W z f) := by
  have hk := wMkdh (W := W) (d + 2) (z := z) (f := f) hi
  rw [mk1_f (fun q => q hmk)] at hk
  exact xcall_i (mq101 (cu := [])).2.2 rfl (vch_101_0 (xcall (d + 2)) (nI i) w none z f _ ⟨_, _, _, hk, fun _ => rfl, fun q => absurd rfl q⟩)
theorem simHaph (d d' : Nat) (x : Int32) (hx0 : 0 ≤ I x) (hx1 : I x ≤ 1000) {nv : Nat} {z zr : Nat → Int32} {f r : Nat → FA} (h : RLh nv z f zr r) : ∃ b z' r', (b = 0 ∨ b = 1) ∧ xcall (d + 2) 93 [vR 35, vI x] (LW W z f) = some (some (vI b), LW W z' f) ∧ mcall (d' + 2) 216 [vR 0, vI x] (LR zr r) = some (some (vI b), LR zr r') ∧ RLh nv z' f zr r' ∧ FRh z f r z' f r' ∧ ∀ j, j ≠ 2 → r' 1 j = r 1 j := by
  have goM : ∀ res, _ → mcall (d' + 2) 216 [vR 0, vI x] (LR zr r) = some res := fun res H => mcall_i (mq216 (cu := [])).2.2 rfl (vc216_0 d' x zr r res H)
  have goC : ∀ res, _ → xcall (d + 2) 93 [vR 35, vI x] (LW W z f) = some res := fun res H => xcall_i (mq93 (cu := [])).2.2 rfl (vch_93_0 (xcall (d + 1)) x z f res H)
  obtain ⟨n, rfl, hn, iN⟩ := nI_ofI hx0
  have i2 : I (2 * nI n) = ((2 * n : Nat) : Int) := by rw [nI_dbw, I_nI (by omega)]
  by_cases c : I (nI n) < 500
  · exact ⟨0, z, r, Or.inl rfl, goC _ ⟨fun _ => rfl, fun q => by omega⟩, goM _ ⟨fun q => absurd q h.2, fun _ => ⟨fun _ => rfl, fun q => by omega⟩⟩, h, FRh.rfl, fun _ _ => rfl⟩
  · exact ⟨1, z, r, Or.inr rfl, goC _ ⟨fun q => absurd q c, fun _ => rfl⟩, goM _ ⟨fun q => absurd q h.2, fun _ => ⟨fun q => by omega, fun _ => rfl⟩⟩, h, FRh.rfl, fun _ _ => rfl⟩
end TWs
