/-! exact runs with calls at any depth -/
noncomputable abbrev rnG (call : QC FA) (k : Nat) (F : Nat) : QK FA := run (mkc rdF wrF fzF call (mP k) 0) F
def RC (call : QC FA) (c : List PO) (i : Nat) (ls : List (Option PV)) (st : List PV) (L : QH FA) (res : Option PV × QH FA) : Prop := ∃ N, ∀ F, N ≤ F → run (mkc rdF wrF fzF call c 0) F i ls st L = some res
theorem RC.uniq {call : QC FA} {c : List PO} {i : Nat} {ls : List (Option PV)} {st : List PV} {L : QH FA} {r1 r2 : Option PV × QH FA} (h1 : RC call c i ls st L r1) (h2 : RC call c i ls st L r2) : r1 = r2 := by
  obtain ⟨N1, h1⟩ := h1
  obtain ⟨N2, h2⟩ := h2
  have e1 := h1 (N1 + N2) (by omega)
  have e2 := h2 (N1 + N2) (by omega)
  rw [e1] at e2
  exact Option.some.inj e2
def lsA (k : Nat) (As : List PV) : List (Option PV) := As.map some ++ List.replicate (mN k - As.length) none
noncomputable def mcall : Nat → QC FA
  | 0 => fun _ _ _ => none
  | d + 1 => fun k As L => @dite _ ((mGd k ∧ Nat.ble As.length (mN k) = true) ∧ ∃ res, RC (mcall d) (mP k) 0 (lsA k As) [] L res) (Classical.propDecidable _) (fun h => some (Classical.choose h.2)) (fun _ => none)
theorem mcall_i {d k : Nat} {As : List PV} {L : QH FA} {res : Option PV × QH FA} (hg : mGd k) (hl : Nat.ble As.length (mN k) = true) (h : RC (mcall d) (mP k) 0 (lsA k As) [] L res) : mcall (d + 1) k As L = some res := by
  have hh : (mGd k ∧ Nat.ble As.length (mN k) = true) ∧ ∃ res, RC (mcall d) (mP k) 0 (lsA k As) [] L res := ⟨⟨hg, hl⟩, res, h⟩
  unfold mcall
  rw [dif_pos hh]
  exact congrArg some ((Classical.choose_spec hh.2).uniq h)
theorem mcall_ok {l : Launch} {G : PG} {H : PH} {lb : Nat → Nat} {N0 : Nat} (hi : LbI lb N0) : ∀ d, hCall rdF l G d H lb N0 (mcall d) := by
  intro d
  induction d with
  | zero => intro k As L r L' hc; cases hc
  | succ d ih =>
    intro k As L r L' hc h hR
    unfold mcall at hc
    split at hc
    · rename_i hh
      have e := Option.some.inj hc
      obtain ⟨N, hN⟩ := Classical.choose_spec hh.2
      rw [e] at hN
      exact rx_met1 (d := d) hh.1.1 hi hh.1.2 ih (hN N (Nat.le_refl _)) hR
    · cases hc
section RCs
variable {call : QC FA} {c : List PO} {i i' : Nat} {ls ls' : List (Option PV)} {st st' : List PV} {L L' : QH FA} {res : Option PV × QH FA}
theorem rc_b (n : Nat) (hs : ∀ F, run (mkc rdF wrF fzF call c 0) (F + n) i ls st L = run (mkc rdF wrF fzF call c 0) F i' ls' st' L') (h : RC call c i' ls' st' L' res) : RC call c i ls st L res := by
  obtain ⟨N, hN⟩ := h
  refine ⟨N + n, fun F hF => ?_⟩
  obtain ⟨F', rfl⟩ : ∃ F', F = F' + n := ⟨F - n, by omega⟩
  rw [hs]
  exact hN F' (by omega)
theorem rc_ret (hs : ∀ F, run (mkc rdF wrF fzF call c 0) (F + 1) i ls st L = some res) : RC call c i ls st L res := by
  refine ⟨1, fun F hF => ?_⟩
  obtain ⟨F', rfl⟩ : ∃ F', F = F' + 1 := ⟨F - 1, by omega⟩
  exact hs F'
theorem rc_t {b it ie : Nat} {x y : Int32} (hs : ∀ F, run (mkc rdF wrF fzF call c 0) (F + 1) i ls st L = bif pcmp b x y then run (mkc rdF wrF fzF call c 0) F it ls' st' L else run (mkc rdF wrF fzF call c 0) F ie ls' st' L) (hb : pcmp b x y = true) (h : RC call c it ls' st' L res) : RC call c i ls st L res := rc_b 1 (fun F => by rw [hs, hb]; rfl) h
theorem rc_f {b it ie : Nat} {x y : Int32} (hs : ∀ F, run (mkc rdF wrF fzF call c 0) (F + 1) i ls st L = bif pcmp b x y then run (mkc rdF wrF fzF call c 0) F it ls' st' L else run (mkc rdF wrF fzF call c 0) F ie ls' st' L) (hb : pcmp b x y = false) (h : RC call c ie ls' st' L res) : RC call c i ls st L res := rc_b 1 (fun F => by rw [hs, hb]; rfl) h
theorem rc_if {b it ie : Nat} {x y : Int32} (hs : ∀ F, run (mkc rdF wrF fzF call c 0) (F + 1) i ls st L = bif pcmp b x y then run (mkc rdF wrF fzF call c 0) F it ls' st' L else run (mkc rdF wrF fzF call c 0) F ie ls' st' L) (h1 : pcmp b x y = true → RC call c it ls' st' L res) (h2 : pcmp b x y = false → RC call c ie ls' st' L res) : RC call c i ls st L res := by
  cases h : pcmp b x y with
  | true => exact rc_t hs h (h1 h)
  | false => exact rc_f hs h (h2 h)
theorem rc_g {g : Bool} (hs : ∀ F, run (mkc rdF wrF fzF call c 0) (F + 1) i ls st L = bif g then run (mkc rdF wrF fzF call c 0) F i' ls' st' L' else none) (hg : g = true) (h : RC call c i' ls' st' L' res) : RC call c i ls st L res := rc_b 1 (fun F => by rw [hs, hg]; rfl) h
theorem rc_call {o : QT FA} {t : Nat} {r1 : Option PV} {L1 : QH FA} (hs : ∀ F, run (mkc rdF wrF fzF call c 0) (F + 1) i ls st L = cbd o (fun r L' => run (mkc rdF wrF fzF call c 0) F t ls' (r.toList ++ st') L')) (ho : o = some (r1, L1)) (h : RC call c t ls' (r1.toList ++ st') L1 res) : RC call c i ls st L res := rc_b 1 (fun F => by rw [hs, ho]; rfl) h
end RCs
def bI (P : Prop) [Decidable P] : Int32 := if P then 1 else 0
theorem bI_t {P : Prop} [Decidable P] (h : P) : bI P = 1 := if_pos h
theorem bI_f {P : Prop} [Decidable P] (h : ¬ P) : bI P = 0 := if_neg h
theorem rc_bz {call : QC FA} {c : List PO} {i : Nat} {ls ls' : List (Option PV)} {st st' : List PV} {L : QH FA} {res : Option PV × QH FA} {it ie : Nat} {P : Prop} [Decidable P] (hs : ∀ F, run (mkc rdF wrF fzF call c 0) (F + 1) i ls st L = bif pcmp 0 (bI P) 0 then run (mkc rdF wrF fzF call c 0) F it ls' st' L else run (mkc rdF wrF fzF call c 0) F ie ls' st' L) (h1 : ¬ P → RC call c it ls' st' L res) (h2 : P → RC call c ie ls' st' L res) : RC call c i ls st L res := by
  by_cases h : P
  · exact rc_f hs (by rw [bI_t h]; decide) (h2 h)
  · exact rc_t hs (by rw [bI_f h]; decide) (h1 h)
theorem rc_bn {call : QC FA} {c : List PO} {i : Nat} {ls ls' : List (Option PV)} {st st' : List PV} {L : QH FA} {res : Option PV × QH FA} {it ie : Nat} {P : Prop} [Decidable P] (hs : ∀ F, run (mkc rdF wrF fzF call c 0) (F + 1) i ls st L = bif pcmp 1 (bI P) 0 then run (mkc rdF wrF fzF call c 0) F it ls' st' L else run (mkc rdF wrF fzF call c 0) F ie ls' st' L) (h1 : P → RC call c it ls' st' L res) (h2 : ¬ P → RC call c ie ls' st' L res) : RC call c i ls st L res := by
  by_cases h : P
  · exact rc_t hs (by rw [bI_t h]; decide) (h1 h)
  · exact rc_f hs (by rw [bI_f h]; decide) (h2 h)
theorem pinG {x : Int32} {N : Nat} (h : pin x N = true) : (Nat.beq 0 0 && pin x N) = true := h
abbrev I (x : Int32) : Int := x.toInt
section cIs
variable {x y : Int32} {a b : Int}
theorem cI0t (q : pcmp 0 x y = true) : x = y := of_decide_eq_true (cmp_eq.symm.trans q)
theorem cI0f (q : pcmp 0 x y = false) : ¬ x = y := of_decide_eq_false (cmp_eq.symm.trans q)
theorem cI1t (q : pcmp 1 x y = true) : ¬ x = y := of_decide_eq_true (cmp_ne.symm.trans q)
theorem cI1f (q : pcmp 1 x y = false) : x = y := Decidable.of_not_not (of_decide_eq_false (cmp_ne.symm.trans q))
theorem cI2t (q : pcmp 2 x y = true) (hx : I x = a) (hy : I y = b) : a < b := by rw [← hx, ← hy]; exact Int32.lt_iff_toInt_lt.mp (of_decide_eq_true (cmp_lt.symm.trans q))
theorem cI2f (q : pcmp 2 x y = false) (hx : I x = a) (hy : I y = b) : b ≤ a := by rw [← hx, ← hy]; exact Int.not_lt.mp (fun e => of_decide_eq_false (cmp_lt.symm.trans q) (Int32.lt_iff_toInt_lt.mpr e))
theorem cI3t (q : pcmp 3 x y = true) (hx : I x = a) (hy : I y = b) : b ≤ a := by rw [← hx, ← hy]; exact Int32.le_iff_toInt_le.mp (of_decide_eq_true (cmp_ge.symm.trans q))
theorem cI3f (q : pcmp 3 x y = false) (hx : I x = a) (hy : I y = b) : a < b := by rw [← hx, ← hy]; exact Int.not_le.mp (fun e => of_decide_eq_false (cmp_ge.symm.trans q) (Int32.le_iff_toInt_le.mpr e))
theorem cI4t (q : pcmp 4 x y = true) (hx : I x = a) (hy : I y = b) : b < a := by rw [← hx, ← hy]; exact Int32.lt_iff_toInt_lt.mp (of_decide_eq_true (cmp_gt.symm.trans q))
theorem cI4f (q : pcmp 4 x y = false) (hx : I x = a) (hy : I y = b) : a ≤ b := by rw [← hx, ← hy]; exact Int.not_lt.mp (fun e => of_decide_eq_false (cmp_gt.symm.trans q) (Int32.lt_iff_toInt_lt.mpr e))
theorem cI5t (q : pcmp 5 x y = true) (hx : I x = a) (hy : I y = b) : a ≤ b := by rw [← hx, ← hy]; exact Int32.le_iff_toInt_le.mp (of_decide_eq_true (cmp_le.symm.trans q))
theorem cI5f (q : pcmp 5 x y = false) (hx : I x = a) (hy : I y = b) : b < a := by rw [← hx, ← hy]; exact Int.not_le.mp (fun e => of_decide_eq_false (cmp_le.symm.trans q) (Int32.le_iff_toInt_le.mpr e))
end cIs
theorem I_nI {n : Nat} (h : n < 2147483648) : I (nI n) = n := by
  show (nI n).toInt = _
  rw [ky_toInt, ky_nI h]
  omega
theorem nI_ofI {x : Int32} (h : 0 ≤ I x) : ∃ n, x = nI n ∧ n < 2147483648 ∧ I x = n := by
  have e := ky_toInt x
  have hk : ky x < 4294967296 := Nat.mod_lt _ (by decide)
  have h' : 0 ≤ x.toInt := h
  refine ⟨ky x - 2147483648, ?_, by omega, ?_⟩
  · apply Int32.toInt_inj.mp
    rw [ky_toInt, ky_toInt (nI _), ky_nI (by omega)]
    omega
  · show x.toInt = _
    omega
theorem rc_zret {call : QC FA} {c : List PO} {i : Nat} {ls : List (Option PV)} {st : List PV} {L : QH FA} {P : Prop} [Decidable P] (hs : ∀ F, run (mkc rdF wrF fzF call c 0) (F + 1) i ls st L = bif (pcmp 0 (bI P) 0 || pcmp 0 (bI P) 1) then some (some (vI (bI P)), L) else none) : RC call c i ls st L (some (vI (bI P)), L) := by
  refine rc_ret (fun F => ?_)
  rw [hs]
  by_cases h : P
  · rw [bI_t h]; rfl
  · rw [bI_f h]; rfl
theorem rc_bzT {call : QC FA} {c : List PO} {i : Nat} {ls ls' : List (Option PV)} {st st' : List PV} {L : QH FA} {res : Option PV × QH FA} {it ie : Nat} {P : Prop} [Decidable P] (hs : ∀ F, run (mkc rdF wrF fzF call c 0) (F + 1) i ls st L = bif pcmp 0 (bI P) 0 then run (mkc rdF wrF fzF call c 0) F it ls' st' L else run (mkc rdF wrF fzF call c 0) F ie ls' st' L) (h : P) (h1 : RC call c ie ls' st' L res) : RC call c i ls st L res := rc_f hs (by rw [bI_t h]; decide) h1
theorem rc_bzF {call : QC FA} {c : List PO} {i : Nat} {ls ls' : List (Option PV)} {st st' : List PV} {L : QH FA} {res : Option PV × QH FA} {it ie : Nat} {P : Prop} [Decidable P] (hs : ∀ F, run (mkc rdF wrF fzF call c 0) (F + 1) i ls st L = bif pcmp 0 (bI P) 0 then run (mkc rdF wrF fzF call c 0) F it ls' st' L else run (mkc rdF wrF fzF call c 0) F ie ls' st' L) (h : ¬ P) (h1 : RC call c it ls' st' L res) : RC call c i ls st L res := rc_t hs (by rw [bI_f h]; decide) h1
theorem rc_bnT {call : QC FA} {c : List PO} {i : Nat} {ls ls' : List (Option PV)} {st st' : List PV} {L : QH FA} {res : Option PV × QH FA} {it ie : Nat} {P : Prop} [Decidable P] (hs : ∀ F, run (mkc rdF wrF fzF call c 0) (F + 1) i ls st L = bif pcmp 1 (bI P) 0 then run (mkc rdF wrF fzF call c 0) F it ls' st' L else run (mkc rdF wrF fzF call c 0) F ie ls' st' L) (h : P) (h1 : RC call c it ls' st' L res) : RC call c i ls st L res := rc_t hs (by rw [bI_t h]; decide) h1
theorem rc_bnF {call : QC FA} {c : List PO} {i : Nat} {ls ls' : List (Option PV)} {st st' : List PV} {L : QH FA} {res : Option PV × QH FA} {it ie : Nat} {P : Prop} [Decidable P] (hs : ∀ F, run (mkc rdF wrF fzF call c 0) (F + 1) i ls st L = bif pcmp 1 (bI P) 0 then run (mkc rdF wrF fzF call c 0) F it ls' st' L else run (mkc rdF wrF fzF call c 0) F ie ls' st' L) (h : ¬ P) (h1 : RC call c ie ls' st' L res) : RC call c i ls st L res := rc_f hs (by rw [bI_f h]; decide) h1
theorem pNt {x y : Int32} (h : ¬ x = y) : pcmp 1 x y = true := cmp_ne.trans (decide_eq_true h)
theorem pNf {x y : Int32} (h : x = y) : pcmp 1 x y = false := cmp_ne.trans (decide_eq_false (fun q => q h))
theorem zG {y : Int32} (h : y = 0 ∨ y = 1) : (pcmp 0 y 0 || pcmp 0 y 1) = true := by
  rcases h with rfl | rfl <;> rfl
