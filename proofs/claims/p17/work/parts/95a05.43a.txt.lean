/-! texts of the class: a line's numbers, what a law's codes come to -/
theorem and15 {a o : Nat} (ho : o < 16) (h : a * 16 + o < 2147483648) : nI (a * 16 + o) &&& 15 = nI o := by
  rw [← Int32.toBitVec_inj]
  show (nI (a * 16 + o)).toBitVec &&& (15 : Int32).toBitVec = (nI o).toBitVec
  apply BitVec.eq_of_toNat_eq
  rw [BitVec.toNat_and]
  have e1 : (nI (a * 16 + o)).toBitVec.toNat = a * 16 + o := ix_nI (j := a * 16 + o) (by omega)
  have e2 : (nI o).toBitVec.toNat = o := ix_nI (j := o) (by omega)
  have e3 : (15 : Int32).toBitVec.toNat = 2 ^ 4 - 1 := by decide
  rw [e1, e2, e3, Nat.and_two_pow_sub_one_eq_mod]
  omega
theorem shr4 {a o : Nat} (ho : o < 16) (h : a * 16 + o < 2147483648) : nI (a * 16 + o) >>> (4 &&& 31) = nI a := by
  apply Int32.toInt_inj.mp
  have e0 : ((4 : Int32) &&& 31).toBitVec.smod 32#32 = 4#32 := by decide
  have e1 : (nI (a * 16 + o) >>> ((4 : Int32) &&& 31)).toBitVec = (nI (a * 16 + o)).toBitVec.sshiftRight 4 := by
    show (nI (a * 16 + o)).toBitVec.sshiftRight' (((4 : Int32) &&& 31).toBitVec.smod 32#32) = _
    rw [e0]
    rfl
  show (nI (a * 16 + o) >>> ((4 : Int32) &&& 31)).toBitVec.toInt = I (nI a)
  rw [e1, BitVec.toInt_sshiftRight]
  have e2 : (nI (a * 16 + o)).toBitVec.toInt = ((a * 16 + o : Nat) : Int) := I_nI h
  rw [e2, I_nI (n := a) (by omega), Int.shiftRight_eq_div_pow]
  omega
/-- codes of a law: what, with what -/
abbrev TK : Type := Nat × Nat
def bit01 (x : Int32) : Prop := x = 0 ∨ x = 1
def jnO (o : Nat) (x y : Int32) : Int32 := if o = 4 then x + y else if o = 5 then x - y else if o = 6 then x * y else if o = 7 then (if I x < I y then 1 else 0) else if o = 8 then (if x = y then 1 else 0) else if o = 9 then (if I y < I x then 1 else 0) else if o = 10 then x &&& y else x ||| y
/-- one code over a pile of n numbers; none: it can't be -/
noncomputable def ev1 (vals : FA) (e : TK) (s : Nat × FA) : Option (Nat × FA) :=
  if e.1 < 2 then @ite _ (s.1 < 32 ∧ (e.1 = 1 → e.2 < 10)) (Classical.propDecidable _) (some (s.1 + 1, upd s.2 s.1 (if e.1 = 0 then nI e.2 else vals e.2))) none
  else if e.1 < 4 then @ite _ (1 ≤ s.1 ∧ (e.1 = 2 → 1 ≤ e.2)) (Classical.propDecidable _) (some (s.1, upd s.2 (s.1 - 1) (if e.1 = 2 then s.2 (s.1 - 1) / nI e.2 else 1 - s.2 (s.1 - 1)))) none
  else @ite _ (2 ≤ s.1 ∧ (10 ≤ e.1 → bit01 (s.2 (s.1 - 2)) ∧ bit01 (s.2 (s.1 - 1)))) (Classical.propDecidable _) (some (s.1 - 1, upd s.2 (s.1 - 2) (jnO e.1 (s.2 (s.1 - 2)) (s.2 (s.1 - 1))))) none
noncomputable def evF (vals : FA) : List TK → Nat × FA → Option (Nat × FA)
  | [], s => some s
  | e :: P, s => match ev1 vals e s with
    | some s' => evF vals P s'
    | none => none
/-- codes as the class writes them, from place i on -/
def tkC (P : List TK) (g : FA) (i : Nat) : Prop := match P with
  | [] => True
  | e :: P => (e.1 < 12 ∧ e.2 < 100000 ∧ g i = nI (e.2 * 16 + e.1)) ∧ tkC P g (i + 1)
theorem ite_some {α : Type} {P : Prop} {d : Decidable P} {x y : α} (h : @ite _ P d (some x) none = some y) : P ∧ x = y := by
  by_cases c : P
  · rw [if_pos c] at h
    exact ⟨c, Option.some.inj h⟩
  · rw [if_neg c] at h
    cases h
section TWs
variable {W : TXW} {kt : Nat}
set_option maxRecDepth 100000 in
theorem b20_1 (call : QC FA) (x0 : Int32) (x1 : Int32) (L : QH FA) (F : Nat) : xnG call 20 (F + 1) 0 [some (vI x0), some (vI x1)] [] L = xnG call 20 F 1 [some (vI x0), some (vI x1)] [vI x1] L := rfl
set_option maxRecDepth 100000 in
theorem b20_2 (call : QC FA) (x : Int32) (ls : List (Option PV)) (L : QH FA) (F : Nat) : xnG call 20 (F + 1) 1 ls [vI x] L = bif pcmp 1 x 0 then xnG call 20 F 4 ls [] L else xnG call 20 F 2 ls [] L := rfl
set_option maxRecDepth 100000 in
theorem b20_3 (call : QC FA) (x0 : Int32) (x1 : Int32) (L : QH FA) (F : Nat) : xnG call 20 (F + 2) 4 [some (vI x0), some (vI x1)] [] L = xnG call 20 F 6 [some (vI x0), some (vI x1)] [vI x1, vI x0] L := rfl
set_option maxRecDepth 100000 in
theorem b20_4 (call : QC FA) (x y : Int32) (ls : List (Option PV)) (L : QH FA) (F : Nat) : xnG call 20 (F + 1) 6 ls [vI y, vI x] L = bif pcmp 1 y 0 then xnG call 20 F 7 ls [vI (x / y)] L else none := rfl
set_option maxRecDepth 100000 in
theorem b20_5 (call : QC FA) (x : Int32) (ls : List (Option PV)) (L : QH FA) (F : Nat) : xnG call 20 (F + 1) 7 ls [vI x] L = some (some (vI x), L) := rfl
set_option maxRecDepth 100000 in
theorem b20_6 (call : QC FA) (x0 : Int32) (x1 : Int32) (L : QH FA) (F : Nat) : xnG call 20 (F + 2) 2 [some (vI x0), some (vI x1)] [] L = xnG call 20 F 7 [some (vI x0), some (vI x1)] [vI 0] L := rfl
theorem vc20_0 (call : QC FA) (x0 : Int32) (x1 : Int32) (z : Nat → Int32) (f : Nat → FA) (res : Option PV × QH FA) (H : ((¬ x1 = 0 → (¬ (x1 : Int32) = 0 ∧ res = (some (vI (x0 / x1)), LW W z f))) ∧ (x1 = 0 → res = (some (vI 0), LW W z f)))) : XC call (mP 20) 0 [some (vI x0), some (vI x1)] [] (LW W z f) res := by
  refine xc_b (i' := 1) (ls' := [some (vI x0), some (vI x1)]) (st' := [vI x1]) (L' := LW W z f) 1 (b20_1 call x0 x1 _) ?_
  refine xc_if (it := 4) (ie := 2) (ls' := [some (vI x0), some (vI x1)]) (st' := []) (b20_2 call x1 _ _) (fun q1 => ?_) (fun q1 => ?_)
  · have H := H.1 (cI1t q1)
    refine xc_b (i' := 6) (ls' := [some (vI x0), some (vI x1)]) (st' := [vI x1, vI x0]) (L' := LW W z f) 2 (b20_3 call x0 x1 _) ?_
    obtain ⟨g1, H⟩ := H
    refine xc_g (i' := 7) (ls' := [some (vI x0), some (vI x1)]) (st' := [vI (x0 / x1)]) (L' := LW W z f) (b20_4 call x0 x1 _ _) (cmp_ne.trans (decide_eq_true g1)) ?_
    subst H
    exact xc_ret (b20_5 call _ _ _)
  · have H := H.2 (cI1f q1)
    refine xc_b (i' := 7) (ls' := [some (vI x0), some (vI x1)]) (st' := [vI 0]) (L' := LW W z f) 2 (b20_6 call x0 x1 _) ?_
    subst H
    exact xc_ret (b20_5 call _ _ _)
set_option maxRecDepth 100000 in
theorem b21_1 (call : QC FA) (x0 : Int32) (x1 : Int32) (x2 : Int32) (L : QH FA) (F : Nat) : xnG call 21 (F + 1) 0 [some (vI x0), some (vI x1), some (vI x2)] [] L = xnG call 21 F 1 [some (vI x0), some (vI x1), some (vI x2)] [vI x0] L := rfl
set_option maxRecDepth 100000 in
theorem b21_2 (call : QC FA) (x : Int32) (hx : x = 4) (ls : List (Option PV)) (L : QH FA) (F : Nat) : xnG call 21 (F + 1) 1 ls [vI x] L = xnG call 21 F 2 ls [] L := by
  subst hx
  exact pwa_ (ih := xnG call 21 F) (a := 4) (b := 10) (tg := [39, 2, 6, 10, 14, 21, 28, 35]) (x := 4) (st := []) (by decide) rfl
set_option maxRecDepth 100000 in
theorem b21_3 (call : QC FA) (x0 : Int32) (x1 : Int32) (x2 : Int32) (L : QH FA) (F : Nat) : xnG call 21 (F + 3) 2 [some (vI x0), some (vI x1), some (vI x2)] [] L = xnG call 21 F 5 [some (vI x0), some (vI x1), some (vI x2)] [vI (x1 + x2)] L := rfl
set_option maxRecDepth 100000 in
theorem b21_4 (call : QC FA) (x : Int32) (ls : List (Option PV)) (L : QH FA) (F : Nat) : xnG call 21 (F + 1) 5 ls [vI x] L = some (some (vI x), L) := rfl
set_option maxRecDepth 100000 in
theorem b21_5 (call : QC FA) (x : Int32) (hx : x = 5) (ls : List (Option PV)) (L : QH FA) (F : Nat) : xnG call 21 (F + 1) 1 ls [vI x] L = xnG call 21 F 6 ls [] L := by
  subst hx
  exact pwa_ (ih := xnG call 21 F) (a := 4) (b := 10) (tg := [39, 2, 6, 10, 14, 21, 28, 35]) (x := 5) (st := []) (by decide) rfl
set_option maxRecDepth 100000 in
theorem b21_6 (call : QC FA) (x0 : Int32) (x1 : Int32) (x2 : Int32) (L : QH FA) (F : Nat) : xnG call 21 (F + 3) 6 [some (vI x0), some (vI x1), some (vI x2)] [] L = xnG call 21 F 9 [some (vI x0), some (vI x1), some (vI x2)] [vI (x1 - x2)] L := rfl
set_option maxRecDepth 100000 in
theorem b21_7 (call : QC FA) (x : Int32) (ls : List (Option PV)) (L : QH FA) (F : Nat) : xnG call 21 (F + 1) 9 ls [vI x] L = some (some (vI x), L) := rfl
set_option maxRecDepth 100000 in
theorem b21_8 (call : QC FA) (x : Int32) (hx : x = 6) (ls : List (Option PV)) (L : QH FA) (F : Nat) : xnG call 21 (F + 1) 1 ls [vI x] L = xnG call 21 F 10 ls [] L := by
  subst hx
  exact pwa_ (ih := xnG call 21 F) (a := 4) (b := 10) (tg := [39, 2, 6, 10, 14, 21, 28, 35]) (x := 6) (st := []) (by decide) rfl
set_option maxRecDepth 100000 in
theorem b21_9 (call : QC FA) (x0 : Int32) (x1 : Int32) (x2 : Int32) (L : QH FA) (F : Nat) : xnG call 21 (F + 3) 10 [some (vI x0), some (vI x1), some (vI x2)] [] L = xnG call 21 F 13 [some (vI x0), some (vI x1), some (vI x2)] [vI (x1 * x2)] L := rfl
set_option maxRecDepth 100000 in
theorem b21_10 (call : QC FA) (x : Int32) (ls : List (Option PV)) (L : QH FA) (F : Nat) : xnG call 21 (F + 1) 13 ls [vI x] L = some (some (vI x), L) := rfl
set_option maxRecDepth 100000 in
theorem b21_11 (call : QC FA) (x : Int32) (hx : x = 7) (ls : List (Option PV)) (L : QH FA) (F : Nat) : xnG call 21 (F + 1) 1 ls [vI x] L = xnG call 21 F 14 ls [] L := by
  subst hx
  exact pwa_ (ih := xnG call 21 F) (a := 4) (b := 10) (tg := [39, 2, 6, 10, 14, 21, 28, 35]) (x := 7) (st := []) (by decide) rfl
set_option maxRecDepth 100000 in
theorem b21_12 (call : QC FA) (x0 : Int32) (x1 : Int32) (x2 : Int32) (L : QH FA) (F : Nat) : xnG call 21 (F + 2) 14 [some (vI x0), some (vI x1), some (vI x2)] [] L = xnG call 21 F 16 [some (vI x0), some (vI x1), some (vI x2)] [vI x2, vI x1] L := rfl
set_option maxRecDepth 100000 in
theorem b21_13 (call : QC FA) (x y : Int32) (ls : List (Option PV)) (L : QH FA) (F : Nat) : xnG call 21 (F + 1) 16 ls [vI y, vI x] L = bif pcmp 3 x y then xnG call 21 F 19 ls [] L else xnG call 21 F 17 ls [] L := rfl
set_option maxRecDepth 100000 in
theorem b21_14 (call : QC FA) (x0 : Int32) (x1 : Int32) (x2 : Int32) (L : QH FA) (F : Nat) : xnG call 21 (F + 1) 19 [some (vI x0), some (vI x1), some (vI x2)] [] L = xnG call 21 F 20 [some (vI x0), some (vI x1), some (vI x2)] [vI 0] L := rfl
set_option maxRecDepth 100000 in
theorem b21_15 (call : QC FA) (x : Int32) (ls : List (Option PV)) (L : QH FA) (F : Nat) : xnG call 21 (F + 1) 20 ls [vI x] L = some (some (vI x), L) := rfl
set_option maxRecDepth 100000 in
theorem b21_16 (call : QC FA) (x0 : Int32) (x1 : Int32) (x2 : Int32) (L : QH FA) (F : Nat) : xnG call 21 (F + 2) 17 [some (vI x0), some (vI x1), some (vI x2)] [] L = xnG call 21 F 20 [some (vI x0), some (vI x1), some (vI x2)] [vI 1] L := rfl
set_option maxRecDepth 100000 in
theorem b21_17 (call : QC FA) (x : Int32) (hx : x = 8) (ls : List (Option PV)) (L : QH FA) (F : Nat) : xnG call 21 (F + 1) 1 ls [vI x] L = xnG call 21 F 21 ls [] L := by
  subst hx
  exact pwa_ (ih := xnG call 21 F) (a := 4) (b := 10) (tg := [39, 2, 6, 10, 14, 21, 28, 35]) (x := 8) (st := []) (by decide) rfl
set_option maxRecDepth 100000 in
theorem b21_18 (call : QC FA) (x0 : Int32) (x1 : Int32) (x2 : Int32) (L : QH FA) (F : Nat) : xnG call 21 (F + 2) 21 [some (vI x0), some (vI x1), some (vI x2)] [] L = xnG call 21 F 23 [some (vI x0), some (vI x1), some (vI x2)] [vI x2, vI x1] L := rfl
set_option maxRecDepth 100000 in
theorem b21_19 (call : QC FA) (x y : Int32) (ls : List (Option PV)) (L : QH FA) (F : Nat) : xnG call 21 (F + 1) 23 ls [vI y, vI x] L = bif pcmp 1 x y then xnG call 21 F 26 ls [] L else xnG call 21 F 24 ls [] L := rfl
set_option maxRecDepth 100000 in
theorem b21_20 (call : QC FA) (x0 : Int32) (x1 : Int32) (x2 : Int32) (L : QH FA) (F : Nat) : xnG call 21 (F + 1) 26 [some (vI x0), some (vI x1), some (vI x2)] [] L = xnG call 21 F 27 [some (vI x0), some (vI x1), some (vI x2)] [vI 0] L := rfl
set_option maxRecDepth 100000 in
theorem b21_21 (call : QC FA) (x : Int32) (ls : List (Option PV)) (L : QH FA) (F : Nat) : xnG call 21 (F + 1) 27 ls [vI x] L = some (some (vI x), L) := rfl
set_option maxRecDepth 100000 in
theorem b21_22 (call : QC FA) (x0 : Int32) (x1 : Int32) (x2 : Int32) (L : QH FA) (F : Nat) : xnG call 21 (F + 2) 24 [some (vI x0), some (vI x1), some (vI x2)] [] L = xnG call 21 F 27 [some (vI x0), some (vI x1), some (vI x2)] [vI 1] L := rfl
set_option maxRecDepth 100000 in
theorem b21_23 (call : QC FA) (x : Int32) (hx : x = 9) (ls : List (Option PV)) (L : QH FA) (F : Nat) : xnG call 21 (F + 1) 1 ls [vI x] L = xnG call 21 F 28 ls [] L := by
  subst hx
  exact pwa_ (ih := xnG call 21 F) (a := 4) (b := 10) (tg := [39, 2, 6, 10, 14, 21, 28, 35]) (x := 9) (st := []) (by decide) rfl
set_option maxRecDepth 100000 in
theorem b21_24 (call : QC FA) (x0 : Int32) (x1 : Int32) (x2 : Int32) (L : QH FA) (F : Nat) : xnG call 21 (F + 2) 28 [some (vI x0), some (vI x1), some (vI x2)] [] L = xnG call 21 F 30 [some (vI x0), some (vI x1), some (vI x2)] [vI x2, vI x1] L := rfl
set_option maxRecDepth 100000 in
theorem b21_25 (call : QC FA) (x y : Int32) (ls : List (Option PV)) (L : QH FA) (F : Nat) : xnG call 21 (F + 1) 30 ls [vI y, vI x] L = bif pcmp 5 x y then xnG call 21 F 33 ls [] L else xnG call 21 F 31 ls [] L := rfl
set_option maxRecDepth 100000 in
theorem b21_26 (call : QC FA) (x0 : Int32) (x1 : Int32) (x2 : Int32) (L : QH FA) (F : Nat) : xnG call 21 (F + 1) 33 [some (vI x0), some (vI x1), some (vI x2)] [] L = xnG call 21 F 34 [some (vI x0), some (vI x1), some (vI x2)] [vI 0] L := rfl
set_option maxRecDepth 100000 in
theorem b21_27 (call : QC FA) (x : Int32) (ls : List (Option PV)) (L : QH FA) (F : Nat) : xnG call 21 (F + 1) 34 ls [vI x] L = some (some (vI x), L) := rfl
set_option maxRecDepth 100000 in
theorem b21_28 (call : QC FA) (x0 : Int32) (x1 : Int32) (x2 : Int32) (L : QH FA) (F : Nat) : xnG call 21 (F + 2) 31 [some (vI x0), some (vI x1), some (vI x2)] [] L = xnG call 21 F 34 [some (vI x0), some (vI x1), some (vI x2)] [vI 1] L := rfl
set_option maxRecDepth 100000 in
theorem b21_29 (call : QC FA) (x : Int32) (hx : x = 10) (ls : List (Option PV)) (L : QH FA) (F : Nat) : xnG call 21 (F + 1) 1 ls [vI x] L = xnG call 21 F 35 ls [] L := by
  subst hx
  exact pwa_ (ih := xnG call 21 F) (a := 4) (b := 10) (tg := [39, 2, 6, 10, 14, 21, 28, 35]) (x := 10) (st := []) (by decide) rfl
set_option maxRecDepth 100000 in
theorem b21_30 (call : QC FA) (x0 : Int32) (x1 : Int32) (x2 : Int32) (L : QH FA) (F : Nat) : xnG call 21 (F + 3) 35 [some (vI x0), some (vI x1), some (vI x2)] [] L = xnG call 21 F 38 [some (vI x0), some (vI x1), some (vI x2)] [vI (x1 &&& x2)] L := rfl
set_option maxRecDepth 100000 in
theorem b21_31 (call : QC FA) (x : Int32) (ls : List (Option PV)) (L : QH FA) (F : Nat) : xnG call 21 (F + 1) 38 ls [vI x] L = some (some (vI x), L) := rfl
set_option maxRecDepth 100000 in
theorem b21_32 (call : QC FA) (x : Int32) (hx : I x < 4 ∨ 10 < I x) (ls : List (Option PV)) (L : QH FA) (F : Nat) : xnG call 21 (F + 1) 1 ls [vI x] L = xnG call 21 F 39 ls [] L := pwd_ (ih := xnG call 21 F) (a := 4) (b := 10) (tg := [39, 2, 6, 10, 14, 21, 28, 35]) (st := []) hx rfl
set_option maxRecDepth 100000 in
theorem b21_33 (call : QC FA) (x0 : Int32) (x1 : Int32) (x2 : Int32) (L : QH FA) (F : Nat) : xnG call 21 (F + 3) 39 [some (vI x0), some (vI x1), some (vI x2)] [] L = xnG call 21 F 42 [some (vI x0), some (vI x1), some (vI x2)] [vI (x1 ||| x2)] L := rfl
set_option maxRecDepth 100000 in
theorem b21_34 (call : QC FA) (x : Int32) (ls : List (Option PV)) (L : QH FA) (F : Nat) : xnG call 21 (F + 1) 42 ls [vI x] L = some (some (vI x), L) := rfl
theorem vc21_0 (call : QC FA) (x0 : Int32) (x1 : Int32) (x2 : Int32) (z : Nat → Int32) (f : Nat → FA) (res : Option PV × QH FA) (H : ((x0 = 4 → res = (some (vI (x1 + x2)), LW W z f)) ∧ (¬ x0 = 4 → ((x0 = 5 → res = (some (vI (x1 - x2)), LW W z f)) ∧ (¬ x0 = 5 → ((x0 = 6 → res = (some (vI (x1 * x2)), LW W z f)) ∧ (¬ x0 = 6 → ((x0 = 7 → ((I x2 ≤ I x1 → res = (some (vI 0), LW W z f)) ∧ (I x1 < I x2 → res = (some (vI 1), LW W z f)))) ∧ (¬ x0 = 7 → ((x0 = 8 → ((¬ x1 = x2 → res = (some (vI 0), LW W z f)) ∧ (x1 = x2 → res = (some (vI 1), LW W z f)))) ∧ (¬ x0 = 8 → ((x0 = 9 → ((I x1 ≤ I x2 → res = (some (vI 0), LW W z f)) ∧ (I x2 < I x1 → res = (some (vI 1), LW W z f)))) ∧ (¬ x0 = 9 → ((x0 = 10 → res = (some (vI (x1 &&& x2)), LW W z f)) ∧ (¬ x0 = 10 → res = (some (vI (x1 ||| x2)), LW W z f)))))))))))))))) : XC call (mP 21) 0 [some (vI x0), some (vI x1), some (vI x2)] [] (LW W z f) res := by
  refine xc_b (i' := 1) (ls' := [some (vI x0), some (vI x1), some (vI x2)]) (st' := [vI x0]) (L' := LW W z f) 1 (b21_1 call x0 x1 x2 _) ?_
  by_cases q1 : x0 = 4
  · have H := H.1 q1
    refine xc_b (i' := 2) (ls' := [some (vI x0), some (vI x1), some (vI x2)]) (st' := []) (L' := LW W z f) 1 (b21_2 call x0 q1 _ _) ?_
    refine xc_b (i' := 5) (ls' := [some (vI x0), some (vI x1), some (vI x2)]) (st' := [vI (x1 + x2)]) (L' := LW W z f) 3 (b21_3 call x0 x1 x2 _) ?_
    subst H
    exact xc_ret (b21_4 call _ _ _)
  · have H := H.2 q1
    by_cases q2 : x0 = 5
    · have H := H.1 q2
      refine xc_b (i' := 6) (ls' := [some (vI x0), some (vI x1), some (vI x2)]) (st' := []) (L' := LW W z f) 1 (b21_5 call x0 q2 _ _) ?_
      refine xc_b (i' := 9) (ls' := [some (vI x0), some (vI x1), some (vI x2)]) (st' := [vI (x1 - x2)]) (L' := LW W z f) 3 (b21_6 call x0 x1 x2 _) ?_
      subst H
      exact xc_ret (b21_7 call _ _ _)
    · have H := H.2 q2
      by_cases q3 : x0 = 6
      · have H := H.1 q3
        refine xc_b (i' := 10) (ls' := [some (vI x0), some (vI x1), some (vI x2)]) (st' := []) (L' := LW W z f) 1 (b21_8 call x0 q3 _ _) ?_
        refine xc_b (i' := 13) (ls' := [some (vI x0), some (vI x1), some (vI x2)]) (st' := [vI (x1 * x2)]) (L' := LW W z f) 3 (b21_9 call x0 x1 x2 _) ?_
        subst H
        exact xc_ret (b21_10 call _ _ _)
      · have H := H.2 q3
        by_cases q4 : x0 = 7
        · have H := H.1 q4
          refine xc_b (i' := 14) (ls' := [some (vI x0), some (vI x1), some (vI x2)]) (st' := []) (L' := LW W z f) 1 (b21_11 call x0 q4 _ _) ?_
          refine xc_b (i' := 16) (ls' := [some (vI x0), some (vI x1), some (vI x2)]) (st' := [vI x2, vI x1]) (L' := LW W z f) 2 (b21_12 call x0 x1 x2 _) ?_
          refine xc_if (it := 19) (ie := 17) (ls' := [some (vI x0), some (vI x1), some (vI x2)]) (st' := []) (b21_13 call x1 x2 _ _) (fun q5 => ?_) (fun q5 => ?_)
          · have H := H.1 (cI3t q5 rfl rfl)
            refine xc_b (i' := 20) (ls' := [some (vI x0), some (vI x1), some (vI x2)]) (st' := [vI 0]) (L' := LW W z f) 1 (b21_14 call x0 x1 x2 _) ?_
            subst H
            exact xc_ret (b21_15 call _ _ _)
          · have H := H.2 (cI3f q5 rfl rfl)
            refine xc_b (i' := 20) (ls' := [some (vI x0), some (vI x1), some (vI x2)]) (st' := [vI 1]) (L' := LW W z f) 2 (b21_16 call x0 x1 x2 _) ?_
            subst H
            exact xc_ret (b21_15 call _ _ _)
        · have H := H.2 q4
          by_cases q6 : x0 = 8
          · have H := H.1 q6
            refine xc_b (i' := 21) (ls' := [some (vI x0), some (vI x1), some (vI x2)]) (st' := []) (L' := LW W z f) 1 (b21_17 call x0 q6 _ _) ?_
            refine xc_b (i' := 23) (ls' := [some (vI x0), some (vI x1), some (vI x2)]) (st' := [vI x2, vI x1]) (L' := LW W z f) 2 (b21_18 call x0 x1 x2 _) ?_
            refine xc_if (it := 26) (ie := 24) (ls' := [some (vI x0), some (vI x1), some (vI x2)]) (st' := []) (b21_19 call x1 x2 _ _) (fun q7 => ?_) (fun q7 => ?_)
            · have H := H.1 (cI1t q7)
              refine xc_b (i' := 27) (ls' := [some (vI x0), some (vI x1), some (vI x2)]) (st' := [vI 0]) (L' := LW W z f) 1 (b21_20 call x0 x1 x2 _) ?_
              subst H
              exact xc_ret (b21_21 call _ _ _)
            · have H := H.2 (cI1f q7)
              refine xc_b (i' := 27) (ls' := [some (vI x0), some (vI x1), some (vI x2)]) (st' := [vI 1]) (L' := LW W z f) 2 (b21_22 call x0 x1 x2 _) ?_
              subst H
              exact xc_ret (b21_21 call _ _ _)
          · have H := H.2 q6
            by_cases q8 : x0 = 9
            · have H := H.1 q8
              refine xc_b (i' := 28) (ls' := [some (vI x0), some (vI x1), some (vI x2)]) (st' := []) (L' := LW W z f) 1 (b21_23 call x0 q8 _ _) ?_
              refine xc_b (i' := 30) (ls' := [some (vI x0), some (vI x1), some (vI x2)]) (st' := [vI x2, vI x1]) (L' := LW W z f) 2 (b21_24 call x0 x1 x2 _) ?_
              refine xc_if (it := 33) (ie := 31) (ls' := [some (vI x0), some (vI x1), some (vI x2)]) (st' := []) (b21_25 call x1 x2 _ _) (fun q9 => ?_) (fun q9 => ?_)
              · have H := H.1 (cI5t q9 rfl rfl)
                refine xc_b (i' := 34) (ls' := [some (vI x0), some (vI x1), some (vI x2)]) (st' := [vI 0]) (L' := LW W z f) 1 (b21_26 call x0 x1 x2 _) ?_
                subst H
                exact xc_ret (b21_27 call _ _ _)
              · have H := H.2 (cI5f q9 rfl rfl)
                refine xc_b (i' := 34) (ls' := [some (vI x0), some (vI x1), some (vI x2)]) (st' := [vI 1]) (L' := LW W z f) 2 (b21_28 call x0 x1 x2 _) ?_
                subst H
                exact xc_ret (b21_27 call _ _ _)
            · have H := H.2 q8
              by_cases q10 : x0 = 10
              · have H := H.1 q10
                refine xc_b (i' := 35) (ls' := [some (vI x0), some (vI x1), some (vI x2)]) (st' := []) (L' := LW W z f) 1 (b21_29 call x0 q10 _ _) ?_
                refine xc_b (i' := 38) (ls' := [some (vI x0), some (vI x1), some (vI x2)]) (st' := [vI (x1 &&& x2)]) (L' := LW W z f) 3 (b21_30 call x0 x1 x2 _) ?_
                subst H
                exact xc_ret (b21_31 call _ _ _)
              · have H := H.2 q10
                refine xc_b (i' := 39) (ls' := [some (vI x0), some (vI x1), some (vI x2)]) (st' := []) (L' := LW W z f) 1 (b21_32 call x0 (by have := (show I x0 ≠ 4 from ne_I q1); have := (show I x0 ≠ 5 from ne_I q2); have := (show I x0 ≠ 6 from ne_I q3); have := (show I x0 ≠ 7 from ne_I q4); have := (show I x0 ≠ 8 from ne_I q6); have := (show I x0 ≠ 9 from ne_I q8); have := (show I x0 ≠ 10 from ne_I q10); omega) _ _) ?_
                refine xc_b (i' := 42) (ls' := [some (vI x0), some (vI x1), some (vI x2)]) (st' := [vI (x1 ||| x2)]) (L' := LW W z f) 3 (b21_33 call x0 x1 x2 _) ?_
                subst H
                exact xc_ret (b21_34 call _ _ _)
set_option maxRecDepth 100000 in
theorem b18_1 (call : QC FA) (x1 : Int32) (x2 : Int32) (o3 : Option PV) (L : QH FA) (F : Nat) : xnG call 18 (F + 1) 0 [some (vR (wJ W kt + 42)), some (vI x1), some (vI x2), o3] [] L = xnG call 18 F 1 [some (vR (wJ W kt + 42)), some (vI x1), some (vI x2), o3] [vI x1] L := rfl
set_option maxRecDepth 100000 in
theorem b18_2 (call : QC FA) (x : Int32) (ls : List (Option PV)) (L : QH FA) (F : Nat) : xnG call 18 (F + 1) 1 ls [vI x] L = bif pcmp 2 x 0 then xnG call 18 F 22 ls [] L else xnG call 18 F 2 ls [] L := rfl
set_option maxRecDepth 100000 in
theorem b18_3 (call : QC FA) (x1 : Int32) (x2 : Int32) (o3 : Option PV) (L : QH FA) (F : Nat) : xnG call 18 (F + 3) 22 [some (vR (wJ W kt + 42)), some (vI x1), some (vI x2), o3] [] L = xnG call 18 F 25 [some (vR (wJ W kt + 42)), some (vI x1), some (vI x2), some (vI 0)] [vI 0] L := rfl
set_option maxRecDepth 100000 in
theorem b18_4 (call : QC FA) (x : Int32) (ls : List (Option PV)) (L : QH FA) (F : Nat) : xnG call 18 (F + 1) 25 ls [vI x] L = bif pcmp 0 x 0 then xnG call 18 F 35 ls [] L else xnG call 18 F 26 ls [] L := rfl
set_option maxRecDepth 100000 in
theorem b18_5 (call : QC FA) (x1 : Int32) (x2 : Int32) (x3 : Int32) (L : QH FA) (F : Nat) : xnG call 18 (F + 1) 35 [some (vR (wJ W kt + 42)), some (vI x1), some (vI x2), some (vI x3)] [] L = xnG call 18 F 36 [some (vR (wJ W kt + 42)), some (vI x1), some (vI x2), some (vI x3)] [vI 0] L := rfl
set_option maxRecDepth 100000 in
theorem b18_6 (call : QC FA) (x : Int32) (ls : List (Option PV)) (L : QH FA) (F : Nat) : xnG call 18 (F + 1) 36 ls [vI x] L = some (some (vI x), L) := rfl
set_option maxRecDepth 100000 in
theorem b18_7 (call : QC FA) (x1 : Int32) (x2 : Int32) (o3 : Option PV) (L : QH FA) (F : Nat) : xnG call 18 (F + 2) 2 [some (vR (wJ W kt + 42)), some (vI x1), some (vI x2), o3] [] L = xnG call 18 F 4 [some (vR (wJ W kt + 42)), some (vI x1), some (vI x2), o3] [vR (wJ W kt + 42), vI x1] L := rfl
set_option maxRecDepth 100000 in
theorem b18_8 (hW : WTX W) (hk : kt < 4) (call : QC FA) (s0 : Int32) (ls : List (Option PV)) (z : Nat → Int32) (f : Nat → FA) (F : Nat) : xnG call 18 (F + 1) 4 ls [vR (wJ W kt + 42), vI s0] (LW W z f) = xnG call 18 F 5 ls [vI (wn W kt), vI s0] (LW W z f) := gt_1 (ih := xnG call 18 F) (t := 5) (st := [vI s0]) hW hk
set_option maxRecDepth 100000 in
theorem b18_9 (call : QC FA) (x y : Int32) (ls : List (Option PV)) (L : QH FA) (F : Nat) : xnG call 18 (F + 1) 5 ls [vI y, vI x] L = bif pcmp 3 x y then xnG call 18 F 22 ls [] L else xnG call 18 F 6 ls [] L := rfl
set_option maxRecDepth 100000 in
theorem b18_10 (call : QC FA) (x1 : Int32) (x2 : Int32) (o3 : Option PV) (L : QH FA) (F : Nat) : xnG call 18 (F + 1) 6 [some (vR (wJ W kt + 42)), some (vI x1), some (vI x2), o3] [] L = xnG call 18 F 7 [some (vR (wJ W kt + 42)), some (vI x1), some (vI x2), o3] [vI x2] L := rfl
set_option maxRecDepth 100000 in
theorem b18_11 (call : QC FA) (x : Int32) (ls : List (Option PV)) (L : QH FA) (F : Nat) : xnG call 18 (F + 1) 7 ls [vI x] L = bif pcmp 2 x 0 then xnG call 18 F 22 ls [] L else xnG call 18 F 8 ls [] L := rfl
set_option maxRecDepth 100000 in
theorem b18_12 (call : QC FA) (x1 : Int32) (x2 : Int32) (o3 : Option PV) (L : QH FA) (F : Nat) : xnG call 18 (F + 2) 8 [some (vR (wJ W kt + 42)), some (vI x1), some (vI x2), o3] [] L = xnG call 18 F 10 [some (vR (wJ W kt + 42)), some (vI x1), some (vI x2), o3] [vI 5, vI x2] L := rfl
set_option maxRecDepth 100000 in
theorem b18_13 (call : QC FA) (x y : Int32) (ls : List (Option PV)) (L : QH FA) (F : Nat) : xnG call 18 (F + 1) 10 ls [vI y, vI x] L = bif pcmp 3 x y then xnG call 18 F 22 ls [] L else xnG call 18 F 11 ls [] L := rfl
set_option maxRecDepth 100000 in
theorem b18_14 (call : QC FA) (x1 : Int32) (x2 : Int32) (o3 : Option PV) (L : QH FA) (F : Nat) : xnG call 18 (F + 6) 11 [some (vR (wJ W kt + 42)), some (vI x1), some (vI x2), o3] [] L = xnG call 18 F 17 [some (vR (wJ W kt + 42)), some (vI x1), some (vI x2), o3] [vR (wJ W kt + 42), vI ((x1 * 5) + x2)] L := rfl
set_option maxRecDepth 100000 in
theorem b18_15 (hW : WTX W) (hk : kt < 4) (call : QC FA) (s0 : Int32) (ls : List (Option PV)) (z : Nat → Int32) (f : Nat → FA) (F : Nat) : xnG call 18 (F + 1) 17 ls [vR (wJ W kt + 42), vI s0] (LW W z f) = xnG call 18 F 18 ls [vR (wA W kt + 42), vI s0] (LW W z f) := gt_0 (ih := xnG call 18 F) (t := 18) (st := [vI s0]) hW hk
set_option maxRecDepth 100000 in
theorem b18_16 (hW : WTX W) (hk : kt < 4) (call : QC FA) (s0 : Int32) (ls : List (Option PV)) (z : Nat → Int32) (f : Nat → FA) (F : Nat) : xnG call 18 (F + 1) 18 ls [vR (wA W kt + 42), vI s0] (LW W z f) = xnG call 18 F 19 ls [vI (nI (wN W kt)), vI s0] (LW W z f) := ga_g (ih := xnG call 18 F) (t := 19) (st := [vI s0]) hW hk
set_option maxRecDepth 100000 in
theorem b18_17 (call : QC FA) (x y : Int32) (ls : List (Option PV)) (L : QH FA) (F : Nat) : xnG call 18 (F + 1) 19 ls [vI y, vI x] L = bif pcmp 3 x y then xnG call 18 F 22 ls [] L else xnG call 18 F 20 ls [] L := rfl
set_option maxRecDepth 100000 in
theorem b18_18 (call : QC FA) (x1 : Int32) (x2 : Int32) (o3 : Option PV) (L : QH FA) (F : Nat) : xnG call 18 (F + 4) 20 [some (vR (wJ W kt + 42)), some (vI x1), some (vI x2), o3] [] L = xnG call 18 F 25 [some (vR (wJ W kt + 42)), some (vI x1), some (vI x2), some (vI 1)] [vI 1] L := rfl
set_option maxRecDepth 100000 in
theorem b18_19 (call : QC FA) (x1 : Int32) (x2 : Int32) (x3 : Int32) (L : QH FA) (F : Nat) : xnG call 18 (F + 1) 26 [some (vR (wJ W kt + 42)), some (vI x1), some (vI x2), some (vI x3)] [] L = xnG call 18 F 27 [some (vR (wJ W kt + 42)), some (vI x1), some (vI x2), some (vI x3)] [vR (wJ W kt + 42)] L := rfl
set_option maxRecDepth 100000 in
theorem b18_20 (hW : WTX W) (hk : kt < 4) (call : QC FA) (ls : List (Option PV)) (z : Nat → Int32) (f : Nat → FA) (F : Nat) : xnG call 18 (F + 1) 27 ls [vR (wJ W kt + 42)] (LW W z f) = xnG call 18 F 28 ls [vR (wA W kt + 42)] (LW W z f) := gt_0 (ih := xnG call 18 F) (t := 28) (st := []) hW hk
set_option maxRecDepth 100000 in
theorem b18_21 (call : QC FA) (x1 : Int32) (x2 : Int32) (x3 : Int32) (L : QH FA) (F : Nat) : xnG call 18 (F + 5) 28 [some (vR (wJ W kt + 42)), some (vI x1), some (vI x2), some (vI x3)] [vR (wA W kt + 42)] L = xnG call 18 F 33 [some (vR (wJ W kt + 42)), some (vI x1), some (vI x2), some (vI x3)] [vI ((x1 * 5) + x2), vR (wA W kt + 42)] L := rfl
set_option maxRecDepth 100000 in
theorem b18_22 (hW : WTX W) (hk : kt < 4) (call : QC FA) (x : Int32) (ls : List (Option PV)) (z : Nat → Int32) (f : Nat → FA) (F : Nat) : xnG call 18 (F + 1) 33 ls [vI x, vR (wA W kt + 42)] (LW W z f) = bif pin x (wN W kt) then xnG call 18 F 34 ls [vI (wg W kt (ix x))] (LW W z f) else none := gl_g (ih := xnG call 18 F) (t := 34) (st := []) hW hk x
set_option maxRecDepth 100000 in
theorem b18_23 (call : QC FA) (x1 : Int32) (x2 : Int32) (x3 : Int32) (s0 : Int32) (L : QH FA) (F : Nat) : xnG call 18 (F + 1) 34 [some (vR (wJ W kt + 42)), some (vI x1), some (vI x2), some (vI x3)] [vI s0] L = xnG call 18 F 36 [some (vR (wJ W kt + 42)), some (vI x1), some (vI x2), some (vI x3)] [vI s0] L := rfl
theorem vc18_0 (hW : WTX W) (hk : kt < 4) (call : QC FA) (x1 : Int32) (x2 : Int32) (o3 : Option PV) (z : Nat → Int32) (f : Nat → FA) (res : Option PV × QH FA) (H : ((I x1 < 0 → res = (some (vI 0), LW W z f)) ∧ (0 ≤ I x1 → ((I (wn W kt) ≤ I x1 → res = (some (vI 0), LW W z f)) ∧ (I x1 < I (wn W kt) → ((I x2 < 0 → res = (some (vI 0), LW W z f)) ∧ (0 ≤ I x2 → ((5 ≤ I x2 → res = (some (vI 0), LW W z f)) ∧ (I x2 < 5 → ((I (nI (wN W kt)) ≤ I ((x1 * 5) + x2) → res = (some (vI 0), LW W z f)) ∧ (I ((x1 * 5) + x2) < I (nI (wN W kt)) → (pin ((x1 * 5) + x2) (wN W kt) = true ∧ res = (some (vI (wg W kt (ix ((x1 * 5) + x2)))), LW W z f))))))))))))) : XC call (mP 18) 0 [some (vR (wJ W kt + 42)), some (vI x1), some (vI x2), o3] [] (LW W z f) res := by
  refine xc_b (i' := 1) (ls' := [some (vR (wJ W kt + 42)), some (vI x1), some (vI x2), o3]) (st' := [vI x1]) (L' := LW W z f) 1 (b18_1 call x1 x2 o3 _) ?_
  refine xc_if (it := 22) (ie := 2) (ls' := [some (vR (wJ W kt + 42)), some (vI x1), some (vI x2), o3]) (st' := []) (b18_2 call x1 _ _) (fun q1 => ?_) (fun q1 => ?_)
  · have H := H.1 (cI2t q1 rfl rfl)
    refine xc_b (i' := 25) (ls' := [some (vR (wJ W kt + 42)), some (vI x1), some (vI x2), some (vI 0)]) (st' := [vI 0]) (L' := LW W z f) 3 (b18_3 call x1 x2 o3 _) ?_
    refine xc_t (it := 35) (ie := 26) (ls' := [some (vR (wJ W kt + 42)), some (vI x1), some (vI x2), some (vI 0)]) (st' := []) (b18_4 call 0 _ _) (by decide) ?_
    refine xc_b (i' := 36) (ls' := [some (vR (wJ W kt + 42)), some (vI x1), some (vI x2), some (vI 0)]) (st' := [vI 0]) (L' := LW W z f) 1 (b18_5 call x1 x2 0 _) ?_
    subst H
    exact xc_ret (b18_6 call _ _ _)
  · have H := H.2 (cI2f q1 rfl rfl)
    refine xc_b (i' := 4) (ls' := [some (vR (wJ W kt + 42)), some (vI x1), some (vI x2), o3]) (st' := [vR (wJ W kt + 42), vI x1]) (L' := LW W z f) 2 (b18_7 call x1 x2 o3 _) ?_
    refine xc_b (i' := 5) (ls' := [some (vR (wJ W kt + 42)), some (vI x1), some (vI x2), o3]) (st' := [vI (wn W kt), vI x1]) (L' := LW W z f) 1 (b18_8 hW hk call x1 _ z f) ?_
    refine xc_if (it := 22) (ie := 6) (ls' := [some (vR (wJ W kt + 42)), some (vI x1), some (vI x2), o3]) (st' := []) (b18_9 call x1 (wn W kt) _ _) (fun q2 => ?_) (fun q2 => ?_)
    · have H := H.1 (cI3t q2 rfl rfl)
      refine xc_b (i' := 25) (ls' := [some (vR (wJ W kt + 42)), some (vI x1), some (vI x2), some (vI 0)]) (st' := [vI 0]) (L' := LW W z f) 3 (b18_3 call x1 x2 o3 _) ?_
      refine xc_t (it := 35) (ie := 26) (ls' := [some (vR (wJ W kt + 42)), some (vI x1), some (vI x2), some (vI 0)]) (st' := []) (b18_4 call 0 _ _) (by decide) ?_
      refine xc_b (i' := 36) (ls' := [some (vR (wJ W kt + 42)), some (vI x1), some (vI x2), some (vI 0)]) (st' := [vI 0]) (L' := LW W z f) 1 (b18_5 call x1 x2 0 _) ?_
      subst H
      exact xc_ret (b18_6 call _ _ _)
    · have H := H.2 (cI3f q2 rfl rfl)
      refine xc_b (i' := 7) (ls' := [some (vR (wJ W kt + 42)), some (vI x1), some (vI x2), o3]) (st' := [vI x2]) (L' := LW W z f) 1 (b18_10 call x1 x2 o3 _) ?_
      refine xc_if (it := 22) (ie := 8) (ls' := [some (vR (wJ W kt + 42)), some (vI x1), some (vI x2), o3]) (st' := []) (b18_11 call x2 _ _) (fun q3 => ?_) (fun q3 => ?_)
      · have H := H.1 (cI2t q3 rfl rfl)
        refine xc_b (i' := 25) (ls' := [some (vR (wJ W kt + 42)), some (vI x1), some (vI x2), some (vI 0)]) (st' := [vI 0]) (L' := LW W z f) 3 (b18_3 call x1 x2 o3 _) ?_
        refine xc_t (it := 35) (ie := 26) (ls' := [some (vR (wJ W kt + 42)), some (vI x1), some (vI x2), some (vI 0)]) (st' := []) (b18_4 call 0 _ _) (by decide) ?_
        refine xc_b (i' := 36) (ls' := [some (vR (wJ W kt + 42)), some (vI x1), some (vI x2), some (vI 0)]) (st' := [vI 0]) (L' := LW W z f) 1 (b18_5 call x1 x2 0 _) ?_
        subst H
        exact xc_ret (b18_6 call _ _ _)
      · have H := H.2 (cI2f q3 rfl rfl)
        refine xc_b (i' := 10) (ls' := [some (vR (wJ W kt + 42)), some (vI x1), some (vI x2), o3]) (st' := [vI 5, vI x2]) (L' := LW W z f) 2 (b18_12 call x1 x2 o3 _) ?_
        refine xc_if (it := 22) (ie := 11) (ls' := [some (vR (wJ W kt + 42)), some (vI x1), some (vI x2), o3]) (st' := []) (b18_13 call x2 5 _ _) (fun q4 => ?_) (fun q4 => ?_)
        · have H := H.1 (cI3t q4 rfl rfl)
          refine xc_b (i' := 25) (ls' := [some (vR (wJ W kt + 42)), some (vI x1), some (vI x2), some (vI 0)]) (st' := [vI 0]) (L' := LW W z f) 3 (b18_3 call x1 x2 o3 _) ?_
          refine xc_t (it := 35) (ie := 26) (ls' := [some (vR (wJ W kt + 42)), some (vI x1), some (vI x2), some (vI 0)]) (st' := []) (b18_4 call 0 _ _) (by decide) ?_
          refine xc_b (i' := 36) (ls' := [some (vR (wJ W kt + 42)), some (vI x1), some (vI x2), some (vI 0)]) (st' := [vI 0]) (L' := LW W z f) 1 (b18_5 call x1 x2 0 _) ?_
          subst H
          exact xc_ret (b18_6 call _ _ _)
        · have H := H.2 (cI3f q4 rfl rfl)
          refine xc_b (i' := 17) (ls' := [some (vR (wJ W kt + 42)), some (vI x1), some (vI x2), o3]) (st' := [vR (wJ W kt + 42), vI ((x1 * 5) + x2)]) (L' := LW W z f) 6 (b18_14 call x1 x2 o3 _) ?_
          refine xc_b (i' := 18) (ls' := [some (vR (wJ W kt + 42)), some (vI x1), some (vI x2), o3]) (st' := [vR (wA W kt + 42), vI ((x1 * 5) + x2)]) (L' := LW W z f) 1 (b18_15 hW hk call ((x1 * 5) + x2) _ z f) ?_
          refine xc_b (i' := 19) (ls' := [some (vR (wJ W kt + 42)), some (vI x1), some (vI x2), o3]) (st' := [vI (nI (wN W kt)), vI ((x1 * 5) + x2)]) (L' := LW W z f) 1 (b18_16 hW hk call ((x1 * 5) + x2) _ z f) ?_
          refine xc_if (it := 22) (ie := 20) (ls' := [some (vR (wJ W kt + 42)), some (vI x1), some (vI x2), o3]) (st' := []) (b18_17 call ((x1 * 5) + x2) (nI (wN W kt)) _ _) (fun q5 => ?_) (fun q5 => ?_)
          · have H := H.1 (cI3t q5 rfl rfl)
            refine xc_b (i' := 25) (ls' := [some (vR (wJ W kt + 42)), some (vI x1), some (vI x2), some (vI 0)]) (st' := [vI 0]) (L' := LW W z f) 3 (b18_3 call x1 x2 o3 _) ?_
            refine xc_t (it := 35) (ie := 26) (ls' := [some (vR (wJ W kt + 42)), some (vI x1), some (vI x2), some (vI 0)]) (st' := []) (b18_4 call 0 _ _) (by decide) ?_
            refine xc_b (i' := 36) (ls' := [some (vR (wJ W kt + 42)), some (vI x1), some (vI x2), some (vI 0)]) (st' := [vI 0]) (L' := LW W z f) 1 (b18_5 call x1 x2 0 _) ?_
            subst H
            exact xc_ret (b18_6 call _ _ _)
          · have H := H.2 (cI3f q5 rfl rfl)
            refine xc_b (i' := 25) (ls' := [some (vR (wJ W kt + 42)), some (vI x1), some (vI x2), some (vI 1)]) (st' := [vI 1]) (L' := LW W z f) 4 (b18_18 call x1 x2 o3 _) ?_
            refine xc_f (it := 35) (ie := 26) (ls' := [some (vR (wJ W kt + 42)), some (vI x1), some (vI x2), some (vI 1)]) (st' := []) (b18_4 call 1 _ _) (by decide) ?_
            refine xc_b (i' := 27) (ls' := [some (vR (wJ W kt + 42)), some (vI x1), some (vI x2), some (vI 1)]) (st' := [vR (wJ W kt + 42)]) (L' := LW W z f) 1 (b18_19 call x1 x2 1 _) ?_
            refine xc_b (i' := 28) (ls' := [some (vR (wJ W kt + 42)), some (vI x1), some (vI x2), some (vI 1)]) (st' := [vR (wA W kt + 42)]) (L' := LW W z f) 1 (b18_20 hW hk call _ z f) ?_
            refine xc_b (i' := 33) (ls' := [some (vR (wJ W kt + 42)), some (vI x1), some (vI x2), some (vI 1)]) (st' := [vI ((x1 * 5) + x2), vR (wA W kt + 42)]) (L' := LW W z f) 5 (b18_21 call x1 x2 1 _) ?_
            obtain ⟨g1, H⟩ := H
            refine xc_g (i' := 34) (ls' := [some (vR (wJ W kt + 42)), some (vI x1), some (vI x2), some (vI 1)]) (st' := [vI (wg W kt (ix ((x1 * 5) + x2)))]) (L' := LW W z f) (b18_22 hW hk call ((x1 * 5) + x2) _ z f) g1 ?_
            refine xc_b (i' := 36) (ls' := [some (vR (wJ W kt + 42)), some (vI x1), some (vI x2), some (vI 1)]) (st' := [vI (wg W kt (ix ((x1 * 5) + x2)))]) (L' := LW W z f) 1 (b18_23 call x1 x2 1 (wg W kt (ix ((x1 * 5) + x2))) _) ?_
            subst H
            exact xc_ret (b18_6 call _ _ _)
theorem wPart (d : Nat) (x : Int32) {a : Nat} (ha : 1 ≤ a) (h : a < 2147483648) {z : Nat → Int32} {f : Nat → FA} : xcall (d + 1) 20 [vI x, vI (nI a)] (LW W z f) = some (some (vI (x / nI a)), LW W z f) := by
  have h0 : ¬ nI a = 0 := fun q => absurd (nI_inj (b := 0) h (by omega) q) (by omega)
  exact xcall_i (mq20 (cu := [])).2.2 rfl (vc20_0 (xcall d) x (nI a) z f _ ⟨fun _ => ⟨h0, rfl⟩, fun q => absurd q h0⟩)
theorem wJoin (d : Nat) (x y : Int32) {o : Nat} (ho : 4 ≤ o) (h : o < 12) {z : Nat → Int32} {f : Nat → FA} : xcall (d + 1) 21 [vI (nI o), vI x, vI y] (LW W z f) = some (some (vI (jnO o x y)), LW W z f) := by
  have go : ∀ res, _ → xcall (d + 1) 21 [vI (nI o), vI x, vI y] (LW W z f) = some res := fun res H => xcall_i (mq21 (cu := [])).2.2 rfl (vc21_0 (xcall d) (nI o) x y z f res H)
  have ne : ∀ {p q : Nat}, p < 12 → q < 12 → p ≠ q → ¬ nI p = nI q := fun hp hq hpq c => hpq (nI_inj (by omega) (by omega) c)
  have l4 : (4 : Int32) = nI 4 := rfl
  have l5 : (5 : Int32) = nI 5 := rfl
  have l6 : (6 : Int32) = nI 6 := rfl
  have l7 : (7 : Int32) = nI 7 := rfl
  have l8 : (8 : Int32) = nI 8 := rfl
  have l9 : (9 : Int32) = nI 9 := rfl
  have l10 : (10 : Int32) = nI 10 := rfl
  rw [l4, l5, l6, l7, l8, l9, l10] at go
  unfold jnO
  by_cases c4 : o = 4
  · subst c4
    exact go _ ⟨fun _ => rfl, fun q => absurd rfl q⟩
  by_cases c5 : o = 5
  · subst c5
    exact go _ ⟨fun q => absurd q (by decide), fun _ => ⟨fun _ => rfl, fun q => absurd rfl q⟩⟩
  by_cases c6 : o = 6
  · subst c6
    exact go _ ⟨fun q => absurd q (by decide), fun _ => ⟨fun q => absurd q (by decide), fun _ => ⟨fun _ => rfl, fun q => absurd rfl q⟩⟩⟩
  by_cases c7 : o = 7
  · subst c7
    refine go _ ⟨fun q => absurd q (by decide), fun _ => ⟨fun q => absurd q (by decide), fun _ => ⟨fun q => absurd q (by decide), fun _ => ⟨fun _ => ⟨fun q => ?_, fun q => ?_⟩, fun q => absurd rfl q⟩⟩⟩⟩
    · rw [if_neg (by decide), if_neg (by decide), if_neg (by decide), if_pos rfl, if_neg (by omega)]
    · rw [if_neg (by decide), if_neg (by decide), if_neg (by decide), if_pos rfl, if_pos q]
  by_cases c8 : o = 8
  · subst c8
    refine go _ ⟨fun q => absurd q (by decide), fun _ => ⟨fun q => absurd q (by decide), fun _ => ⟨fun q => absurd q (by decide), fun _ => ⟨fun q => absurd q (by decide), fun _ => ⟨fun _ => ⟨fun q => ?_, fun q => ?_⟩, fun q => absurd rfl q⟩⟩⟩⟩⟩
    · rw [if_neg (by decide), if_neg (by decide), if_neg (by decide), if_neg (by decide), if_pos rfl, if_neg q]
    · rw [if_neg (by decide), if_neg (by decide), if_neg (by decide), if_neg (by decide), if_pos rfl, if_pos q]
  by_cases c9 : o = 9
  · subst c9
    refine go _ ⟨fun q => absurd q (by decide), fun _ => ⟨fun q => absurd q (by decide), fun _ => ⟨fun q => absurd q (by decide), fun _ => ⟨fun q => absurd q (by decide), fun _ => ⟨fun q => absurd q (by decide), fun _ => ⟨fun _ => ⟨fun q => ?_, fun q => ?_⟩, fun q => absurd rfl q⟩⟩⟩⟩⟩⟩
    · rw [if_neg (by decide), if_neg (by decide), if_neg (by decide), if_neg (by decide), if_neg (by decide), if_pos rfl, if_neg (by omega)]
    · rw [if_neg (by decide), if_neg (by decide), if_neg (by decide), if_neg (by decide), if_neg (by decide), if_pos rfl, if_pos q]
  rw [if_neg c4, if_neg c5, if_neg c6, if_neg c7, if_neg c8, if_neg c9]
  by_cases c10 : o = 10
  · subst c10
    exact go _ ⟨fun q => absurd q (by decide), fun _ => ⟨fun q => absurd q (by decide), fun _ => ⟨fun q => absurd q (by decide), fun _ => ⟨fun q => absurd q (by decide), fun _ => ⟨fun q => absurd q (by decide), fun _ => ⟨fun q => absurd q (by decide), fun _ => ⟨fun _ => rfl, fun q => absurd rfl q⟩⟩⟩⟩⟩⟩⟩
  · rw [if_neg c10]
    exact go _ ⟨fun q => absurd q (ne h (by omega) c4), fun _ => ⟨fun q => absurd q (ne h (by omega) c5), fun _ => ⟨fun q => absurd q (ne h (by omega) c6), fun _ => ⟨fun q => absurd q (ne h (by omega) c7), fun _ => ⟨fun q => absurd q (ne h (by omega) c8), fun _ => ⟨fun q => absurd q (ne h (by omega) c9), fun _ => ⟨fun q => absurd q (ne h (by omega) c10), fun _ => rfl⟩⟩⟩⟩⟩⟩⟩
/-- number w of line i -/
theorem wNum (hW : WTX W) (hk : kt < 4) (d : Nat) {z : Nat → Int32} {f : Nat → FA} {n i w : Nat} (hn : wn W kt = nI n) (h16 : n ≤ 16) (hN : wN W kt = 5 * n) (hi : i < n) (hw : w < 5) : xcall (d + 1) 18 [vR (wJ W kt + 42), vI (nI i), vI (nI w)] (LW W z f) = some (some (vI (wg W kt (5 * i + w))), LW W z f) := by
  have ii : I (nI i) = i := I_nI (by omega)
  have iw : I (nI w) = w := I_nI (by omega)
  have iN : I (nI (wN W kt)) = ((5 * n : Nat) : Int) := by rw [hN]; exact I_nI (by omega)
  have inn : I (wn W kt) = n := by rw [hn]; exact I_nI (by omega)
  have e : nI i * 5 + nI w = nI (5 * i + w) := by rw [show (5 : Int32) = nI 5 from rfl, mul_nI, nI_add, Nat.mul_comm]
  have ie : I (nI (5 * i + w)) = ((5 * i + w : Nat) : Int) := I_nI (by omega)
  refine xcall_i (mq18 (cu := [])).2.2 rfl (vc18_0 hW hk (xcall d) (nI i) (nI w) none z f _ ⟨fun q => by omega, fun _ => ⟨fun q => by omega, fun _ => ⟨fun q => by omega, fun _ => ⟨fun q => by omega, fun _ => ?_⟩⟩⟩⟩)
  rw [e, iN, ie, ix_nI (j := 5 * i + w) (by omega)]
  exact ⟨fun q => by omega, fun _ => ⟨pin_nI (by omega) (by omega), rfl⟩⟩
set_option maxRecDepth 100000 in
theorem bn_19_1 (call : QC FA) (x1 : Int32) (x2 : Int32) (o5 : Option PV) (o6 : Option PV) (o7 : Option PV) (o8 : Option PV) (L : QH FA) (F : Nat) : xnG call 19 (F + 4) 0 [some (vR (wJ W kt + 42)), some (vI x1), some (vI x2), some (vR 9), some (vR 10), o5, o6, o7, o8] [] L = xnG call 19 F 4 [some (vR (wJ W kt + 42)), some (vI x1), some (vI x2), some (vR 9), some (vR 10), some (vI 0), o6, o7, o8] [vI 0, vI x1] L := rfl
set_option maxRecDepth 100000 in
theorem bn_19_2 (call : QC FA) (x y : Int32) (ls : List (Option PV)) (L : QH FA) (F : Nat) : xnG call 19 (F + 1) 4 ls [vI y, vI x] L = bif pcmp 2 x y then xnG call 19 F 5 ls [vI y] L else xnG call 19 F 5 ls [vI x] L := pmxr (xnG call 19 F) 5 x y ls [] L rfl
set_option maxRecDepth 100000 in
theorem bn_19_3 (call : QC FA) (x1 : Int32) (x2 : Int32) (x5 : Int32) (o6 : Option PV) (o7 : Option PV) (o8 : Option PV) (s0 : Int32) (L : QH FA) (F : Nat) : xnG call 19 (F + 1) 5 [some (vR (wJ W kt + 42)), some (vI x1), some (vI x2), some (vR 9), some (vR 10), some (vI x5), o6, o7, o8] [vI s0] L = xnG call 19 F 6 [some (vR (wJ W kt + 42)), some (vI x1), some (vI x2), some (vR 9), some (vR 10), some (vI x5), some (vI s0), o7, o8] [] L := rfl
theorem vcn_19_0 (call : QC FA) (x1 : Int32) (x2 : Int32) (o5 : Option PV) (o6 : Option PV) (o7 : Option PV) (o8 : Option PV) (z : Nat → Int32) (f : Nat → FA) (res : Option PV × QH FA) (H : ((I x1 < 0 → XC call (mP 19) 6 [some (vR (wJ W kt + 42)), some (vI x1), some (vI x2), some (vR 9), some (vR 10), some (vI 0), some (vI 0), o7, o8] [] (LW W z f) res) ∧ (0 ≤ I x1 → XC call (mP 19) 6 [some (vR (wJ W kt + 42)), some (vI x1), some (vI x2), some (vR 9), some (vR 10), some (vI 0), some (vI x1), o7, o8] [] (LW W z f) res))) : XC call (mP 19) 0 [some (vR (wJ W kt + 42)), some (vI x1), some (vI x2), some (vR 9), some (vR 10), o5, o6, o7, o8] [] (LW W z f) res := by
  refine xc_b (i' := 4) (ls' := [some (vR (wJ W kt + 42)), some (vI x1), some (vI x2), some (vR 9), some (vR 10), some (vI 0), o6, o7, o8]) (st' := [vI 0, vI x1]) (L' := LW W z f) 4 (bn_19_1 call x1 x2 o5 o6 o7 o8 _) ?_
  refine xc_if2 (it := 5) (ie := 5) (ls' := [some (vR (wJ W kt + 42)), some (vI x1), some (vI x2), some (vR 9), some (vR 10), some (vI 0), o6, o7, o8]) (st1 := [vI 0]) (st2 := [vI x1]) (bn_19_2 call x1 0 _ _) (fun q1 => ?_) (fun q1 => ?_)
  · have H := H.1 (cI2t q1 rfl rfl)
    refine xc_b (i' := 6) (ls' := [some (vR (wJ W kt + 42)), some (vI x1), some (vI x2), some (vR 9), some (vR 10), some (vI 0), some (vI 0), o7, o8]) (st' := []) (L' := LW W z f) 1 (bn_19_3 call x1 x2 0 o6 o7 o8 0 _) ?_
    exact H
  · have H := H.2 (cI2f q1 rfl rfl)
    refine xc_b (i' := 6) (ls' := [some (vR (wJ W kt + 42)), some (vI x1), some (vI x2), some (vR 9), some (vR 10), some (vI 0), some (vI x1), o7, o8]) (st' := []) (L' := LW W z f) 1 (bn_19_3 call x1 x2 0 o6 o7 o8 x1 _) ?_
    exact H
set_option maxRecDepth 100000 in
theorem bn_c6_19_1 (call : QC FA) (o1 : Option PV) (x2 : Int32) (x5 : Int32) (x6 : Int32) (o7 : Option PV) (o8 : Option PV) (L : QH FA) (F : Nat) : xnG call 19 (F + 2) 6 [some (vR (wJ W kt + 42)), o1, some (vI x2), some (vR 9), some (vR 10), some (vI x5), some (vI x6), o7, o8] [] L = xnG call 19 F 8 [some (vR (wJ W kt + 42)), o1, some (vI x2), some (vR 9), some (vR 10), some (vI x5), some (vI x6), o7, o8] [vI x2, vI x6] L := rfl
set_option maxRecDepth 100000 in
theorem bn_c6_19_2 (call : QC FA) (x y : Int32) (ls : List (Option PV)) (L : QH FA) (F : Nat) : xnG call 19 (F + 1) 8 ls [vI y, vI x] L = bif pcmp 3 x y then xnG call 19 F 109 ls [] L else xnG call 19 F 9 ls [] L := rfl
set_option maxRecDepth 100000 in
theorem bn_c6_19_3 (call : QC FA) (o1 : Option PV) (x2 : Int32) (x5 : Int32) (x6 : Int32) (o7 : Option PV) (o8 : Option PV) (L : QH FA) (F : Nat) : xnG call 19 (F + 1) 109 [some (vR (wJ W kt + 42)), o1, some (vI x2), some (vR 9), some (vR 10), some (vI x5), some (vI x6), o7, o8] [] L = xnG call 19 F 110 [some (vR (wJ W kt + 42)), o1, some (vI x2), some (vR 9), some (vR 10), some (vI x5), some (vI x6), o7, o8] [vI x5] L := rfl
set_option maxRecDepth 100000 in
theorem bn_c6_19_4 (call : QC FA) (x : Int32) (ls : List (Option PV)) (L : QH FA) (F : Nat) : xnG call 19 (F + 1) 110 ls [vI x] L = bif pcmp 5 x 0 then xnG call 19 F 115 ls [] L else xnG call 19 F 111 ls [] L := rfl
set_option maxRecDepth 100000 in
theorem bn_c6_19_5 (call : QC FA) (o1 : Option PV) (x2 : Int32) (x5 : Int32) (x6 : Int32) (o7 : Option PV) (o8 : Option PV) (L : QH FA) (F : Nat) : xnG call 19 (F + 1) 115 [some (vR (wJ W kt + 42)), o1, some (vI x2), some (vR 9), some (vR 10), some (vI x5), some (vI x6), o7, o8] [] L = xnG call 19 F 116 [some (vR (wJ W kt + 42)), o1, some (vI x2), some (vR 9), some (vR 10), some (vI x5), some (vI x6), o7, o8] [vI 0] L := rfl
set_option maxRecDepth 100000 in
theorem bn_c6_19_6 (call : QC FA) (x : Int32) (ls : List (Option PV)) (L : QH FA) (F : Nat) : xnG call 19 (F + 1) 116 ls [vI x] L = some (some (vI x), L) := rfl
set_option maxRecDepth 100000 in
theorem bn_c6_19_7 (call : QC FA) (o1 : Option PV) (x2 : Int32) (x5 : Int32) (x6 : Int32) (o7 : Option PV) (o8 : Option PV) (L : QH FA) (F : Nat) : xnG call 19 (F + 2) 111 [some (vR (wJ W kt + 42)), o1, some (vI x2), some (vR 9), some (vR 10), some (vI x5), some (vI x6), o7, o8] [] L = xnG call 19 F 113 [some (vR (wJ W kt + 42)), o1, some (vI x2), some (vR 9), some (vR 10), some (vI x5), some (vI x6), o7, o8] [vI 0, vR 10] L := rfl
set_option maxRecDepth 100000 in
theorem bn_c6_19_8 (call : QC FA) (x : Int32) (ls : List (Option PV)) (z : Nat → Int32) (f : Nat → FA) (F : Nat) : xnG call 19 (F + 1) 113 ls [vI x, vR 10] (LW W z f) = bif (Nat.beq 0 0 && pin x 32) then xnG call 19 F 114 ls [vI (f 10 (ix x))] (LW W z f) else none := rfl
set_option maxRecDepth 100000 in
theorem bn_c6_19_9 (call : QC FA) (o1 : Option PV) (x2 : Int32) (x5 : Int32) (x6 : Int32) (o7 : Option PV) (o8 : Option PV) (s0 : Int32) (L : QH FA) (F : Nat) : xnG call 19 (F + 1) 114 [some (vR (wJ W kt + 42)), o1, some (vI x2), some (vR 9), some (vR 10), some (vI x5), some (vI x6), o7, o8] [vI s0] L = xnG call 19 F 116 [some (vR (wJ W kt + 42)), o1, some (vI x2), some (vR 9), some (vR 10), some (vI x5), some (vI x6), o7, o8] [vI s0] L := rfl
set_option maxRecDepth 100000 in
theorem bn_c6_19_10 (call : QC FA) (o1 : Option PV) (x2 : Int32) (x5 : Int32) (x6 : Int32) (o7 : Option PV) (o8 : Option PV) (L : QH FA) (F : Nat) : xnG call 19 (F + 2) 9 [some (vR (wJ W kt + 42)), o1, some (vI x2), some (vR 9), some (vR 10), some (vI x5), some (vI x6), o7, o8] [] L = xnG call 19 F 11 [some (vR (wJ W kt + 42)), o1, some (vI x2), some (vR 9), some (vR 10), some (vI x5), some (vI x6), o7, o8] [vR (wJ W kt + 42), vI x6] L := rfl
set_option maxRecDepth 100000 in
theorem bn_c6_19_11 (hW : WTX W) (hk : kt < 4) (call : QC FA) (s0 : Int32) (ls : List (Option PV)) (z : Nat → Int32) (f : Nat → FA) (F : Nat) : xnG call 19 (F + 1) 11 ls [vR (wJ W kt + 42), vI s0] (LW W z f) = xnG call 19 F 12 ls [vR (wC W kt + 42), vI s0] (LW W z f) := gt_2 (ih := xnG call 19 F) (t := 12) (st := [vI s0]) hW hk
set_option maxRecDepth 100000 in
theorem bn_c6_19_12 (hW : WTX W) (hk : kt < 4) (call : QC FA) (s0 : Int32) (ls : List (Option PV)) (z : Nat → Int32) (f : Nat → FA) (F : Nat) : xnG call 19 (F + 1) 12 ls [vR (wC W kt + 42), vI s0] (LW W z f) = xnG call 19 F 13 ls [vI (nI (wM W kt)), vI s0] (LW W z f) := ga_h (ih := xnG call 19 F) (t := 13) (st := [vI s0]) hW hk
set_option maxRecDepth 100000 in
theorem bn_c6_19_13 (call : QC FA) (x y : Int32) (ls : List (Option PV)) (L : QH FA) (F : Nat) : xnG call 19 (F + 1) 13 ls [vI y, vI x] L = bif pcmp 3 x y then xnG call 19 F 109 ls [] L else xnG call 19 F 14 ls [] L := rfl
set_option maxRecDepth 100000 in
theorem bn_c6_19_14 (call : QC FA) (o1 : Option PV) (x2 : Int32) (x5 : Int32) (x6 : Int32) (o7 : Option PV) (o8 : Option PV) (L : QH FA) (F : Nat) : xnG call 19 (F + 1) 14 [some (vR (wJ W kt + 42)), o1, some (vI x2), some (vR 9), some (vR 10), some (vI x5), some (vI x6), o7, o8] [] L = xnG call 19 F 15 [some (vR (wJ W kt + 42)), o1, some (vI x2), some (vR 9), some (vR 10), some (vI x5), some (vI x6), o7, o8] [vR (wJ W kt + 42)] L := rfl
set_option maxRecDepth 100000 in
theorem bn_c6_19_15 (hW : WTX W) (hk : kt < 4) (call : QC FA) (ls : List (Option PV)) (z : Nat → Int32) (f : Nat → FA) (F : Nat) : xnG call 19 (F + 1) 15 ls [vR (wJ W kt + 42)] (LW W z f) = xnG call 19 F 16 ls [vR (wC W kt + 42)] (LW W z f) := gt_2 (ih := xnG call 19 F) (t := 16) (st := []) hW hk
set_option maxRecDepth 100000 in
theorem bn_c6_19_16 (call : QC FA) (o1 : Option PV) (x2 : Int32) (x5 : Int32) (x6 : Int32) (o7 : Option PV) (o8 : Option PV) (L : QH FA) (F : Nat) : xnG call 19 (F + 1) 16 [some (vR (wJ W kt + 42)), o1, some (vI x2), some (vR 9), some (vR 10), some (vI x5), some (vI x6), o7, o8] [vR (wC W kt + 42)] L = xnG call 19 F 17 [some (vR (wJ W kt + 42)), o1, some (vI x2), some (vR 9), some (vR 10), some (vI x5), some (vI x6), o7, o8] [vI x6, vR (wC W kt + 42)] L := rfl
set_option maxRecDepth 100000 in
theorem bn_c6_19_17 (hW : WTX W) (hk : kt < 4) (call : QC FA) (x : Int32) (ls : List (Option PV)) (z : Nat → Int32) (f : Nat → FA) (F : Nat) : xnG call 19 (F + 1) 17 ls [vI x, vR (wC W kt + 42)] (LW W z f) = bif pin x (wM W kt) then xnG call 19 F 18 ls [vI (wh W kt (ix x))] (LW W z f) else none := gl_h (ih := xnG call 19 F) (t := 18) (st := []) hW hk x
set_option maxRecDepth 100000 in
theorem bn_c6_19_18 (call : QC FA) (o1 : Option PV) (x2 : Int32) (x5 : Int32) (x6 : Int32) (o7 : Option PV) (o8 : Option PV) (s0 : Int32) (L : QH FA) (F : Nat) : xnG call 19 (F + 4) 18 [some (vR (wJ W kt + 42)), o1, some (vI x2), some (vR 9), some (vR 10), some (vI x5), some (vI x6), o7, o8] [vI s0] L = xnG call 19 F 22 [some (vR (wJ W kt + 42)), o1, some (vI x2), some (vR 9), some (vR 10), some (vI x5), some (vI x6), some (vI (s0 &&& 15)), o8] [vR (wJ W kt + 42)] L := rfl
set_option maxRecDepth 100000 in
theorem bn_c6_19_19 (hW : WTX W) (hk : kt < 4) (call : QC FA) (ls : List (Option PV)) (z : Nat → Int32) (f : Nat → FA) (F : Nat) : xnG call 19 (F + 1) 22 ls [vR (wJ W kt + 42)] (LW W z f) = xnG call 19 F 23 ls [vR (wC W kt + 42)] (LW W z f) := gt_2 (ih := xnG call 19 F) (t := 23) (st := []) hW hk
set_option maxRecDepth 100000 in
theorem bn_c6_19_20 (call : QC FA) (o1 : Option PV) (x2 : Int32) (x5 : Int32) (x6 : Int32) (x7 : Int32) (o8 : Option PV) (L : QH FA) (F : Nat) : xnG call 19 (F + 1) 23 [some (vR (wJ W kt + 42)), o1, some (vI x2), some (vR 9), some (vR 10), some (vI x5), some (vI x6), some (vI x7), o8] [vR (wC W kt + 42)] L = xnG call 19 F 24 [some (vR (wJ W kt + 42)), o1, some (vI x2), some (vR 9), some (vR 10), some (vI x5), some (vI x6), some (vI x7), o8] [vI x6, vR (wC W kt + 42)] L := rfl
set_option maxRecDepth 100000 in
theorem bn_c6_19_21 (hW : WTX W) (hk : kt < 4) (call : QC FA) (x : Int32) (ls : List (Option PV)) (z : Nat → Int32) (f : Nat → FA) (F : Nat) : xnG call 19 (F + 1) 24 ls [vI x, vR (wC W kt + 42)] (LW W z f) = bif pin x (wM W kt) then xnG call 19 F 25 ls [vI (wh W kt (ix x))] (LW W z f) else none := gl_h (ih := xnG call 19 F) (t := 25) (st := []) hW hk x
set_option maxRecDepth 100000 in
theorem bn_c6_19_22 (call : QC FA) (o1 : Option PV) (x2 : Int32) (x5 : Int32) (x6 : Int32) (x7 : Int32) (o8 : Option PV) (s0 : Int32) (L : QH FA) (F : Nat) : xnG call 19 (F + 4) 25 [some (vR (wJ W kt + 42)), o1, some (vI x2), some (vR 9), some (vR 10), some (vI x5), some (vI x6), some (vI x7), o8] [vI s0] L = xnG call 19 F 29 [some (vR (wJ W kt + 42)), o1, some (vI x2), some (vR 9), some (vR 10), some (vI x5), some (vI x6), some (vI x7), some (vI (s0 >>> (4 &&& 31)))] [vI x7] L := rfl
set_option maxRecDepth 100000 in
theorem bn_c6_19_23 (call : QC FA) (x : Int32) (ls : List (Option PV)) (L : QH FA) (F : Nat) : xnG call 19 (F + 1) 29 ls [vI x] L = bif pcmp 0 x 0 then xnG call 19 F 33 ls [] L else xnG call 19 F 30 ls [] L := rfl
set_option maxRecDepth 100000 in
theorem bn_c6_19_24 (call : QC FA) (o1 : Option PV) (x2 : Int32) (x5 : Int32) (x6 : Int32) (x7 : Int32) (x8 : Int32) (z : Nat → Int32) (f : Nat → FA) (F : Nat) : xnG call 19 (F + 3) 33 [some (vR (wJ W kt + 42)), o1, some (vI x2), some (vR 9), some (vR 10), some (vI x5), some (vI x6), some (vI x7), some (vI x8)] [] (LW W z f) = xnG call 19 F 36 [some (vR (wJ W kt + 42)), o1, some (vI x2), some (vR 9), some (vR 10), some (vI x5), some (vI x6), some (vI x7), some (vI x8)] [vI (nI 32), vI x5] (LW W z f) := rfl
set_option maxRecDepth 100000 in
theorem bn_c6_19_25 (call : QC FA) (x y : Int32) (ls : List (Option PV)) (L : QH FA) (F : Nat) : xnG call 19 (F + 1) 36 ls [vI y, vI x] L = bif pcmp 3 x y then xnG call 19 F 107 ls [] L else xnG call 19 F 37 ls [] L := rfl
set_option maxRecDepth 100000 in
theorem bn_c6_19_26 (call : QC FA) (o1 : Option PV) (x2 : Int32) (x5 : Int32) (x6 : Int32) (x7 : Int32) (x8 : Int32) (L : QH FA) (F : Nat) : xnG call 19 (F + 1) 107 [some (vR (wJ W kt + 42)), o1, some (vI x2), some (vR 9), some (vR 10), some (vI x5), some (vI x6), some (vI x7), some (vI x8)] [] L = xnG call 19 F 108 [some (vR (wJ W kt + 42)), o1, some (vI x2), some (vR 9), some (vR 10), some (vI x5), some (vI (x6 + 1)), some (vI x7), some (vI x8)] [] L := rfl
set_option maxRecDepth 100000 in
theorem bn_c6_19_27 (call : QC FA) (o1 : Option PV) (x2 : Int32) (x5 : Int32) (x6 : Int32) (x7 : Int32) (x8 : Int32) (L : QH FA) (F : Nat) : xnG call 19 (F + 1) 108 [some (vR (wJ W kt + 42)), o1, some (vI x2), some (vR 9), some (vR 10), some (vI x5), some (vI x6), some (vI x7), some (vI x8)] [] L = xnG call 19 F 6 [some (vR (wJ W kt + 42)), o1, some (vI x2), some (vR 9), some (vR 10), some (vI x5), some (vI x6), some (vI x7), some (vI x8)] [] L := rfl
set_option maxRecDepth 100000 in
theorem bn_c6_19_28 (call : QC FA) (o1 : Option PV) (x2 : Int32) (x5 : Int32) (x6 : Int32) (x7 : Int32) (x8 : Int32) (L : QH FA) (F : Nat) : xnG call 19 (F + 1) 37 [some (vR (wJ W kt + 42)), o1, some (vI x2), some (vR 9), some (vR 10), some (vI x5), some (vI x6), some (vI x7), some (vI x8)] [] L = xnG call 19 F 38 [some (vR (wJ W kt + 42)), o1, some (vI x2), some (vR 9), some (vR 10), some (vI x5), some (vI x6), some (vI x7), some (vI x8)] [vI x8] L := rfl
set_option maxRecDepth 100000 in
theorem bn_c6_19_29 (call : QC FA) (x : Int32) (ls : List (Option PV)) (L : QH FA) (F : Nat) : xnG call 19 (F + 1) 38 ls [vI x] L = bif pcmp 2 x 0 then xnG call 19 F 107 ls [] L else xnG call 19 F 39 ls [] L := rfl
set_option maxRecDepth 100000 in
theorem bn_c6_19_30 (call : QC FA) (o1 : Option PV) (x2 : Int32) (x5 : Int32) (x6 : Int32) (x7 : Int32) (x8 : Int32) (L : QH FA) (F : Nat) : xnG call 19 (F + 4) 39 [some (vR (wJ W kt + 42)), o1, some (vI x2), some (vR 9), some (vR 10), some (vI x5), some (vI x6), some (vI x7), some (vI x8)] [] L = xnG call 19 F 43 [some (vR (wJ W kt + 42)), o1, some (vI x2), some (vR 9), some (vR 10), some (vI x5), some (vI x6), some (vI x7), some (vI x8)] [vI 1, vI x7, vI x5, vR 10] L := rfl
set_option maxRecDepth 100000 in
theorem bn_c6_19_31 (call : QC FA) (x y : Int32) (s0 : Int32) (ls : List (Option PV)) (L : QH FA) (F : Nat) : xnG call 19 (F + 1) 43 ls [vI y, vI x, vI s0, vR 10] L = bif pcmp 1 x y then xnG call 19 F 52 ls [vI s0, vR 10] L else xnG call 19 F 44 ls [vI s0, vR 10] L := rfl
set_option maxRecDepth 100000 in
theorem bn_c6_19_32 (call : QC FA) (o1 : Option PV) (x2 : Int32) (x5 : Int32) (x6 : Int32) (x7 : Int32) (x8 : Int32) (s0 : Int32) (L : QH FA) (F : Nat) : xnG call 19 (F + 1) 52 [some (vR (wJ W kt + 42)), o1, some (vI x2), some (vR 9), some (vR 10), some (vI x5), some (vI x6), some (vI x7), some (vI x8)] [vI s0, vR 10] L = xnG call 19 F 53 [some (vR (wJ W kt + 42)), o1, some (vI x2), some (vR 9), some (vR 10), some (vI x5), some (vI x6), some (vI x7), some (vI x8)] [vI x8, vI s0, vR 10] L := rfl
set_option maxRecDepth 100000 in
theorem bn_c6_19_33 (call : QC FA) (x y : Int32) (ls : List (Option PV)) (z : Nat → Int32) (f : Nat → FA) (F : Nat) : xnG call 19 (F + 1) 53 ls [vI y, vI x, vR 10] (LW W z f) = bif (Nat.beq 0 0 && pin x 32) then xnG call 19 F 54 ls [] (LW W z (uA f 10 (upd (f 10) (ix x) y))) else none := rfl
set_option maxRecDepth 100000 in
theorem bn_c6_19_34 (call : QC FA) (o1 : Option PV) (x2 : Int32) (x5 : Int32) (x6 : Int32) (x7 : Int32) (x8 : Int32) (L : QH FA) (F : Nat) : xnG call 19 (F + 1) 54 [some (vR (wJ W kt + 42)), o1, some (vI x2), some (vR 9), some (vR 10), some (vI x5), some (vI x6), some (vI x7), some (vI x8)] [] L = xnG call 19 F 55 [some (vR (wJ W kt + 42)), o1, some (vI x2), some (vR 9), some (vR 10), some (vI (x5 + 1)), some (vI x6), some (vI x7), some (vI x8)] [] L := rfl
set_option maxRecDepth 100000 in
theorem bn_c6_19_35 (call : QC FA) (o1 : Option PV) (x2 : Int32) (x5 : Int32) (x6 : Int32) (x7 : Int32) (x8 : Int32) (L : QH FA) (F : Nat) : xnG call 19 (F + 1) 55 [some (vR (wJ W kt + 42)), o1, some (vI x2), some (vR 9), some (vR 10), some (vI x5), some (vI x6), some (vI x7), some (vI x8)] [] L = xnG call 19 F 107 [some (vR (wJ W kt + 42)), o1, some (vI x2), some (vR 9), some (vR 10), some (vI x5), some (vI x6), some (vI x7), some (vI x8)] [] L := rfl
set_option maxRecDepth 100000 in
theorem bn_c6_19_36 (call : QC FA) (o1 : Option PV) (x2 : Int32) (x5 : Int32) (x6 : Int32) (x7 : Int32) (x8 : Int32) (s0 : Int32) (z : Nat → Int32) (f : Nat → FA) (F : Nat) : xnG call 19 (F + 3) 44 [some (vR (wJ W kt + 42)), o1, some (vI x2), some (vR 9), some (vR 10), some (vI x5), some (vI x6), some (vI x7), some (vI x8)] [vI s0, vR 10] (LW W z f) = xnG call 19 F 47 [some (vR (wJ W kt + 42)), o1, some (vI x2), some (vR 9), some (vR 10), some (vI x5), some (vI x6), some (vI x7), some (vI x8)] [vI (nI 10), vI x8, vI s0, vR 10] (LW W z f) := rfl
set_option maxRecDepth 100000 in
theorem bn_c6_19_37 (call : QC FA) (x y : Int32) (s0 : Int32) (ls : List (Option PV)) (L : QH FA) (F : Nat) : xnG call 19 (F + 1) 47 ls [vI y, vI x, vI s0, vR 10] L = bif pcmp 3 x y then xnG call 19 F 52 ls [vI s0, vR 10] L else xnG call 19 F 48 ls [vI s0, vR 10] L := rfl
set_option maxRecDepth 100000 in
theorem bn_c6_19_38 (call : QC FA) (o1 : Option PV) (x2 : Int32) (x5 : Int32) (x6 : Int32) (x7 : Int32) (x8 : Int32) (s0 : Int32) (L : QH FA) (F : Nat) : xnG call 19 (F + 2) 48 [some (vR (wJ W kt + 42)), o1, some (vI x2), some (vR 9), some (vR 10), some (vI x5), some (vI x6), some (vI x7), some (vI x8)] [vI s0, vR 10] L = xnG call 19 F 50 [some (vR (wJ W kt + 42)), o1, some (vI x2), some (vR 9), some (vR 10), some (vI x5), some (vI x6), some (vI x7), some (vI x8)] [vI x8, vR 9, vI s0, vR 10] L := rfl
set_option maxRecDepth 100000 in
theorem bn_c6_19_39 (call : QC FA) (x : Int32) (s0 : Int32) (ls : List (Option PV)) (z : Nat → Int32) (f : Nat → FA) (F : Nat) : xnG call 19 (F + 1) 50 ls [vI x, vR 9, vI s0, vR 10] (LW W z f) = bif (Nat.beq 0 0 && pin x 10) then xnG call 19 F 51 ls [vI (f 9 (ix x)), vI s0, vR 10] (LW W z f) else none := rfl
set_option maxRecDepth 100000 in
theorem bn_c6_19_40 (call : QC FA) (o1 : Option PV) (x2 : Int32) (x5 : Int32) (x6 : Int32) (x7 : Int32) (x8 : Int32) (s0 : Int32) (s1 : Int32) (L : QH FA) (F : Nat) : xnG call 19 (F + 1) 51 [some (vR (wJ W kt + 42)), o1, some (vI x2), some (vR 9), some (vR 10), some (vI x5), some (vI x6), some (vI x7), some (vI x8)] [vI s0, vI s1, vR 10] L = xnG call 19 F 53 [some (vR (wJ W kt + 42)), o1, some (vI x2), some (vR 9), some (vR 10), some (vI x5), some (vI x6), some (vI x7), some (vI x8)] [vI s0, vI s1, vR 10] L := rfl
set_option maxRecDepth 100000 in
theorem bn_c6_19_41 (call : QC FA) (o1 : Option PV) (x2 : Int32) (x5 : Int32) (x6 : Int32) (x7 : Int32) (x8 : Int32) (L : QH FA) (F : Nat) : xnG call 19 (F + 2) 30 [some (vR (wJ W kt + 42)), o1, some (vI x2), some (vR 9), some (vR 10), some (vI x5), some (vI x6), some (vI x7), some (vI x8)] [] L = xnG call 19 F 32 [some (vR (wJ W kt + 42)), o1, some (vI x2), some (vR 9), some (vR 10), some (vI x5), some (vI x6), some (vI x7), some (vI x8)] [vI 1, vI x7] L := rfl
set_option maxRecDepth 100000 in
theorem bn_c6_19_42 (call : QC FA) (x y : Int32) (ls : List (Option PV)) (L : QH FA) (F : Nat) : xnG call 19 (F + 1) 32 ls [vI y, vI x] L = bif pcmp 1 x y then xnG call 19 F 56 ls [] L else xnG call 19 F 33 ls [] L := rfl
set_option maxRecDepth 100000 in
theorem bn_c6_19_43 (call : QC FA) (o1 : Option PV) (x2 : Int32) (x5 : Int32) (x6 : Int32) (x7 : Int32) (x8 : Int32) (L : QH FA) (F : Nat) : xnG call 19 (F + 2) 56 [some (vR (wJ W kt + 42)), o1, some (vI x2), some (vR 9), some (vR 10), some (vI x5), some (vI x6), some (vI x7), some (vI x8)] [] L = xnG call 19 F 58 [some (vR (wJ W kt + 42)), o1, some (vI x2), some (vR 9), some (vR 10), some (vI x5), some (vI x6), some (vI x7), some (vI x8)] [vI 2, vI x7] L := rfl
set_option maxRecDepth 100000 in
theorem bn_c6_19_44 (call : QC FA) (x y : Int32) (ls : List (Option PV)) (L : QH FA) (F : Nat) : xnG call 19 (F + 1) 58 ls [vI y, vI x] L = bif pcmp 0 x y then xnG call 19 F 62 ls [] L else xnG call 19 F 59 ls [] L := rfl
set_option maxRecDepth 100000 in
theorem bn_c6_19_45 (call : QC FA) (o1 : Option PV) (x2 : Int32) (x5 : Int32) (x6 : Int32) (x7 : Int32) (x8 : Int32) (L : QH FA) (F : Nat) : xnG call 19 (F + 1) 62 [some (vR (wJ W kt + 42)), o1, some (vI x2), some (vR 9), some (vR 10), some (vI x5), some (vI x6), some (vI x7), some (vI x8)] [] L = xnG call 19 F 63 [some (vR (wJ W kt + 42)), o1, some (vI x2), some (vR 9), some (vR 10), some (vI x5), some (vI x6), some (vI x7), some (vI x8)] [vI x5] L := rfl
set_option maxRecDepth 100000 in
theorem bn_c6_19_46 (call : QC FA) (x : Int32) (ls : List (Option PV)) (L : QH FA) (F : Nat) : xnG call 19 (F + 1) 63 ls [vI x] L = bif pcmp 5 x 0 then xnG call 19 F 107 ls [] L else xnG call 19 F 64 ls [] L := rfl
set_option maxRecDepth 100000 in
theorem bn_c6_19_47 (call : QC FA) (o1 : Option PV) (x2 : Int32) (x5 : Int32) (x6 : Int32) (x7 : Int32) (x8 : Int32) (L : QH FA) (F : Nat) : xnG call 19 (F + 6) 64 [some (vR (wJ W kt + 42)), o1, some (vI x2), some (vR 9), some (vR 10), some (vI x5), some (vI x6), some (vI x7), some (vI x8)] [] L = xnG call 19 F 70 [some (vR (wJ W kt + 42)), o1, some (vI x2), some (vR 9), some (vR 10), some (vI x5), some (vI x6), some (vI x7), some (vI x8)] [vI 3, vI x7, vI (x5 - 1), vR 10] L := rfl
set_option maxRecDepth 100000 in
theorem bn_c6_19_48 (call : QC FA) (x y : Int32) (s0 : Int32) (ls : List (Option PV)) (L : QH FA) (F : Nat) : xnG call 19 (F + 1) 70 ls [vI y, vI x, vI s0, vR 10] L = bif pcmp 1 x y then xnG call 19 F 79 ls [vI s0, vR 10] L else xnG call 19 F 71 ls [vI s0, vR 10] L := rfl
set_option maxRecDepth 100000 in
theorem bn_c6_19_49 (call : QC FA) (o1 : Option PV) (x2 : Int32) (x5 : Int32) (x6 : Int32) (x7 : Int32) (x8 : Int32) (s0 : Int32) (L : QH FA) (F : Nat) : xnG call 19 (F + 4) 79 [some (vR (wJ W kt + 42)), o1, some (vI x2), some (vR 9), some (vR 10), some (vI x5), some (vI x6), some (vI x7), some (vI x8)] [vI s0, vR 10] L = xnG call 19 F 83 [some (vR (wJ W kt + 42)), o1, some (vI x2), some (vR 9), some (vR 10), some (vI x5), some (vI x6), some (vI x7), some (vI x8)] [vI (x5 - 1), vR 10, vI s0, vR 10] L := rfl
set_option maxRecDepth 100000 in
theorem bn_c6_19_50 (call : QC FA) (x : Int32) (s0 : Int32) (ls : List (Option PV)) (z : Nat → Int32) (f : Nat → FA) (F : Nat) : xnG call 19 (F + 1) 83 ls [vI x, vR 10, vI s0, vR 10] (LW W z f) = bif (Nat.beq 0 0 && pin x 32) then xnG call 19 F 84 ls [vI (f 10 (ix x)), vI s0, vR 10] (LW W z f) else none := rfl
set_option maxRecDepth 100000 in
theorem bn_c6_19_51 (call : QC FA) (o1 : Option PV) (x2 : Int32) (x5 : Int32) (x6 : Int32) (x7 : Int32) (x8 : Int32) (s0 : Int32) (s1 : Int32) (L : QH FA) (F : Nat) : xnG call 19 (F + 1) 84 [some (vR (wJ W kt + 42)), o1, some (vI x2), some (vR 9), some (vR 10), some (vI x5), some (vI x6), some (vI x7), some (vI x8)] [vI s0, vI s1, vR 10] L = xnG call 19 F 85 [some (vR (wJ W kt + 42)), o1, some (vI x2), some (vR 9), some (vR 10), some (vI x5), some (vI x6), some (vI x7), some (vI x8)] [vI x8, vI s0, vI s1, vR 10] L := rfl
set_option maxRecDepth 100000 in
theorem bn_c6_19_52 (call : QC FA) (a0 : Int32) (a1 : Int32) (s0 : Int32) (ls : List (Option PV)) (z : Nat → Int32) (f : Nat → FA) (F : Nat) : xnG call 19 (F + 1) 85 ls [vI a1, vI a0, vI s0, vR 10] (LW W z f) = cbd (call 20 [vI a0, vI a1] (LW W z f)) (fun r L' => xnG call 19 F 86 ls (r.toList ++ [vI s0, vR 10]) L') := pcZ (ih := xnG call 19 F) (call := call) (a := 20) (b := 2) (t := 86) (ls := ls) (As := [vI a0, vI a1]) (st' := [vI s0, vR 10]) (L := LW W z f) rfl rfl
set_option maxRecDepth 100000 in
theorem bn_c6_19_53 (call : QC FA) (x y : Int32) (ls : List (Option PV)) (z : Nat → Int32) (f : Nat → FA) (F : Nat) : xnG call 19 (F + 1) 86 ls [vI y, vI x, vR 10] (LW W z f) = bif (Nat.beq 0 0 && pin x 32) then xnG call 19 F 87 ls [] (LW W z (uA f 10 (upd (f 10) (ix x) y))) else none := rfl
set_option maxRecDepth 100000 in
theorem bn_c6_19_54 (call : QC FA) (o1 : Option PV) (x2 : Int32) (x5 : Int32) (x6 : Int32) (x7 : Int32) (x8 : Int32) (L : QH FA) (F : Nat) : xnG call 19 (F + 1) 87 [some (vR (wJ W kt + 42)), o1, some (vI x2), some (vR 9), some (vR 10), some (vI x5), some (vI x6), some (vI x7), some (vI x8)] [] L = xnG call 19 F 107 [some (vR (wJ W kt + 42)), o1, some (vI x2), some (vR 9), some (vR 10), some (vI x5), some (vI x6), some (vI x7), some (vI x8)] [] L := rfl
set_option maxRecDepth 100000 in
theorem bn_c6_19_55 (call : QC FA) (o1 : Option PV) (x2 : Int32) (x5 : Int32) (x6 : Int32) (x7 : Int32) (x8 : Int32) (s0 : Int32) (L : QH FA) (F : Nat) : xnG call 19 (F + 5) 71 [some (vR (wJ W kt + 42)), o1, some (vI x2), some (vR 9), some (vR 10), some (vI x5), some (vI x6), some (vI x7), some (vI x8)] [vI s0, vR 10] L = xnG call 19 F 76 [some (vR (wJ W kt + 42)), o1, some (vI x2), some (vR 9), some (vR 10), some (vI x5), some (vI x6), some (vI x7), some (vI x8)] [vI (x5 - 1), vR 10, vI 1, vI s0, vR 10] L := rfl
set_option maxRecDepth 100000 in
theorem bn_c6_19_56 (call : QC FA) (x : Int32) (s0 : Int32) (s1 : Int32) (ls : List (Option PV)) (z : Nat → Int32) (f : Nat → FA) (F : Nat) : xnG call 19 (F + 1) 76 ls [vI x, vR 10, vI s0, vI s1, vR 10] (LW W z f) = bif (Nat.beq 0 0 && pin x 32) then xnG call 19 F 77 ls [vI (f 10 (ix x)), vI s0, vI s1, vR 10] (LW W z f) else none := rfl
set_option maxRecDepth 100000 in
theorem bn_c6_19_57 (call : QC FA) (o1 : Option PV) (x2 : Int32) (x5 : Int32) (x6 : Int32) (x7 : Int32) (x8 : Int32) (s0 : Int32) (s1 : Int32) (s2 : Int32) (L : QH FA) (F : Nat) : xnG call 19 (F + 2) 77 [some (vR (wJ W kt + 42)), o1, some (vI x2), some (vR 9), some (vR 10), some (vI x5), some (vI x6), some (vI x7), some (vI x8)] [vI s0, vI s1, vI s2, vR 10] L = xnG call 19 F 86 [some (vR (wJ W kt + 42)), o1, some (vI x2), some (vR 9), some (vR 10), some (vI x5), some (vI x6), some (vI x7), some (vI x8)] [vI (s1 - s0), vI s2, vR 10] L := rfl
set_option maxRecDepth 100000 in
theorem bn_c6_19_58 (call : QC FA) (o1 : Option PV) (x2 : Int32) (x5 : Int32) (x6 : Int32) (x7 : Int32) (x8 : Int32) (L : QH FA) (F : Nat) : xnG call 19 (F + 2) 59 [some (vR (wJ W kt + 42)), o1, some (vI x2), some (vR 9), some (vR 10), some (vI x5), some (vI x6), some (vI x7), some (vI x8)] [] L = xnG call 19 F 61 [some (vR (wJ W kt + 42)), o1, some (vI x2), some (vR 9), some (vR 10), some (vI x5), some (vI x6), some (vI x7), some (vI x8)] [vI 3, vI x7] L := rfl
set_option maxRecDepth 100000 in
theorem bn_c6_19_59 (call : QC FA) (x y : Int32) (ls : List (Option PV)) (L : QH FA) (F : Nat) : xnG call 19 (F + 1) 61 ls [vI y, vI x] L = bif pcmp 1 x y then xnG call 19 F 88 ls [] L else xnG call 19 F 62 ls [] L := rfl
set_option maxRecDepth 100000 in
theorem bn_c6_19_60 (call : QC FA) (o1 : Option PV) (x2 : Int32) (x5 : Int32) (x6 : Int32) (x7 : Int32) (x8 : Int32) (L : QH FA) (F : Nat) : xnG call 19 (F + 2) 88 [some (vR (wJ W kt + 42)), o1, some (vI x2), some (vR 9), some (vR 10), some (vI x5), some (vI x6), some (vI x7), some (vI x8)] [] L = xnG call 19 F 90 [some (vR (wJ W kt + 42)), o1, some (vI x2), some (vR 9), some (vR 10), some (vI x5), some (vI x6), some (vI x7), some (vI x8)] [vI 1, vI x5] L := rfl
set_option maxRecDepth 100000 in
theorem bn_c6_19_61 (call : QC FA) (x y : Int32) (ls : List (Option PV)) (L : QH FA) (F : Nat) : xnG call 19 (F + 1) 90 ls [vI y, vI x] L = bif pcmp 5 x y then xnG call 19 F 107 ls [] L else xnG call 19 F 91 ls [] L := rfl
theorem bn_c6_19_62i (ih : QK FA) (t : Nat) (v x : Int32) (l0 l1 l2 l3 l4 l6 l7 l8 : Option PV) (st : List PV) (L : QH FA) : p_iinc ih fzF 5 v t [l0, l1, l2, l3, l4, some (vI x), l6, l7, l8] st L = ih t [l0, l1, l2, l3, l4, some (vI (x + v)), l6, l7, l8] st L := rfl
set_option maxRecDepth 100000 in
theorem bn_c6_19_62 (call : QC FA) (o1 : Option PV) (x2 : Int32) (x5 : Int32) (x6 : Int32) (x7 : Int32) (x8 : Int32) (L : QH FA) (F : Nat) : xnG call 19 (F + 1) 91 [some (vR (wJ W kt + 42)), o1, some (vI x2), some (vR 9), some (vR 10), some (vI x5), some (vI x6), some (vI x7), some (vI x8)] [] L = xnG call 19 F 92 [some (vR (wJ W kt + 42)), o1, some (vI x2), some (vR 9), some (vR 10), some (vI (x5 + (-1))), some (vI x6), some (vI x7), some (vI x8)] [] L := bn_c6_19_62i (xnG call 19 F) 92 (-1) x5 _ _ _ _ _ _ _ _ _ _
set_option maxRecDepth 100000 in
theorem bn_c6_19_63 (call : QC FA) (o1 : Option PV) (x2 : Int32) (x5 : Int32) (x6 : Int32) (x7 : Int32) (x8 : Int32) (L : QH FA) (F : Nat) : xnG call 19 (F + 9) 92 [some (vR (wJ W kt + 42)), o1, some (vI x2), some (vR 9), some (vR 10), some (vI x5), some (vI x6), some (vI x7), some (vI x8)] [] L = xnG call 19 F 101 [some (vR (wJ W kt + 42)), o1, some (vI x2), some (vR 9), some (vR 10), some (vI x5), some (vI x6), some (vI x7), some (vI x8)] [vI (x5 - 1), vR 10, vI x7, vI (x5 - 1), vR 10] L := rfl
set_option maxRecDepth 100000 in
theorem bn_c6_19_64 (call : QC FA) (x : Int32) (s0 : Int32) (s1 : Int32) (ls : List (Option PV)) (z : Nat → Int32) (f : Nat → FA) (F : Nat) : xnG call 19 (F + 1) 101 ls [vI x, vR 10, vI s0, vI s1, vR 10] (LW W z f) = bif (Nat.beq 0 0 && pin x 32) then xnG call 19 F 102 ls [vI (f 10 (ix x)), vI s0, vI s1, vR 10] (LW W z f) else none := rfl
set_option maxRecDepth 100000 in
theorem bn_c6_19_65 (call : QC FA) (o1 : Option PV) (x2 : Int32) (x5 : Int32) (x6 : Int32) (x7 : Int32) (x8 : Int32) (s0 : Int32) (s1 : Int32) (s2 : Int32) (L : QH FA) (F : Nat) : xnG call 19 (F + 2) 102 [some (vR (wJ W kt + 42)), o1, some (vI x2), some (vR 9), some (vR 10), some (vI x5), some (vI x6), some (vI x7), some (vI x8)] [vI s0, vI s1, vI s2, vR 10] L = xnG call 19 F 104 [some (vR (wJ W kt + 42)), o1, some (vI x2), some (vR 9), some (vR 10), some (vI x5), some (vI x6), some (vI x7), some (vI x8)] [vI x5, vR 10, vI s0, vI s1, vI s2, vR 10] L := rfl
set_option maxRecDepth 100000 in
theorem bn_c6_19_66 (call : QC FA) (x : Int32) (s0 : Int32) (s1 : Int32) (s2 : Int32) (ls : List (Option PV)) (z : Nat → Int32) (f : Nat → FA) (F : Nat) : xnG call 19 (F + 1) 104 ls [vI x, vR 10, vI s0, vI s1, vI s2, vR 10] (LW W z f) = bif (Nat.beq 0 0 && pin x 32) then xnG call 19 F 105 ls [vI (f 10 (ix x)), vI s0, vI s1, vI s2, vR 10] (LW W z f) else none := rfl
set_option maxRecDepth 100000 in
theorem bn_c6_19_67 (call : QC FA) (a0 : Int32) (a1 : Int32) (a2 : Int32) (s0 : Int32) (ls : List (Option PV)) (z : Nat → Int32) (f : Nat → FA) (F : Nat) : xnG call 19 (F + 1) 105 ls [vI a2, vI a1, vI a0, vI s0, vR 10] (LW W z f) = cbd (call 21 [vI a0, vI a1, vI a2] (LW W z f)) (fun r L' => xnG call 19 F 106 ls (r.toList ++ [vI s0, vR 10]) L') := pcZ (ih := xnG call 19 F) (call := call) (a := 21) (b := 3) (t := 106) (ls := ls) (As := [vI a0, vI a1, vI a2]) (st' := [vI s0, vR 10]) (L := LW W z f) rfl rfl
set_option maxRecDepth 100000 in
theorem bn_c6_19_68 (call : QC FA) (x y : Int32) (ls : List (Option PV)) (z : Nat → Int32) (f : Nat → FA) (F : Nat) : xnG call 19 (F + 1) 106 ls [vI y, vI x, vR 10] (LW W z f) = bif (Nat.beq 0 0 && pin x 32) then xnG call 19 F 107 ls [] (LW W z (uA f 10 (upd (f 10) (ix x) y))) else none := rfl
theorem vcn_c6_19_6 (hW : WTX W) (hk : kt < 4) (call : QC FA) (o1 : Option PV) (x2 : Int32) (x5 : Int32) (x6 : Int32) (o7 : Option PV) (o8 : Option PV) (z : Nat → Int32) (f : Nat → FA) (res : Option PV × QH FA) (H : ((I x2 ≤ I x6 → ((I x5 ≤ 0 → res = (some (vI 0), LW W z f)) ∧ (0 < I x5 → (pin 0 32 = true ∧ res = (some (vI (f 10 (ix 0))), LW W z f))))) ∧ (I x6 < I x2 → ((I (nI (wM W kt)) ≤ I x6 → ((I x5 ≤ 0 → res = (some (vI 0), LW W z f)) ∧ (0 < I x5 → (pin 0 32 = true ∧ res = (some (vI (f 10 (ix 0))), LW W z f))))) ∧ (I x6 < I (nI (wM W kt)) → (pin x6 (wM W kt) = true ∧ (pin x6 (wM W kt) = true ∧ (((wh W kt (ix x6)) &&& 15 = 0 → ((I (nI 32) ≤ I x5 → XC call (mP 19) 6 [some (vR (wJ W kt + 42)), o1, some (vI x2), some (vR 9), some (vR 10), some (vI x5), some (vI (x6 + 1)), some (vI ((wh W kt (ix x6)) &&& 15)), some (vI ((wh W kt (ix x6)) >>> (4 &&& 31)))] [] (LW W z f) res) ∧ (I x5 < I (nI 32) → ((I ((wh W kt (ix x6)) >>> (4 &&& 31)) < 0 → XC call (mP 19) 6 [some (vR (wJ W kt + 42)), o1, some (vI x2), some (vR 9), some (vR 10), some (vI x5), some (vI (x6 + 1)), some (vI ((wh W kt (ix x6)) &&& 15)), some (vI ((wh W kt (ix x6)) >>> (4 &&& 31)))] [] (LW W z f) res) ∧ (0 ≤ I ((wh W kt (ix x6)) >>> (4 &&& 31)) → ((¬ (wh W kt (ix x6)) &&& 15 = 1 → (pin x5 32 = true ∧ XC call (mP 19) 6 [some (vR (wJ W kt + 42)), o1, some (vI x2), some (vR 9), some (vR 10), some (vI (x5 + 1)), some (vI (x6 + 1)), some (vI ((wh W kt (ix x6)) &&& 15)), some (vI ((wh W kt (ix x6)) >>> (4 &&& 31)))] [] (LW W z (uA f 10 (upd (f 10) (ix x5) ((wh W kt (ix x6)) >>> (4 &&& 31))))) res)) ∧ ((wh W kt (ix x6)) &&& 15 = 1 → ((I (nI 10) ≤ I ((wh W kt (ix x6)) >>> (4 &&& 31)) → (pin x5 32 = true ∧ XC call (mP 19) 6 [some (vR (wJ W kt + 42)), o1, some (vI x2), some (vR 9), some (vR 10), some (vI (x5 + 1)), some (vI (x6 + 1)), some (vI ((wh W kt (ix x6)) &&& 15)), some (vI ((wh W kt (ix x6)) >>> (4 &&& 31)))] [] (LW W z (uA f 10 (upd (f 10) (ix x5) ((wh W kt (ix x6)) >>> (4 &&& 31))))) res)) ∧ (I ((wh W kt (ix x6)) >>> (4 &&& 31)) < I (nI 10) → (pin ((wh W kt (ix x6)) >>> (4 &&& 31)) 10 = true ∧ (pin x5 32 = true ∧ XC call (mP 19) 6 [some (vR (wJ W kt + 42)), o1, some (vI x2), some (vR 9), some (vR 10), some (vI (x5 + 1)), some (vI (x6 + 1)), some (vI ((wh W kt (ix x6)) &&& 15)), some (vI ((wh W kt (ix x6)) >>> (4 &&& 31)))] [] (LW W z (uA f 10 (upd (f 10) (ix x5) (f 9 (ix ((wh W kt (ix x6)) >>> (4 &&& 31))))))) res))))))))))) ∧ (¬ (wh W kt (ix x6)) &&& 15 = 0 → ((¬ (wh W kt (ix x6)) &&& 15 = 1 → (((wh W kt (ix x6)) &&& 15 = 2 → ((I x5 ≤ 0 → XC call (mP 19) 6 [some (vR (wJ W kt + 42)), o1, some (vI x2), some (vR 9), some (vR 10), some (vI x5), some (vI (x6 + 1)), some (vI ((wh W kt (ix x6)) &&& 15)), some (vI ((wh W kt (ix x6)) >>> (4 &&& 31)))] [] (LW W z f) res) ∧ (0 < I x5 → ((¬ (wh W kt (ix x6)) &&& 15 = 3 → (pin (x5 - 1) 32 = true ∧ (∃ (r1 : Int32) (z1 : Nat → Int32) (f1 : Nat → FA), call 20 [vI (f 10 (ix (x5 - 1))), vI ((wh W kt (ix x6)) >>> (4 &&& 31))] (LW W z f) = some (some (vI r1), LW W z1 f1) ∧ (pin (x5 - 1) 32 = true ∧ XC call (mP 19) 6 [some (vR (wJ W kt + 42)), o1, some (vI x2), some (vR 9), some (vR 10), some (vI x5), some (vI (x6 + 1)), some (vI ((wh W kt (ix x6)) &&& 15)), some (vI ((wh W kt (ix x6)) >>> (4 &&& 31)))] [] (LW W z1 (uA f1 10 (upd (f1 10) (ix (x5 - 1)) r1))) res)))) ∧ ((wh W kt (ix x6)) &&& 15 = 3 → (pin (x5 - 1) 32 = true ∧ (pin (x5 - 1) 32 = true ∧ XC call (mP 19) 6 [some (vR (wJ W kt + 42)), o1, some (vI x2), some (vR 9), some (vR 10), some (vI x5), some (vI (x6 + 1)), some (vI ((wh W kt (ix x6)) &&& 15)), some (vI ((wh W kt (ix x6)) >>> (4 &&& 31)))] [] (LW W z (uA f 10 (upd (f 10) (ix (x5 - 1)) (1 - (f 10 (ix (x5 - 1))))))) res))))))) ∧ (¬ (wh W kt (ix x6)) &&& 15 = 2 → ((¬ (wh W kt (ix x6)) &&& 15 = 3 → ((I x5 ≤ 1 → XC call (mP 19) 6 [some (vR (wJ W kt + 42)), o1, some (vI x2), some (vR 9), some (vR 10), some (vI x5), some (vI (x6 + 1)), some (vI ((wh W kt (ix x6)) &&& 15)), some (vI ((wh W kt (ix x6)) >>> (4 &&& 31)))] [] (LW W z f) res) ∧ (1 < I x5 → (pin ((x5 + (-1)) - 1) 32 = true ∧ (pin (x5 + (-1)) 32 = true ∧ (∃ (r2 : Int32) (z2 : Nat → Int32) (f2 : Nat → FA), call 21 [vI ((wh W kt (ix x6)) &&& 15), vI (f 10 (ix ((x5 + (-1)) - 1))), vI (f 10 (ix (x5 + (-1))))] (LW W z f) = some (some (vI r2), LW W z2 f2) ∧ (pin ((x5 + (-1)) - 1) 32 = true ∧ XC call (mP 19) 6 [some (vR (wJ W kt + 42)), o1, some (vI x2), some (vR 9), some (vR 10), some (vI (x5 + (-1))), some (vI (x6 + 1)), some (vI ((wh W kt (ix x6)) &&& 15)), some (vI ((wh W kt (ix x6)) >>> (4 &&& 31)))] [] (LW W z2 (uA f2 10 (upd (f2 10) (ix ((x5 + (-1)) - 1)) r2))) res))))))) ∧ ((wh W kt (ix x6)) &&& 15 = 3 → ((I x5 ≤ 0 → XC call (mP 19) 6 [some (vR (wJ W kt + 42)), o1, some (vI x2), some (vR 9), some (vR 10), some (vI x5), some (vI (x6 + 1)), some (vI ((wh W kt (ix x6)) &&& 15)), some (vI ((wh W kt (ix x6)) >>> (4 &&& 31)))] [] (LW W z f) res) ∧ (0 < I x5 → (pin (x5 - 1) 32 = true ∧ (pin (x5 - 1) 32 = true ∧ XC call (mP 19) 6 [some (vR (wJ W kt + 42)), o1, some (vI x2), some (vR 9), some (vR 10), some (vI x5), some (vI (x6 + 1)), some (vI ((wh W kt (ix x6)) &&& 15)), some (vI ((wh W kt (ix x6)) >>> (4 &&& 31)))] [] (LW W z (uA f 10 (upd (f 10) (ix (x5 - 1)) (1 - (f 10 (ix (x5 - 1))))))) res))))))))) ∧ ((wh W kt (ix x6)) &&& 15 = 1 → ((I (nI 32) ≤ I x5 → XC call (mP 19) 6 [some (vR (wJ W kt + 42)), o1, some (vI x2), some (vR 9), some (vR 10), some (vI x5), some (vI (x6 + 1)), some (vI ((wh W kt (ix x6)) &&& 15)), some (vI ((wh W kt (ix x6)) >>> (4 &&& 31)))] [] (LW W z f) res) ∧ (I x5 < I (nI 32) → ((I ((wh W kt (ix x6)) >>> (4 &&& 31)) < 0 → XC call (mP 19) 6 [some (vR (wJ W kt + 42)), o1, some (vI x2), some (vR 9), some (vR 10), some (vI x5), some (vI (x6 + 1)), some (vI ((wh W kt (ix x6)) &&& 15)), some (vI ((wh W kt (ix x6)) >>> (4 &&& 31)))] [] (LW W z f) res) ∧ (0 ≤ I ((wh W kt (ix x6)) >>> (4 &&& 31)) → ((I (nI 10) ≤ I ((wh W kt (ix x6)) >>> (4 &&& 31)) → (pin x5 32 = true ∧ XC call (mP 19) 6 [some (vR (wJ W kt + 42)), o1, some (vI x2), some (vR 9), some (vR 10), some (vI (x5 + 1)), some (vI (x6 + 1)), some (vI ((wh W kt (ix x6)) &&& 15)), some (vI ((wh W kt (ix x6)) >>> (4 &&& 31)))] [] (LW W z (uA f 10 (upd (f 10) (ix x5) ((wh W kt (ix x6)) >>> (4 &&& 31))))) res)) ∧ (I ((wh W kt (ix x6)) >>> (4 &&& 31)) < I (nI 10) → (pin ((wh W kt (ix x6)) >>> (4 &&& 31)) 10 = true ∧ (pin x5 32 = true ∧ XC call (mP 19) 6 [some (vR (wJ W kt + 42)), o1, some (vI x2), some (vR 9), some (vR 10), some (vI (x5 + 1)), some (vI (x6 + 1)), some (vI ((wh W kt (ix x6)) &&& 15)), some (vI ((wh W kt (ix x6)) >>> (4 &&& 31)))] [] (LW W z (uA f 10 (upd (f 10) (ix x5) (f 9 (ix ((wh W kt (ix x6)) >>> (4 &&& 31))))))) res))))))))))))))))))) : XC call (mP 19) 6 [some (vR (wJ W kt + 42)), o1, some (vI x2), some (vR 9), some (vR 10), some (vI x5), some (vI x6), o7, o8] [] (LW W z f) res := by
  refine xc_b (i' := 8) (ls' := [some (vR (wJ W kt + 42)), o1, some (vI x2), some (vR 9), some (vR 10), some (vI x5), some (vI x6), o7, o8]) (st' := [vI x2, vI x6]) (L' := LW W z f) 2 (bn_c6_19_1 call o1 x2 x5 x6 o7 o8 _) ?_
  refine xc_if (it := 109) (ie := 9) (ls' := [some (vR (wJ W kt + 42)), o1, some (vI x2), some (vR 9), some (vR 10), some (vI x5), some (vI x6), o7, o8]) (st' := []) (bn_c6_19_2 call x6 x2 _ _) (fun q1 => ?_) (fun q1 => ?_)
  · have H := H.1 (cI3t q1 rfl rfl)
    refine xc_b (i' := 110) (ls' := [some (vR (wJ W kt + 42)), o1, some (vI x2), some (vR 9), some (vR 10), some (vI x5), some (vI x6), o7, o8]) (st' := [vI x5]) (L' := LW W z f) 1 (bn_c6_19_3 call o1 x2 x5 x6 o7 o8 _) ?_
    refine xc_if (it := 115) (ie := 111) (ls' := [some (vR (wJ W kt + 42)), o1, some (vI x2), some (vR 9), some (vR 10), some (vI x5), some (vI x6), o7, o8]) (st' := []) (bn_c6_19_4 call x5 _ _) (fun q2 => ?_) (fun q2 => ?_)
    · have H := H.1 (cI5t q2 rfl rfl)
      refine xc_b (i' := 116) (ls' := [some (vR (wJ W kt + 42)), o1, some (vI x2), some (vR 9), some (vR 10), some (vI x5), some (vI x6), o7, o8]) (st' := [vI 0]) (L' := LW W z f) 1 (bn_c6_19_5 call o1 x2 x5 x6 o7 o8 _) ?_
      subst H
      exact xc_ret (bn_c6_19_6 call _ _ _)
    · have H := H.2 (cI5f q2 rfl rfl)
      refine xc_b (i' := 113) (ls' := [some (vR (wJ W kt + 42)), o1, some (vI x2), some (vR 9), some (vR 10), some (vI x5), some (vI x6), o7, o8]) (st' := [vI 0, vR 10]) (L' := LW W z f) 2 (bn_c6_19_7 call o1 x2 x5 x6 o7 o8 _) ?_
      obtain ⟨g1, H⟩ := H
      refine xc_g (i' := 114) (ls' := [some (vR (wJ W kt + 42)), o1, some (vI x2), some (vR 9), some (vR 10), some (vI x5), some (vI x6), o7, o8]) (st' := [vI (f 10 (ix 0))]) (L' := LW W z f) (bn_c6_19_8 call 0 _ z f) (pinG g1) ?_
      refine xc_b (i' := 116) (ls' := [some (vR (wJ W kt + 42)), o1, some (vI x2), some (vR 9), some (vR 10), some (vI x5), some (vI x6), o7, o8]) (st' := [vI (f 10 (ix 0))]) (L' := LW W z f) 1 (bn_c6_19_9 call o1 x2 x5 x6 o7 o8 (f 10 (ix 0)) _) ?_
      subst H
      exact xc_ret (bn_c6_19_6 call _ _ _)
  · have H := H.2 (cI3f q1 rfl rfl)
    refine xc_b (i' := 11) (ls' := [some (vR (wJ W kt + 42)), o1, some (vI x2), some (vR 9), some (vR 10), some (vI x5), some (vI x6), o7, o8]) (st' := [vR (wJ W kt + 42), vI x6]) (L' := LW W z f) 2 (bn_c6_19_10 call o1 x2 x5 x6 o7 o8 _) ?_
    refine xc_b (i' := 12) (ls' := [some (vR (wJ W kt + 42)), o1, some (vI x2), some (vR 9), some (vR 10), some (vI x5), some (vI x6), o7, o8]) (st' := [vR (wC W kt + 42), vI x6]) (L' := LW W z f) 1 (bn_c6_19_11 hW hk call x6 _ z f) ?_
    refine xc_b (i' := 13) (ls' := [some (vR (wJ W kt + 42)), o1, some (vI x2), some (vR 9), some (vR 10), some (vI x5), some (vI x6), o7, o8]) (st' := [vI (nI (wM W kt)), vI x6]) (L' := LW W z f) 1 (bn_c6_19_12 hW hk call x6 _ z f) ?_
    refine xc_if (it := 109) (ie := 14) (ls' := [some (vR (wJ W kt + 42)), o1, some (vI x2), some (vR 9), some (vR 10), some (vI x5), some (vI x6), o7, o8]) (st' := []) (bn_c6_19_13 call x6 (nI (wM W kt)) _ _) (fun q3 => ?_) (fun q3 => ?_)
    · have H := H.1 (cI3t q3 rfl rfl)
      refine xc_b (i' := 110) (ls' := [some (vR (wJ W kt + 42)), o1, some (vI x2), some (vR 9), some (vR 10), some (vI x5), some (vI x6), o7, o8]) (st' := [vI x5]) (L' := LW W z f) 1 (bn_c6_19_3 call o1 x2 x5 x6 o7 o8 _) ?_
      refine xc_if (it := 115) (ie := 111) (ls' := [some (vR (wJ W kt + 42)), o1, some (vI x2), some (vR 9), some (vR 10), some (vI x5), some (vI x6), o7, o8]) (st' := []) (bn_c6_19_4 call x5 _ _) (fun q4 => ?_) (fun q4 => ?_)
      · have H := H.1 (cI5t q4 rfl rfl)
        refine xc_b (i' := 116) (ls' := [some (vR (wJ W kt + 42)), o1, some (vI x2), some (vR 9), some (vR 10), some (vI x5), some (vI x6), o7, o8]) (st' := [vI 0]) (L' := LW W z f) 1 (bn_c6_19_5 call o1 x2 x5 x6 o7 o8 _) ?_
        subst H
        exact xc_ret (bn_c6_19_6 call _ _ _)
      · have H := H.2 (cI5f q4 rfl rfl)
        refine xc_b (i' := 113) (ls' := [some (vR (wJ W kt + 42)), o1, some (vI x2), some (vR 9), some (vR 10), some (vI x5), some (vI x6), o7, o8]) (st' := [vI 0, vR 10]) (L' := LW W z f) 2 (bn_c6_19_7 call o1 x2 x5 x6 o7 o8 _) ?_
        obtain ⟨g1, H⟩ := H
        refine xc_g (i' := 114) (ls' := [some (vR (wJ W kt + 42)), o1, some (vI x2), some (vR 9), some (vR 10), some (vI x5), some (vI x6), o7, o8]) (st' := [vI (f 10 (ix 0))]) (L' := LW W z f) (bn_c6_19_8 call 0 _ z f) (pinG g1) ?_
        refine xc_b (i' := 116) (ls' := [some (vR (wJ W kt + 42)), o1, some (vI x2), some (vR 9), some (vR 10), some (vI x5), some (vI x6), o7, o8]) (st' := [vI (f 10 (ix 0))]) (L' := LW W z f) 1 (bn_c6_19_9 call o1 x2 x5 x6 o7 o8 (f 10 (ix 0)) _) ?_
        subst H
        exact xc_ret (bn_c6_19_6 call _ _ _)
    · have H := H.2 (cI3f q3 rfl rfl)
      refine xc_b (i' := 15) (ls' := [some (vR (wJ W kt + 42)), o1, some (vI x2), some (vR 9), some (vR 10), some (vI x5), some (vI x6), o7, o8]) (st' := [vR (wJ W kt + 42)]) (L' := LW W z f) 1 (bn_c6_19_14 call o1 x2 x5 x6 o7 o8 _) ?_
      refine xc_b (i' := 16) (ls' := [some (vR (wJ W kt + 42)), o1, some (vI x2), some (vR 9), some (vR 10), some (vI x5), some (vI x6), o7, o8]) (st' := [vR (wC W kt + 42)]) (L' := LW W z f) 1 (bn_c6_19_15 hW hk call _ z f) ?_
      refine xc_b (i' := 17) (ls' := [some (vR (wJ W kt + 42)), o1, some (vI x2), some (vR 9), some (vR 10), some (vI x5), some (vI x6), o7, o8]) (st' := [vI x6, vR (wC W kt + 42)]) (L' := LW W z f) 1 (bn_c6_19_16 call o1 x2 x5 x6 o7 o8 _) ?_
      obtain ⟨g1, H⟩ := H
      refine xc_g (i' := 18) (ls' := [some (vR (wJ W kt + 42)), o1, some (vI x2), some (vR 9), some (vR 10), some (vI x5), some (vI x6), o7, o8]) (st' := [vI (wh W kt (ix x6))]) (L' := LW W z f) (bn_c6_19_17 hW hk call x6 _ z f) g1 ?_
      refine xc_b (i' := 22) (ls' := [some (vR (wJ W kt + 42)), o1, some (vI x2), some (vR 9), some (vR 10), some (vI x5), some (vI x6), some (vI ((wh W kt (ix x6)) &&& 15)), o8]) (st' := [vR (wJ W kt + 42)]) (L' := LW W z f) 4 (bn_c6_19_18 call o1 x2 x5 x6 o7 o8 (wh W kt (ix x6)) _) ?_
      refine xc_b (i' := 23) (ls' := [some (vR (wJ W kt + 42)), o1, some (vI x2), some (vR 9), some (vR 10), some (vI x5), some (vI x6), some (vI ((wh W kt (ix x6)) &&& 15)), o8]) (st' := [vR (wC W kt + 42)]) (L' := LW W z f) 1 (bn_c6_19_19 hW hk call _ z f) ?_
      refine xc_b (i' := 24) (ls' := [some (vR (wJ W kt + 42)), o1, some (vI x2), some (vR 9), some (vR 10), some (vI x5), some (vI x6), some (vI ((wh W kt (ix x6)) &&& 15)), o8]) (st' := [vI x6, vR (wC W kt + 42)]) (L' := LW W z f) 1 (bn_c6_19_20 call o1 x2 x5 x6 ((wh W kt (ix x6)) &&& 15) o8 _) ?_
      obtain ⟨g1, H⟩ := H
      refine xc_g (i' := 25) (ls' := [some (vR (wJ W kt + 42)), o1, some (vI x2), some (vR 9), some (vR 10), some (vI x5), some (vI x6), some (vI ((wh W kt (ix x6)) &&& 15)), o8]) (st' := [vI (wh W kt (ix x6))]) (L' := LW W z f) (bn_c6_19_21 hW hk call x6 _ z f) g1 ?_
      refine xc_b (i' := 29) (ls' := [some (vR (wJ W kt + 42)), o1, some (vI x2), some (vR 9), some (vR 10), some (vI x5), some (vI x6), some (vI ((wh W kt (ix x6)) &&& 15)), some (vI ((wh W kt (ix x6)) >>> (4 &&& 31)))]) (st' := [vI ((wh W kt (ix x6)) &&& 15)]) (L' := LW W z f) 4 (bn_c6_19_22 call o1 x2 x5 x6 ((wh W kt (ix x6)) &&& 15) o8 (wh W kt (ix x6)) _) ?_
      refine xc_if (it := 33) (ie := 30) (ls' := [some (vR (wJ W kt + 42)), o1, some (vI x2), some (vR 9), some (vR 10), some (vI x5), some (vI x6), some (vI ((wh W kt (ix x6)) &&& 15)), some (vI ((wh W kt (ix x6)) >>> (4 &&& 31)))]) (st' := []) (bn_c6_19_23 call ((wh W kt (ix x6)) &&& 15) _ _) (fun q5 => ?_) (fun q5 => ?_)
      · have H := H.1 (cI0t q5)
        refine xc_b (i' := 36) (ls' := [some (vR (wJ W kt + 42)), o1, some (vI x2), some (vR 9), some (vR 10), some (vI x5), some (vI x6), some (vI ((wh W kt (ix x6)) &&& 15)), some (vI ((wh W kt (ix x6)) >>> (4 &&& 31)))]) (st' := [vI (nI 32), vI x5]) (L' := LW W z f) 3 (bn_c6_19_24 call o1 x2 x5 x6 ((wh W kt (ix x6)) &&& 15) ((wh W kt (ix x6)) >>> (4 &&& 31)) z f) ?_
        refine xc_if (it := 107) (ie := 37) (ls' := [some (vR (wJ W kt + 42)), o1, some (vI x2), some (vR 9), some (vR 10), some (vI x5), some (vI x6), some (vI ((wh W kt (ix x6)) &&& 15)), some (vI ((wh W kt (ix x6)) >>> (4 &&& 31)))]) (st' := []) (bn_c6_19_25 call x5 (nI 32) _ _) (fun q6 => ?_) (fun q6 => ?_)
        · have H := H.1 (cI3t q6 rfl rfl)
          refine xc_b (i' := 108) (ls' := [some (vR (wJ W kt + 42)), o1, some (vI x2), some (vR 9), some (vR 10), some (vI x5), some (vI (x6 + 1)), some (vI ((wh W kt (ix x6)) &&& 15)), some (vI ((wh W kt (ix x6)) >>> (4 &&& 31)))]) (st' := []) (L' := LW W z f) 1 (bn_c6_19_26 call o1 x2 x5 x6 ((wh W kt (ix x6)) &&& 15) ((wh W kt (ix x6)) >>> (4 &&& 31)) _) ?_
          refine xc_b (i' := 6) (ls' := [some (vR (wJ W kt + 42)), o1, some (vI x2), some (vR 9), some (vR 10), some (vI x5), some (vI (x6 + 1)), some (vI ((wh W kt (ix x6)) &&& 15)), some (vI ((wh W kt (ix x6)) >>> (4 &&& 31)))]) (st' := []) (L' := LW W z f) 1 (bn_c6_19_27 call o1 x2 x5 (x6 + 1) ((wh W kt (ix x6)) &&& 15) ((wh W kt (ix x6)) >>> (4 &&& 31)) _) ?_
          exact H
        · have H := H.2 (cI3f q6 rfl rfl)
          refine xc_b (i' := 38) (ls' := [some (vR (wJ W kt + 42)), o1, some (vI x2), some (vR 9), some (vR 10), some (vI x5), some (vI x6), some (vI ((wh W kt (ix x6)) &&& 15)), some (vI ((wh W kt (ix x6)) >>> (4 &&& 31)))]) (st' := [vI ((wh W kt (ix x6)) >>> (4 &&& 31))]) (L' := LW W z f) 1 (bn_c6_19_28 call o1 x2 x5 x6 ((wh W kt (ix x6)) &&& 15) ((wh W kt (ix x6)) >>> (4 &&& 31)) _) ?_
          refine xc_if (it := 107) (ie := 39) (ls' := [some (vR (wJ W kt + 42)), o1, some (vI x2), some (vR 9), some (vR 10), some (vI x5), some (vI x6), some (vI ((wh W kt (ix x6)) &&& 15)), some (vI ((wh W kt (ix x6)) >>> (4 &&& 31)))]) (st' := []) (bn_c6_19_29 call ((wh W kt (ix x6)) >>> (4 &&& 31)) _ _) (fun q7 => ?_) (fun q7 => ?_)
          · have H := H.1 (cI2t q7 rfl rfl)
            refine xc_b (i' := 108) (ls' := [some (vR (wJ W kt + 42)), o1, some (vI x2), some (vR 9), some (vR 10), some (vI x5), some (vI (x6 + 1)), some (vI ((wh W kt (ix x6)) &&& 15)), some (vI ((wh W kt (ix x6)) >>> (4 &&& 31)))]) (st' := []) (L' := LW W z f) 1 (bn_c6_19_26 call o1 x2 x5 x6 ((wh W kt (ix x6)) &&& 15) ((wh W kt (ix x6)) >>> (4 &&& 31)) _) ?_
            refine xc_b (i' := 6) (ls' := [some (vR (wJ W kt + 42)), o1, some (vI x2), some (vR 9), some (vR 10), some (vI x5), some (vI (x6 + 1)), some (vI ((wh W kt (ix x6)) &&& 15)), some (vI ((wh W kt (ix x6)) >>> (4 &&& 31)))]) (st' := []) (L' := LW W z f) 1 (bn_c6_19_27 call o1 x2 x5 (x6 + 1) ((wh W kt (ix x6)) &&& 15) ((wh W kt (ix x6)) >>> (4 &&& 31)) _) ?_
            exact H
          · have H := H.2 (cI2f q7 rfl rfl)
            refine xc_b (i' := 43) (ls' := [some (vR (wJ W kt + 42)), o1, some (vI x2), some (vR 9), some (vR 10), some (vI x5), some (vI x6), some (vI ((wh W kt (ix x6)) &&& 15)), some (vI ((wh W kt (ix x6)) >>> (4 &&& 31)))]) (st' := [vI 1, vI ((wh W kt (ix x6)) &&& 15), vI x5, vR 10]) (L' := LW W z f) 4 (bn_c6_19_30 call o1 x2 x5 x6 ((wh W kt (ix x6)) &&& 15) ((wh W kt (ix x6)) >>> (4 &&& 31)) _) ?_
            refine xc_if (it := 52) (ie := 44) (ls' := [some (vR (wJ W kt + 42)), o1, some (vI x2), some (vR 9), some (vR 10), some (vI x5), some (vI x6), some (vI ((wh W kt (ix x6)) &&& 15)), some (vI ((wh W kt (ix x6)) >>> (4 &&& 31)))]) (st' := [vI x5, vR 10]) (bn_c6_19_31 call ((wh W kt (ix x6)) &&& 15) 1 x5 _ _) (fun q8 => ?_) (fun q8 => ?_)
            · have H := H.1 (cI1t q8)
              refine xc_b (i' := 53) (ls' := [some (vR (wJ W kt + 42)), o1, some (vI x2), some (vR 9), some (vR 10), some (vI x5), some (vI x6), some (vI ((wh W kt (ix x6)) &&& 15)), some (vI ((wh W kt (ix x6)) >>> (4 &&& 31)))]) (st' := [vI ((wh W kt (ix x6)) >>> (4 &&& 31)), vI x5, vR 10]) (L' := LW W z f) 1 (bn_c6_19_32 call o1 x2 x5 x6 ((wh W kt (ix x6)) &&& 15) ((wh W kt (ix x6)) >>> (4 &&& 31)) x5 _) ?_
              obtain ⟨g1, H⟩ := H
              refine xc_g (i' := 54) (ls' := [some (vR (wJ W kt + 42)), o1, some (vI x2), some (vR 9), some (vR 10), some (vI x5), some (vI x6), some (vI ((wh W kt (ix x6)) &&& 15)), some (vI ((wh W kt (ix x6)) >>> (4 &&& 31)))]) (st' := []) (L' := LW W z (uA f 10 (upd (f 10) (ix x5) ((wh W kt (ix x6)) >>> (4 &&& 31))))) (bn_c6_19_33 call x5 ((wh W kt (ix x6)) >>> (4 &&& 31)) _ z f) (pinG g1) ?_
              refine xc_b (i' := 55) (ls' := [some (vR (wJ W kt + 42)), o1, some (vI x2), some (vR 9), some (vR 10), some (vI (x5 + 1)), some (vI x6), some (vI ((wh W kt (ix x6)) &&& 15)), some (vI ((wh W kt (ix x6)) >>> (4 &&& 31)))]) (st' := []) (L' := LW W z (uA f 10 (upd (f 10) (ix x5) ((wh W kt (ix x6)) >>> (4 &&& 31))))) 1 (bn_c6_19_34 call o1 x2 x5 x6 ((wh W kt (ix x6)) &&& 15) ((wh W kt (ix x6)) >>> (4 &&& 31)) _) ?_
              refine xc_b (i' := 107) (ls' := [some (vR (wJ W kt + 42)), o1, some (vI x2), some (vR 9), some (vR 10), some (vI (x5 + 1)), some (vI x6), some (vI ((wh W kt (ix x6)) &&& 15)), some (vI ((wh W kt (ix x6)) >>> (4 &&& 31)))]) (st' := []) (L' := LW W z (uA f 10 (upd (f 10) (ix x5) ((wh W kt (ix x6)) >>> (4 &&& 31))))) 1 (bn_c6_19_35 call o1 x2 (x5 + 1) x6 ((wh W kt (ix x6)) &&& 15) ((wh W kt (ix x6)) >>> (4 &&& 31)) _) ?_
              refine xc_b (i' := 108) (ls' := [some (vR (wJ W kt + 42)), o1, some (vI x2), some (vR 9), some (vR 10), some (vI (x5 + 1)), some (vI (x6 + 1)), some (vI ((wh W kt (ix x6)) &&& 15)), some (vI ((wh W kt (ix x6)) >>> (4 &&& 31)))]) (st' := []) (L' := LW W z (uA f 10 (upd (f 10) (ix x5) ((wh W kt (ix x6)) >>> (4 &&& 31))))) 1 (bn_c6_19_26 call o1 x2 (x5 + 1) x6 ((wh W kt (ix x6)) &&& 15) ((wh W kt (ix x6)) >>> (4 &&& 31)) _) ?_
              refine xc_b (i' := 6) (ls' := [some (vR (wJ W kt + 42)), o1, some (vI x2), some (vR 9), some (vR 10), some (vI (x5 + 1)), some (vI (x6 + 1)), some (vI ((wh W kt (ix x6)) &&& 15)), some (vI ((wh W kt (ix x6)) >>> (4 &&& 31)))]) (st' := []) (L' := LW W z (uA f 10 (upd (f 10) (ix x5) ((wh W kt (ix x6)) >>> (4 &&& 31))))) 1 (bn_c6_19_27 call o1 x2 (x5 + 1) (x6 + 1) ((wh W kt (ix x6)) &&& 15) ((wh W kt (ix x6)) >>> (4 &&& 31)) _) ?_
              exact H
            · have H := H.2 (cI1f q8)
              refine xc_b (i' := 47) (ls' := [some (vR (wJ W kt + 42)), o1, some (vI x2), some (vR 9), some (vR 10), some (vI x5), some (vI x6), some (vI ((wh W kt (ix x6)) &&& 15)), some (vI ((wh W kt (ix x6)) >>> (4 &&& 31)))]) (st' := [vI (nI 10), vI ((wh W kt (ix x6)) >>> (4 &&& 31)), vI x5, vR 10]) (L' := LW W z f) 3 (bn_c6_19_36 call o1 x2 x5 x6 ((wh W kt (ix x6)) &&& 15) ((wh W kt (ix x6)) >>> (4 &&& 31)) x5 z f) ?_
              refine xc_if (it := 52) (ie := 48) (ls' := [some (vR (wJ W kt + 42)), o1, some (vI x2), some (vR 9), some (vR 10), some (vI x5), some (vI x6), some (vI ((wh W kt (ix x6)) &&& 15)), some (vI ((wh W kt (ix x6)) >>> (4 &&& 31)))]) (st' := [vI x5, vR 10]) (bn_c6_19_37 call ((wh W kt (ix x6)) >>> (4 &&& 31)) (nI 10) x5 _ _) (fun q9 => ?_) (fun q9 => ?_)
              · have H := H.1 (cI3t q9 rfl rfl)
                refine xc_b (i' := 53) (ls' := [some (vR (wJ W kt + 42)), o1, some (vI x2), some (vR 9), some (vR 10), some (vI x5), some (vI x6), some (vI ((wh W kt (ix x6)) &&& 15)), some (vI ((wh W kt (ix x6)) >>> (4 &&& 31)))]) (st' := [vI ((wh W kt (ix x6)) >>> (4 &&& 31)), vI x5, vR 10]) (L' := LW W z f) 1 (bn_c6_19_32 call o1 x2 x5 x6 ((wh W kt (ix x6)) &&& 15) ((wh W kt (ix x6)) >>> (4 &&& 31)) x5 _) ?_
                obtain ⟨g1, H⟩ := H
                refine xc_g (i' := 54) (ls' := [some (vR (wJ W kt + 42)), o1, some (vI x2), some (vR 9), some (vR 10), some (vI x5), some (vI x6), some (vI ((wh W kt (ix x6)) &&& 15)), some (vI ((wh W kt (ix x6)) >>> (4 &&& 31)))]) (st' := []) (L' := LW W z (uA f 10 (upd (f 10) (ix x5) ((wh W kt (ix x6)) >>> (4 &&& 31))))) (bn_c6_19_33 call x5 ((wh W kt (ix x6)) >>> (4 &&& 31)) _ z f) (pinG g1) ?_
                refine xc_b (i' := 55) (ls' := [some (vR (wJ W kt + 42)), o1, some (vI x2), some (vR 9), some (vR 10), some (vI (x5 + 1)), some (vI x6), some (vI ((wh W kt (ix x6)) &&& 15)), some (vI ((wh W kt (ix x6)) >>> (4 &&& 31)))]) (st' := []) (L' := LW W z (uA f 10 (upd (f 10) (ix x5) ((wh W kt (ix x6)) >>> (4 &&& 31))))) 1 (bn_c6_19_34 call o1 x2 x5 x6 ((wh W kt (ix x6)) &&& 15) ((wh W kt (ix x6)) >>> (4 &&& 31)) _) ?_
                refine xc_b (i' := 107) (ls' := [some (vR (wJ W kt + 42)), o1, some (vI x2), some (vR 9), some (vR 10), some (vI (x5 + 1)), some (vI x6), some (vI ((wh W kt (ix x6)) &&& 15)), some (vI ((wh W kt (ix x6)) >>> (4 &&& 31)))]) (st' := []) (L' := LW W z (uA f 10 (upd (f 10) (ix x5) ((wh W kt (ix x6)) >>> (4 &&& 31))))) 1 (bn_c6_19_35 call o1 x2 (x5 + 1) x6 ((wh W kt (ix x6)) &&& 15) ((wh W kt (ix x6)) >>> (4 &&& 31)) _) ?_
                refine xc_b (i' := 108) (ls' := [some (vR (wJ W kt + 42)), o1, some (vI x2), some (vR 9), some (vR 10), some (vI (x5 + 1)), some (vI (x6 + 1)), some (vI ((wh W kt (ix x6)) &&& 15)), some (vI ((wh W kt (ix x6)) >>> (4 &&& 31)))]) (st' := []) (L' := LW W z (uA f 10 (upd (f 10) (ix x5) ((wh W kt (ix x6)) >>> (4 &&& 31))))) 1 (bn_c6_19_26 call o1 x2 (x5 + 1) x6 ((wh W kt (ix x6)) &&& 15) ((wh W kt (ix x6)) >>> (4 &&& 31)) _) ?_
                refine xc_b (i' := 6) (ls' := [some (vR (wJ W kt + 42)), o1, some (vI x2), some (vR 9), some (vR 10), some (vI (x5 + 1)), some (vI (x6 + 1)), some (vI ((wh W kt (ix x6)) &&& 15)), some (vI ((wh W kt (ix x6)) >>> (4 &&& 31)))]) (st' := []) (L' := LW W z (uA f 10 (upd (f 10) (ix x5) ((wh W kt (ix x6)) >>> (4 &&& 31))))) 1 (bn_c6_19_27 call o1 x2 (x5 + 1) (x6 + 1) ((wh W kt (ix x6)) &&& 15) ((wh W kt (ix x6)) >>> (4 &&& 31)) _) ?_
                exact H
              · have H := H.2 (cI3f q9 rfl rfl)
                refine xc_b (i' := 50) (ls' := [some (vR (wJ W kt + 42)), o1, some (vI x2), some (vR 9), some (vR 10), some (vI x5), some (vI x6), some (vI ((wh W kt (ix x6)) &&& 15)), some (vI ((wh W kt (ix x6)) >>> (4 &&& 31)))]) (st' := [vI ((wh W kt (ix x6)) >>> (4 &&& 31)), vR 9, vI x5, vR 10]) (L' := LW W z f) 2 (bn_c6_19_38 call o1 x2 x5 x6 ((wh W kt (ix x6)) &&& 15) ((wh W kt (ix x6)) >>> (4 &&& 31)) x5 _) ?_
                obtain ⟨g1, H⟩ := H
                refine xc_g (i' := 51) (ls' := [some (vR (wJ W kt + 42)), o1, some (vI x2), some (vR 9), some (vR 10), some (vI x5), some (vI x6), some (vI ((wh W kt (ix x6)) &&& 15)), some (vI ((wh W kt (ix x6)) >>> (4 &&& 31)))]) (st' := [vI (f 9 (ix ((wh W kt (ix x6)) >>> (4 &&& 31)))), vI x5, vR 10]) (L' := LW W z f) (bn_c6_19_39 call ((wh W kt (ix x6)) >>> (4 &&& 31)) x5 _ z f) (pinG g1) ?_
                refine xc_b (i' := 53) (ls' := [some (vR (wJ W kt + 42)), o1, some (vI x2), some (vR 9), some (vR 10), some (vI x5), some (vI x6), some (vI ((wh W kt (ix x6)) &&& 15)), some (vI ((wh W kt (ix x6)) >>> (4 &&& 31)))]) (st' := [vI (f 9 (ix ((wh W kt (ix x6)) >>> (4 &&& 31)))), vI x5, vR 10]) (L' := LW W z f) 1 (bn_c6_19_40 call o1 x2 x5 x6 ((wh W kt (ix x6)) &&& 15) ((wh W kt (ix x6)) >>> (4 &&& 31)) (f 9 (ix ((wh W kt (ix x6)) >>> (4 &&& 31)))) x5 _) ?_
                obtain ⟨g1, H⟩ := H
                refine xc_g (i' := 54) (ls' := [some (vR (wJ W kt + 42)), o1, some (vI x2), some (vR 9), some (vR 10), some (vI x5), some (vI x6), some (vI ((wh W kt (ix x6)) &&& 15)), some (vI ((wh W kt (ix x6)) >>> (4 &&& 31)))]) (st' := []) (L' := LW W z (uA f 10 (upd (f 10) (ix x5) (f 9 (ix ((wh W kt (ix x6)) >>> (4 &&& 31))))))) (bn_c6_19_33 call x5 (f 9 (ix ((wh W kt (ix x6)) >>> (4 &&& 31)))) _ z f) (pinG g1) ?_
                refine xc_b (i' := 55) (ls' := [some (vR (wJ W kt + 42)), o1, some (vI x2), some (vR 9), some (vR 10), some (vI (x5 + 1)), some (vI x6), some (vI ((wh W kt (ix x6)) &&& 15)), some (vI ((wh W kt (ix x6)) >>> (4 &&& 31)))]) (st' := []) (L' := LW W z (uA f 10 (upd (f 10) (ix x5) (f 9 (ix ((wh W kt (ix x6)) >>> (4 &&& 31))))))) 1 (bn_c6_19_34 call o1 x2 x5 x6 ((wh W kt (ix x6)) &&& 15) ((wh W kt (ix x6)) >>> (4 &&& 31)) _) ?_
                refine xc_b (i' := 107) (ls' := [some (vR (wJ W kt + 42)), o1, some (vI x2), some (vR 9), some (vR 10), some (vI (x5 + 1)), some (vI x6), some (vI ((wh W kt (ix x6)) &&& 15)), some (vI ((wh W kt (ix x6)) >>> (4 &&& 31)))]) (st' := []) (L' := LW W z (uA f 10 (upd (f 10) (ix x5) (f 9 (ix ((wh W kt (ix x6)) >>> (4 &&& 31))))))) 1 (bn_c6_19_35 call o1 x2 (x5 + 1) x6 ((wh W kt (ix x6)) &&& 15) ((wh W kt (ix x6)) >>> (4 &&& 31)) _) ?_
                refine xc_b (i' := 108) (ls' := [some (vR (wJ W kt + 42)), o1, some (vI x2), some (vR 9), some (vR 10), some (vI (x5 + 1)), some (vI (x6 + 1)), some (vI ((wh W kt (ix x6)) &&& 15)), some (vI ((wh W kt (ix x6)) >>> (4 &&& 31)))]) (st' := []) (L' := LW W z (uA f 10 (upd (f 10) (ix x5) (f 9 (ix ((wh W kt (ix x6)) >>> (4 &&& 31))))))) 1 (bn_c6_19_26 call o1 x2 (x5 + 1) x6 ((wh W kt (ix x6)) &&& 15) ((wh W kt (ix x6)) >>> (4 &&& 31)) _) ?_
                refine xc_b (i' := 6) (ls' := [some (vR (wJ W kt + 42)), o1, some (vI x2), some (vR 9), some (vR 10), some (vI (x5 + 1)), some (vI (x6 + 1)), some (vI ((wh W kt (ix x6)) &&& 15)), some (vI ((wh W kt (ix x6)) >>> (4 &&& 31)))]) (st' := []) (L' := LW W z (uA f 10 (upd (f 10) (ix x5) (f 9 (ix ((wh W kt (ix x6)) >>> (4 &&& 31))))))) 1 (bn_c6_19_27 call o1 x2 (x5 + 1) (x6 + 1) ((wh W kt (ix x6)) &&& 15) ((wh W kt (ix x6)) >>> (4 &&& 31)) _) ?_
                exact H
      · have H := H.2 (cI0f q5)
        refine xc_b (i' := 32) (ls' := [some (vR (wJ W kt + 42)), o1, some (vI x2), some (vR 9), some (vR 10), some (vI x5), some (vI x6), some (vI ((wh W kt (ix x6)) &&& 15)), some (vI ((wh W kt (ix x6)) >>> (4 &&& 31)))]) (st' := [vI 1, vI ((wh W kt (ix x6)) &&& 15)]) (L' := LW W z f) 2 (bn_c6_19_41 call o1 x2 x5 x6 ((wh W kt (ix x6)) &&& 15) ((wh W kt (ix x6)) >>> (4 &&& 31)) _) ?_
        refine xc_if (it := 56) (ie := 33) (ls' := [some (vR (wJ W kt + 42)), o1, some (vI x2), some (vR 9), some (vR 10), some (vI x5), some (vI x6), some (vI ((wh W kt (ix x6)) &&& 15)), some (vI ((wh W kt (ix x6)) >>> (4 &&& 31)))]) (st' := []) (bn_c6_19_42 call ((wh W kt (ix x6)) &&& 15) 1 _ _) (fun q10 => ?_) (fun q10 => ?_)
        · have H := H.1 (cI1t q10)
          refine xc_b (i' := 58) (ls' := [some (vR (wJ W kt + 42)), o1, some (vI x2), some (vR 9), some (vR 10), some (vI x5), some (vI x6), some (vI ((wh W kt (ix x6)) &&& 15)), some (vI ((wh W kt (ix x6)) >>> (4 &&& 31)))]) (st' := [vI 2, vI ((wh W kt (ix x6)) &&& 15)]) (L' := LW W z f) 2 (bn_c6_19_43 call o1 x2 x5 x6 ((wh W kt (ix x6)) &&& 15) ((wh W kt (ix x6)) >>> (4 &&& 31)) _) ?_
          refine xc_if (it := 62) (ie := 59) (ls' := [some (vR (wJ W kt + 42)), o1, some (vI x2), some (vR 9), some (vR 10), some (vI x5), some (vI x6), some (vI ((wh W kt (ix x6)) &&& 15)), some (vI ((wh W kt (ix x6)) >>> (4 &&& 31)))]) (st' := []) (bn_c6_19_44 call ((wh W kt (ix x6)) &&& 15) 2 _ _) (fun q11 => ?_) (fun q11 => ?_)
          · have H := H.1 (cI0t q11)
            refine xc_b (i' := 63) (ls' := [some (vR (wJ W kt + 42)), o1, some (vI x2), some (vR 9), some (vR 10), some (vI x5), some (vI x6), some (vI ((wh W kt (ix x6)) &&& 15)), some (vI ((wh W kt (ix x6)) >>> (4 &&& 31)))]) (st' := [vI x5]) (L' := LW W z f) 1 (bn_c6_19_45 call o1 x2 x5 x6 ((wh W kt (ix x6)) &&& 15) ((wh W kt (ix x6)) >>> (4 &&& 31)) _) ?_
            refine xc_if (it := 107) (ie := 64) (ls' := [some (vR (wJ W kt + 42)), o1, some (vI x2), some (vR 9), some (vR 10), some (vI x5), some (vI x6), some (vI ((wh W kt (ix x6)) &&& 15)), some (vI ((wh W kt (ix x6)) >>> (4 &&& 31)))]) (st' := []) (bn_c6_19_46 call x5 _ _) (fun q12 => ?_) (fun q12 => ?_)
            · have H := H.1 (cI5t q12 rfl rfl)
              refine xc_b (i' := 108) (ls' := [some (vR (wJ W kt + 42)), o1, some (vI x2), some (vR 9), some (vR 10), some (vI x5), some (vI (x6 + 1)), some (vI ((wh W kt (ix x6)) &&& 15)), some (vI ((wh W kt (ix x6)) >>> (4 &&& 31)))]) (st' := []) (L' := LW W z f) 1 (bn_c6_19_26 call o1 x2 x5 x6 ((wh W kt (ix x6)) &&& 15) ((wh W kt (ix x6)) >>> (4 &&& 31)) _) ?_
              refine xc_b (i' := 6) (ls' := [some (vR (wJ W kt + 42)), o1, some (vI x2), some (vR 9), some (vR 10), some (vI x5), some (vI (x6 + 1)), some (vI ((wh W kt (ix x6)) &&& 15)), some (vI ((wh W kt (ix x6)) >>> (4 &&& 31)))]) (st' := []) (L' := LW W z f) 1 (bn_c6_19_27 call o1 x2 x5 (x6 + 1) ((wh W kt (ix x6)) &&& 15) ((wh W kt (ix x6)) >>> (4 &&& 31)) _) ?_
              exact H
            · have H := H.2 (cI5f q12 rfl rfl)
              refine xc_b (i' := 70) (ls' := [some (vR (wJ W kt + 42)), o1, some (vI x2), some (vR 9), some (vR 10), some (vI x5), some (vI x6), some (vI ((wh W kt (ix x6)) &&& 15)), some (vI ((wh W kt (ix x6)) >>> (4 &&& 31)))]) (st' := [vI 3, vI ((wh W kt (ix x6)) &&& 15), vI (x5 - 1), vR 10]) (L' := LW W z f) 6 (bn_c6_19_47 call o1 x2 x5 x6 ((wh W kt (ix x6)) &&& 15) ((wh W kt (ix x6)) >>> (4 &&& 31)) _) ?_
              refine xc_if (it := 79) (ie := 71) (ls' := [some (vR (wJ W kt + 42)), o1, some (vI x2), some (vR 9), some (vR 10), some (vI x5), some (vI x6), some (vI ((wh W kt (ix x6)) &&& 15)), some (vI ((wh W kt (ix x6)) >>> (4 &&& 31)))]) (st' := [vI (x5 - 1), vR 10]) (bn_c6_19_48 call ((wh W kt (ix x6)) &&& 15) 3 (x5 - 1) _ _) (fun q13 => ?_) (fun q13 => ?_)
              · have H := H.1 (cI1t q13)
                refine xc_b (i' := 83) (ls' := [some (vR (wJ W kt + 42)), o1, some (vI x2), some (vR 9), some (vR 10), some (vI x5), some (vI x6), some (vI ((wh W kt (ix x6)) &&& 15)), some (vI ((wh W kt (ix x6)) >>> (4 &&& 31)))]) (st' := [vI (x5 - 1), vR 10, vI (x5 - 1), vR 10]) (L' := LW W z f) 4 (bn_c6_19_49 call o1 x2 x5 x6 ((wh W kt (ix x6)) &&& 15) ((wh W kt (ix x6)) >>> (4 &&& 31)) (x5 - 1) _) ?_
                obtain ⟨g1, H⟩ := H
                refine xc_g (i' := 84) (ls' := [some (vR (wJ W kt + 42)), o1, some (vI x2), some (vR 9), some (vR 10), some (vI x5), some (vI x6), some (vI ((wh W kt (ix x6)) &&& 15)), some (vI ((wh W kt (ix x6)) >>> (4 &&& 31)))]) (st' := [vI (f 10 (ix (x5 - 1))), vI (x5 - 1), vR 10]) (L' := LW W z f) (bn_c6_19_50 call (x5 - 1) (x5 - 1) _ z f) (pinG g1) ?_
                refine xc_b (i' := 85) (ls' := [some (vR (wJ W kt + 42)), o1, some (vI x2), some (vR 9), some (vR 10), some (vI x5), some (vI x6), some (vI ((wh W kt (ix x6)) &&& 15)), some (vI ((wh W kt (ix x6)) >>> (4 &&& 31)))]) (st' := [vI ((wh W kt (ix x6)) >>> (4 &&& 31)), vI (f 10 (ix (x5 - 1))), vI (x5 - 1), vR 10]) (L' := LW W z f) 1 (bn_c6_19_51 call o1 x2 x5 x6 ((wh W kt (ix x6)) &&& 15) ((wh W kt (ix x6)) >>> (4 &&& 31)) (f 10 (ix (x5 - 1))) (x5 - 1) _) ?_
                obtain ⟨r1, z1, f1, hc, H⟩ := H
                refine xc_call (t := 86) (ls' := [some (vR (wJ W kt + 42)), o1, some (vI x2), some (vR 9), some (vR 10), some (vI x5), some (vI x6), some (vI ((wh W kt (ix x6)) &&& 15)), some (vI ((wh W kt (ix x6)) >>> (4 &&& 31)))]) (st' := [vI (x5 - 1), vR 10]) (bn_c6_19_52 call (f 10 (ix (x5 - 1))) ((wh W kt (ix x6)) >>> (4 &&& 31)) (x5 - 1) _ z f) hc ?_
                show XC call (mP 19) 86 [some (vR (wJ W kt + 42)), o1, some (vI x2), some (vR 9), some (vR 10), some (vI x5), some (vI x6), some (vI ((wh W kt (ix x6)) &&& 15)), some (vI ((wh W kt (ix x6)) >>> (4 &&& 31)))] [vI r1, vI (x5 - 1), vR 10] (LW W z1 f1) res
                obtain ⟨g1, H⟩ := H
                refine xc_g (i' := 87) (ls' := [some (vR (wJ W kt + 42)), o1, some (vI x2), some (vR 9), some (vR 10), some (vI x5), some (vI x6), some (vI ((wh W kt (ix x6)) &&& 15)), some (vI ((wh W kt (ix x6)) >>> (4 &&& 31)))]) (st' := []) (L' := LW W z1 (uA f1 10 (upd (f1 10) (ix (x5 - 1)) r1))) (bn_c6_19_53 call (x5 - 1) r1 _ z1 f1) (pinG g1) ?_
                refine xc_b (i' := 107) (ls' := [some (vR (wJ W kt + 42)), o1, some (vI x2), some (vR 9), some (vR 10), some (vI x5), some (vI x6), some (vI ((wh W kt (ix x6)) &&& 15)), some (vI ((wh W kt (ix x6)) >>> (4 &&& 31)))]) (st' := []) (L' := LW W z1 (uA f1 10 (upd (f1 10) (ix (x5 - 1)) r1))) 1 (bn_c6_19_54 call o1 x2 x5 x6 ((wh W kt (ix x6)) &&& 15) ((wh W kt (ix x6)) >>> (4 &&& 31)) _) ?_
                refine xc_b (i' := 108) (ls' := [some (vR (wJ W kt + 42)), o1, some (vI x2), some (vR 9), some (vR 10), some (vI x5), some (vI (x6 + 1)), some (vI ((wh W kt (ix x6)) &&& 15)), some (vI ((wh W kt (ix x6)) >>> (4 &&& 31)))]) (st' := []) (L' := LW W z1 (uA f1 10 (upd (f1 10) (ix (x5 - 1)) r1))) 1 (bn_c6_19_26 call o1 x2 x5 x6 ((wh W kt (ix x6)) &&& 15) ((wh W kt (ix x6)) >>> (4 &&& 31)) _) ?_
                refine xc_b (i' := 6) (ls' := [some (vR (wJ W kt + 42)), o1, some (vI x2), some (vR 9), some (vR 10), some (vI x5), some (vI (x6 + 1)), some (vI ((wh W kt (ix x6)) &&& 15)), some (vI ((wh W kt (ix x6)) >>> (4 &&& 31)))]) (st' := []) (L' := LW W z1 (uA f1 10 (upd (f1 10) (ix (x5 - 1)) r1))) 1 (bn_c6_19_27 call o1 x2 x5 (x6 + 1) ((wh W kt (ix x6)) &&& 15) ((wh W kt (ix x6)) >>> (4 &&& 31)) _) ?_
                exact H
              · have H := H.2 (cI1f q13)
                refine xc_b (i' := 76) (ls' := [some (vR (wJ W kt + 42)), o1, some (vI x2), some (vR 9), some (vR 10), some (vI x5), some (vI x6), some (vI ((wh W kt (ix x6)) &&& 15)), some (vI ((wh W kt (ix x6)) >>> (4 &&& 31)))]) (st' := [vI (x5 - 1), vR 10, vI 1, vI (x5 - 1), vR 10]) (L' := LW W z f) 5 (bn_c6_19_55 call o1 x2 x5 x6 ((wh W kt (ix x6)) &&& 15) ((wh W kt (ix x6)) >>> (4 &&& 31)) (x5 - 1) _) ?_
                obtain ⟨g1, H⟩ := H
                refine xc_g (i' := 77) (ls' := [some (vR (wJ W kt + 42)), o1, some (vI x2), some (vR 9), some (vR 10), some (vI x5), some (vI x6), some (vI ((wh W kt (ix x6)) &&& 15)), some (vI ((wh W kt (ix x6)) >>> (4 &&& 31)))]) (st' := [vI (f 10 (ix (x5 - 1))), vI 1, vI (x5 - 1), vR 10]) (L' := LW W z f) (bn_c6_19_56 call (x5 - 1) 1 (x5 - 1) _ z f) (pinG g1) ?_
                refine xc_b (i' := 86) (ls' := [some (vR (wJ W kt + 42)), o1, some (vI x2), some (vR 9), some (vR 10), some (vI x5), some (vI x6), some (vI ((wh W kt (ix x6)) &&& 15)), some (vI ((wh W kt (ix x6)) >>> (4 &&& 31)))]) (st' := [vI (1 - (f 10 (ix (x5 - 1)))), vI (x5 - 1), vR 10]) (L' := LW W z f) 2 (bn_c6_19_57 call o1 x2 x5 x6 ((wh W kt (ix x6)) &&& 15) ((wh W kt (ix x6)) >>> (4 &&& 31)) (f 10 (ix (x5 - 1))) 1 (x5 - 1) _) ?_
                obtain ⟨g1, H⟩ := H
                refine xc_g (i' := 87) (ls' := [some (vR (wJ W kt + 42)), o1, some (vI x2), some (vR 9), some (vR 10), some (vI x5), some (vI x6), some (vI ((wh W kt (ix x6)) &&& 15)), some (vI ((wh W kt (ix x6)) >>> (4 &&& 31)))]) (st' := []) (L' := LW W z (uA f 10 (upd (f 10) (ix (x5 - 1)) (1 - (f 10 (ix (x5 - 1))))))) (bn_c6_19_53 call (x5 - 1) (1 - (f 10 (ix (x5 - 1)))) _ z f) (pinG g1) ?_
                refine xc_b (i' := 107) (ls' := [some (vR (wJ W kt + 42)), o1, some (vI x2), some (vR 9), some (vR 10), some (vI x5), some (vI x6), some (vI ((wh W kt (ix x6)) &&& 15)), some (vI ((wh W kt (ix x6)) >>> (4 &&& 31)))]) (st' := []) (L' := LW W z (uA f 10 (upd (f 10) (ix (x5 - 1)) (1 - (f 10 (ix (x5 - 1))))))) 1 (bn_c6_19_54 call o1 x2 x5 x6 ((wh W kt (ix x6)) &&& 15) ((wh W kt (ix x6)) >>> (4 &&& 31)) _) ?_
                refine xc_b (i' := 108) (ls' := [some (vR (wJ W kt + 42)), o1, some (vI x2), some (vR 9), some (vR 10), some (vI x5), some (vI (x6 + 1)), some (vI ((wh W kt (ix x6)) &&& 15)), some (vI ((wh W kt (ix x6)) >>> (4 &&& 31)))]) (st' := []) (L' := LW W z (uA f 10 (upd (f 10) (ix (x5 - 1)) (1 - (f 10 (ix (x5 - 1))))))) 1 (bn_c6_19_26 call o1 x2 x5 x6 ((wh W kt (ix x6)) &&& 15) ((wh W kt (ix x6)) >>> (4 &&& 31)) _) ?_
                refine xc_b (i' := 6) (ls' := [some (vR (wJ W kt + 42)), o1, some (vI x2), some (vR 9), some (vR 10), some (vI x5), some (vI (x6 + 1)), some (vI ((wh W kt (ix x6)) &&& 15)), some (vI ((wh W kt (ix x6)) >>> (4 &&& 31)))]) (st' := []) (L' := LW W z (uA f 10 (upd (f 10) (ix (x5 - 1)) (1 - (f 10 (ix (x5 - 1))))))) 1 (bn_c6_19_27 call o1 x2 x5 (x6 + 1) ((wh W kt (ix x6)) &&& 15) ((wh W kt (ix x6)) >>> (4 &&& 31)) _) ?_
                exact H
          · have H := H.2 (cI0f q11)
            refine xc_b (i' := 61) (ls' := [some (vR (wJ W kt + 42)), o1, some (vI x2), some (vR 9), some (vR 10), some (vI x5), some (vI x6), some (vI ((wh W kt (ix x6)) &&& 15)), some (vI ((wh W kt (ix x6)) >>> (4 &&& 31)))]) (st' := [vI 3, vI ((wh W kt (ix x6)) &&& 15)]) (L' := LW W z f) 2 (bn_c6_19_58 call o1 x2 x5 x6 ((wh W kt (ix x6)) &&& 15) ((wh W kt (ix x6)) >>> (4 &&& 31)) _) ?_
            refine xc_if (it := 88) (ie := 62) (ls' := [some (vR (wJ W kt + 42)), o1, some (vI x2), some (vR 9), some (vR 10), some (vI x5), some (vI x6), some (vI ((wh W kt (ix x6)) &&& 15)), some (vI ((wh W kt (ix x6)) >>> (4 &&& 31)))]) (st' := []) (bn_c6_19_59 call ((wh W kt (ix x6)) &&& 15) 3 _ _) (fun q14 => ?_) (fun q14 => ?_)
            · have H := H.1 (cI1t q14)
              refine xc_b (i' := 90) (ls' := [some (vR (wJ W kt + 42)), o1, some (vI x2), some (vR 9), some (vR 10), some (vI x5), some (vI x6), some (vI ((wh W kt (ix x6)) &&& 15)), some (vI ((wh W kt (ix x6)) >>> (4 &&& 31)))]) (st' := [vI 1, vI x5]) (L' := LW W z f) 2 (bn_c6_19_60 call o1 x2 x5 x6 ((wh W kt (ix x6)) &&& 15) ((wh W kt (ix x6)) >>> (4 &&& 31)) _) ?_
              refine xc_if (it := 107) (ie := 91) (ls' := [some (vR (wJ W kt + 42)), o1, some (vI x2), some (vR 9), some (vR 10), some (vI x5), some (vI x6), some (vI ((wh W kt (ix x6)) &&& 15)), some (vI ((wh W kt (ix x6)) >>> (4 &&& 31)))]) (st' := []) (bn_c6_19_61 call x5 1 _ _) (fun q15 => ?_) (fun q15 => ?_)
              · have H := H.1 (cI5t q15 rfl rfl)
                refine xc_b (i' := 108) (ls' := [some (vR (wJ W kt + 42)), o1, some (vI x2), some (vR 9), some (vR 10), some (vI x5), some (vI (x6 + 1)), some (vI ((wh W kt (ix x6)) &&& 15)), some (vI ((wh W kt (ix x6)) >>> (4 &&& 31)))]) (st' := []) (L' := LW W z f) 1 (bn_c6_19_26 call o1 x2 x5 x6 ((wh W kt (ix x6)) &&& 15) ((wh W kt (ix x6)) >>> (4 &&& 31)) _) ?_
                refine xc_b (i' := 6) (ls' := [some (vR (wJ W kt + 42)), o1, some (vI x2), some (vR 9), some (vR 10), some (vI x5), some (vI (x6 + 1)), some (vI ((wh W kt (ix x6)) &&& 15)), some (vI ((wh W kt (ix x6)) >>> (4 &&& 31)))]) (st' := []) (L' := LW W z f) 1 (bn_c6_19_27 call o1 x2 x5 (x6 + 1) ((wh W kt (ix x6)) &&& 15) ((wh W kt (ix x6)) >>> (4 &&& 31)) _) ?_
                exact H
              · have H := H.2 (cI5f q15 rfl rfl)
                refine xc_b (i' := 92) (ls' := [some (vR (wJ W kt + 42)), o1, some (vI x2), some (vR 9), some (vR 10), some (vI (x5 + (-1))), some (vI x6), some (vI ((wh W kt (ix x6)) &&& 15)), some (vI ((wh W kt (ix x6)) >>> (4 &&& 31)))]) (st' := []) (L' := LW W z f) 1 (bn_c6_19_62 call o1 x2 x5 x6 ((wh W kt (ix x6)) &&& 15) ((wh W kt (ix x6)) >>> (4 &&& 31)) _) ?_
                refine xc_b (i' := 101) (ls' := [some (vR (wJ W kt + 42)), o1, some (vI x2), some (vR 9), some (vR 10), some (vI (x5 + (-1))), some (vI x6), some (vI ((wh W kt (ix x6)) &&& 15)), some (vI ((wh W kt (ix x6)) >>> (4 &&& 31)))]) (st' := [vI ((x5 + (-1)) - 1), vR 10, vI ((wh W kt (ix x6)) &&& 15), vI ((x5 + (-1)) - 1), vR 10]) (L' := LW W z f) 9 (bn_c6_19_63 call o1 x2 (x5 + (-1)) x6 ((wh W kt (ix x6)) &&& 15) ((wh W kt (ix x6)) >>> (4 &&& 31)) _) ?_
                obtain ⟨g1, H⟩ := H
                refine xc_g (i' := 102) (ls' := [some (vR (wJ W kt + 42)), o1, some (vI x2), some (vR 9), some (vR 10), some (vI (x5 + (-1))), some (vI x6), some (vI ((wh W kt (ix x6)) &&& 15)), some (vI ((wh W kt (ix x6)) >>> (4 &&& 31)))]) (st' := [vI (f 10 (ix ((x5 + (-1)) - 1))), vI ((wh W kt (ix x6)) &&& 15), vI ((x5 + (-1)) - 1), vR 10]) (L' := LW W z f) (bn_c6_19_64 call ((x5 + (-1)) - 1) ((wh W kt (ix x6)) &&& 15) ((x5 + (-1)) - 1) _ z f) (pinG g1) ?_
                refine xc_b (i' := 104) (ls' := [some (vR (wJ W kt + 42)), o1, some (vI x2), some (vR 9), some (vR 10), some (vI (x5 + (-1))), some (vI x6), some (vI ((wh W kt (ix x6)) &&& 15)), some (vI ((wh W kt (ix x6)) >>> (4 &&& 31)))]) (st' := [vI (x5 + (-1)), vR 10, vI (f 10 (ix ((x5 + (-1)) - 1))), vI ((wh W kt (ix x6)) &&& 15), vI ((x5 + (-1)) - 1), vR 10]) (L' := LW W z f) 2 (bn_c6_19_65 call o1 x2 (x5 + (-1)) x6 ((wh W kt (ix x6)) &&& 15) ((wh W kt (ix x6)) >>> (4 &&& 31)) (f 10 (ix ((x5 + (-1)) - 1))) ((wh W kt (ix x6)) &&& 15) ((x5 + (-1)) - 1) _) ?_
                obtain ⟨g1, H⟩ := H
                refine xc_g (i' := 105) (ls' := [some (vR (wJ W kt + 42)), o1, some (vI x2), some (vR 9), some (vR 10), some (vI (x5 + (-1))), some (vI x6), some (vI ((wh W kt (ix x6)) &&& 15)), some (vI ((wh W kt (ix x6)) >>> (4 &&& 31)))]) (st' := [vI (f 10 (ix (x5 + (-1)))), vI (f 10 (ix ((x5 + (-1)) - 1))), vI ((wh W kt (ix x6)) &&& 15), vI ((x5 + (-1)) - 1), vR 10]) (L' := LW W z f) (bn_c6_19_66 call (x5 + (-1)) (f 10 (ix ((x5 + (-1)) - 1))) ((wh W kt (ix x6)) &&& 15) ((x5 + (-1)) - 1) _ z f) (pinG g1) ?_
                obtain ⟨r2, z2, f2, hc, H⟩ := H
                refine xc_call (t := 106) (ls' := [some (vR (wJ W kt + 42)), o1, some (vI x2), some (vR 9), some (vR 10), some (vI (x5 + (-1))), some (vI x6), some (vI ((wh W kt (ix x6)) &&& 15)), some (vI ((wh W kt (ix x6)) >>> (4 &&& 31)))]) (st' := [vI ((x5 + (-1)) - 1), vR 10]) (bn_c6_19_67 call ((wh W kt (ix x6)) &&& 15) (f 10 (ix ((x5 + (-1)) - 1))) (f 10 (ix (x5 + (-1)))) ((x5 + (-1)) - 1) _ z f) hc ?_
                show XC call (mP 19) 106 [some (vR (wJ W kt + 42)), o1, some (vI x2), some (vR 9), some (vR 10), some (vI (x5 + (-1))), some (vI x6), some (vI ((wh W kt (ix x6)) &&& 15)), some (vI ((wh W kt (ix x6)) >>> (4 &&& 31)))] [vI r2, vI ((x5 + (-1)) - 1), vR 10] (LW W z2 f2) res
                obtain ⟨g1, H⟩ := H
                refine xc_g (i' := 107) (ls' := [some (vR (wJ W kt + 42)), o1, some (vI x2), some (vR 9), some (vR 10), some (vI (x5 + (-1))), some (vI x6), some (vI ((wh W kt (ix x6)) &&& 15)), some (vI ((wh W kt (ix x6)) >>> (4 &&& 31)))]) (st' := []) (L' := LW W z2 (uA f2 10 (upd (f2 10) (ix ((x5 + (-1)) - 1)) r2))) (bn_c6_19_68 call ((x5 + (-1)) - 1) r2 _ z2 f2) (pinG g1) ?_
                refine xc_b (i' := 108) (ls' := [some (vR (wJ W kt + 42)), o1, some (vI x2), some (vR 9), some (vR 10), some (vI (x5 + (-1))), some (vI (x6 + 1)), some (vI ((wh W kt (ix x6)) &&& 15)), some (vI ((wh W kt (ix x6)) >>> (4 &&& 31)))]) (st' := []) (L' := LW W z2 (uA f2 10 (upd (f2 10) (ix ((x5 + (-1)) - 1)) r2))) 1 (bn_c6_19_26 call o1 x2 (x5 + (-1)) x6 ((wh W kt (ix x6)) &&& 15) ((wh W kt (ix x6)) >>> (4 &&& 31)) _) ?_
                refine xc_b (i' := 6) (ls' := [some (vR (wJ W kt + 42)), o1, some (vI x2), some (vR 9), some (vR 10), some (vI (x5 + (-1))), some (vI (x6 + 1)), some (vI ((wh W kt (ix x6)) &&& 15)), some (vI ((wh W kt (ix x6)) >>> (4 &&& 31)))]) (st' := []) (L' := LW W z2 (uA f2 10 (upd (f2 10) (ix ((x5 + (-1)) - 1)) r2))) 1 (bn_c6_19_27 call o1 x2 (x5 + (-1)) (x6 + 1) ((wh W kt (ix x6)) &&& 15) ((wh W kt (ix x6)) >>> (4 &&& 31)) _) ?_
                exact H
            · have H := H.2 (cI1f q14)
              refine xc_b (i' := 63) (ls' := [some (vR (wJ W kt + 42)), o1, some (vI x2), some (vR 9), some (vR 10), some (vI x5), some (vI x6), some (vI ((wh W kt (ix x6)) &&& 15)), some (vI ((wh W kt (ix x6)) >>> (4 &&& 31)))]) (st' := [vI x5]) (L' := LW W z f) 1 (bn_c6_19_45 call o1 x2 x5 x6 ((wh W kt (ix x6)) &&& 15) ((wh W kt (ix x6)) >>> (4 &&& 31)) _) ?_
              refine xc_if (it := 107) (ie := 64) (ls' := [some (vR (wJ W kt + 42)), o1, some (vI x2), some (vR 9), some (vR 10), some (vI x5), some (vI x6), some (vI ((wh W kt (ix x6)) &&& 15)), some (vI ((wh W kt (ix x6)) >>> (4 &&& 31)))]) (st' := []) (bn_c6_19_46 call x5 _ _) (fun q16 => ?_) (fun q16 => ?_)
              · have H := H.1 (cI5t q16 rfl rfl)
                refine xc_b (i' := 108) (ls' := [some (vR (wJ W kt + 42)), o1, some (vI x2), some (vR 9), some (vR 10), some (vI x5), some (vI (x6 + 1)), some (vI ((wh W kt (ix x6)) &&& 15)), some (vI ((wh W kt (ix x6)) >>> (4 &&& 31)))]) (st' := []) (L' := LW W z f) 1 (bn_c6_19_26 call o1 x2 x5 x6 ((wh W kt (ix x6)) &&& 15) ((wh W kt (ix x6)) >>> (4 &&& 31)) _) ?_
                refine xc_b (i' := 6) (ls' := [some (vR (wJ W kt + 42)), o1, some (vI x2), some (vR 9), some (vR 10), some (vI x5), some (vI (x6 + 1)), some (vI ((wh W kt (ix x6)) &&& 15)), some (vI ((wh W kt (ix x6)) >>> (4 &&& 31)))]) (st' := []) (L' := LW W z f) 1 (bn_c6_19_27 call o1 x2 x5 (x6 + 1) ((wh W kt (ix x6)) &&& 15) ((wh W kt (ix x6)) >>> (4 &&& 31)) _) ?_
                exact H
              · have H := H.2 (cI5f q16 rfl rfl)
                refine xc_b (i' := 70) (ls' := [some (vR (wJ W kt + 42)), o1, some (vI x2), some (vR 9), some (vR 10), some (vI x5), some (vI x6), some (vI ((wh W kt (ix x6)) &&& 15)), some (vI ((wh W kt (ix x6)) >>> (4 &&& 31)))]) (st' := [vI 3, vI ((wh W kt (ix x6)) &&& 15), vI (x5 - 1), vR 10]) (L' := LW W z f) 6 (bn_c6_19_47 call o1 x2 x5 x6 ((wh W kt (ix x6)) &&& 15) ((wh W kt (ix x6)) >>> (4 &&& 31)) _) ?_
                refine xc_f (it := 79) (ie := 71) (ls' := [some (vR (wJ W kt + 42)), o1, some (vI x2), some (vR 9), some (vR 10), some (vI x5), some (vI x6), some (vI ((wh W kt (ix x6)) &&& 15)), some (vI ((wh W kt (ix x6)) >>> (4 &&& 31)))]) (st' := [vI (x5 - 1), vR 10]) (bn_c6_19_48 call ((wh W kt (ix x6)) &&& 15) 3 (x5 - 1) _ _) (pNf (cI1f q14)) ?_
                refine xc_b (i' := 76) (ls' := [some (vR (wJ W kt + 42)), o1, some (vI x2), some (vR 9), some (vR 10), some (vI x5), some (vI x6), some (vI ((wh W kt (ix x6)) &&& 15)), some (vI ((wh W kt (ix x6)) >>> (4 &&& 31)))]) (st' := [vI (x5 - 1), vR 10, vI 1, vI (x5 - 1), vR 10]) (L' := LW W z f) 5 (bn_c6_19_55 call o1 x2 x5 x6 ((wh W kt (ix x6)) &&& 15) ((wh W kt (ix x6)) >>> (4 &&& 31)) (x5 - 1) _) ?_
                obtain ⟨g1, H⟩ := H
                refine xc_g (i' := 77) (ls' := [some (vR (wJ W kt + 42)), o1, some (vI x2), some (vR 9), some (vR 10), some (vI x5), some (vI x6), some (vI ((wh W kt (ix x6)) &&& 15)), some (vI ((wh W kt (ix x6)) >>> (4 &&& 31)))]) (st' := [vI (f 10 (ix (x5 - 1))), vI 1, vI (x5 - 1), vR 10]) (L' := LW W z f) (bn_c6_19_56 call (x5 - 1) 1 (x5 - 1) _ z f) (pinG g1) ?_
                refine xc_b (i' := 86) (ls' := [some (vR (wJ W kt + 42)), o1, some (vI x2), some (vR 9), some (vR 10), some (vI x5), some (vI x6), some (vI ((wh W kt (ix x6)) &&& 15)), some (vI ((wh W kt (ix x6)) >>> (4 &&& 31)))]) (st' := [vI (1 - (f 10 (ix (x5 - 1)))), vI (x5 - 1), vR 10]) (L' := LW W z f) 2 (bn_c6_19_57 call o1 x2 x5 x6 ((wh W kt (ix x6)) &&& 15) ((wh W kt (ix x6)) >>> (4 &&& 31)) (f 10 (ix (x5 - 1))) 1 (x5 - 1) _) ?_
                obtain ⟨g1, H⟩ := H
                refine xc_g (i' := 87) (ls' := [some (vR (wJ W kt + 42)), o1, some (vI x2), some (vR 9), some (vR 10), some (vI x5), some (vI x6), some (vI ((wh W kt (ix x6)) &&& 15)), some (vI ((wh W kt (ix x6)) >>> (4 &&& 31)))]) (st' := []) (L' := LW W z (uA f 10 (upd (f 10) (ix (x5 - 1)) (1 - (f 10 (ix (x5 - 1))))))) (bn_c6_19_53 call (x5 - 1) (1 - (f 10 (ix (x5 - 1)))) _ z f) (pinG g1) ?_
                refine xc_b (i' := 107) (ls' := [some (vR (wJ W kt + 42)), o1, some (vI x2), some (vR 9), some (vR 10), some (vI x5), some (vI x6), some (vI ((wh W kt (ix x6)) &&& 15)), some (vI ((wh W kt (ix x6)) >>> (4 &&& 31)))]) (st' := []) (L' := LW W z (uA f 10 (upd (f 10) (ix (x5 - 1)) (1 - (f 10 (ix (x5 - 1))))))) 1 (bn_c6_19_54 call o1 x2 x5 x6 ((wh W kt (ix x6)) &&& 15) ((wh W kt (ix x6)) >>> (4 &&& 31)) _) ?_
                refine xc_b (i' := 108) (ls' := [some (vR (wJ W kt + 42)), o1, some (vI x2), some (vR 9), some (vR 10), some (vI x5), some (vI (x6 + 1)), some (vI ((wh W kt (ix x6)) &&& 15)), some (vI ((wh W kt (ix x6)) >>> (4 &&& 31)))]) (st' := []) (L' := LW W z (uA f 10 (upd (f 10) (ix (x5 - 1)) (1 - (f 10 (ix (x5 - 1))))))) 1 (bn_c6_19_26 call o1 x2 x5 x6 ((wh W kt (ix x6)) &&& 15) ((wh W kt (ix x6)) >>> (4 &&& 31)) _) ?_
                refine xc_b (i' := 6) (ls' := [some (vR (wJ W kt + 42)), o1, some (vI x2), some (vR 9), some (vR 10), some (vI x5), some (vI (x6 + 1)), some (vI ((wh W kt (ix x6)) &&& 15)), some (vI ((wh W kt (ix x6)) >>> (4 &&& 31)))]) (st' := []) (L' := LW W z (uA f 10 (upd (f 10) (ix (x5 - 1)) (1 - (f 10 (ix (x5 - 1))))))) 1 (bn_c6_19_27 call o1 x2 x5 (x6 + 1) ((wh W kt (ix x6)) &&& 15) ((wh W kt (ix x6)) >>> (4 &&& 31)) _) ?_
                exact H
        · have H := H.2 (cI1f q10)
          refine xc_b (i' := 36) (ls' := [some (vR (wJ W kt + 42)), o1, some (vI x2), some (vR 9), some (vR 10), some (vI x5), some (vI x6), some (vI ((wh W kt (ix x6)) &&& 15)), some (vI ((wh W kt (ix x6)) >>> (4 &&& 31)))]) (st' := [vI (nI 32), vI x5]) (L' := LW W z f) 3 (bn_c6_19_24 call o1 x2 x5 x6 ((wh W kt (ix x6)) &&& 15) ((wh W kt (ix x6)) >>> (4 &&& 31)) z f) ?_
          refine xc_if (it := 107) (ie := 37) (ls' := [some (vR (wJ W kt + 42)), o1, some (vI x2), some (vR 9), some (vR 10), some (vI x5), some (vI x6), some (vI ((wh W kt (ix x6)) &&& 15)), some (vI ((wh W kt (ix x6)) >>> (4 &&& 31)))]) (st' := []) (bn_c6_19_25 call x5 (nI 32) _ _) (fun q17 => ?_) (fun q17 => ?_)
          · have H := H.1 (cI3t q17 rfl rfl)
            refine xc_b (i' := 108) (ls' := [some (vR (wJ W kt + 42)), o1, some (vI x2), some (vR 9), some (vR 10), some (vI x5), some (vI (x6 + 1)), some (vI ((wh W kt (ix x6)) &&& 15)), some (vI ((wh W kt (ix x6)) >>> (4 &&& 31)))]) (st' := []) (L' := LW W z f) 1 (bn_c6_19_26 call o1 x2 x5 x6 ((wh W kt (ix x6)) &&& 15) ((wh W kt (ix x6)) >>> (4 &&& 31)) _) ?_
            refine xc_b (i' := 6) (ls' := [some (vR (wJ W kt + 42)), o1, some (vI x2), some (vR 9), some (vR 10), some (vI x5), some (vI (x6 + 1)), some (vI ((wh W kt (ix x6)) &&& 15)), some (vI ((wh W kt (ix x6)) >>> (4 &&& 31)))]) (st' := []) (L' := LW W z f) 1 (bn_c6_19_27 call o1 x2 x5 (x6 + 1) ((wh W kt (ix x6)) &&& 15) ((wh W kt (ix x6)) >>> (4 &&& 31)) _) ?_
            exact H
          · have H := H.2 (cI3f q17 rfl rfl)
            refine xc_b (i' := 38) (ls' := [some (vR (wJ W kt + 42)), o1, some (vI x2), some (vR 9), some (vR 10), some (vI x5), some (vI x6), some (vI ((wh W kt (ix x6)) &&& 15)), some (vI ((wh W kt (ix x6)) >>> (4 &&& 31)))]) (st' := [vI ((wh W kt (ix x6)) >>> (4 &&& 31))]) (L' := LW W z f) 1 (bn_c6_19_28 call o1 x2 x5 x6 ((wh W kt (ix x6)) &&& 15) ((wh W kt (ix x6)) >>> (4 &&& 31)) _) ?_
            refine xc_if (it := 107) (ie := 39) (ls' := [some (vR (wJ W kt + 42)), o1, some (vI x2), some (vR 9), some (vR 10), some (vI x5), some (vI x6), some (vI ((wh W kt (ix x6)) &&& 15)), some (vI ((wh W kt (ix x6)) >>> (4 &&& 31)))]) (st' := []) (bn_c6_19_29 call ((wh W kt (ix x6)) >>> (4 &&& 31)) _ _) (fun q18 => ?_) (fun q18 => ?_)
            · have H := H.1 (cI2t q18 rfl rfl)
              refine xc_b (i' := 108) (ls' := [some (vR (wJ W kt + 42)), o1, some (vI x2), some (vR 9), some (vR 10), some (vI x5), some (vI (x6 + 1)), some (vI ((wh W kt (ix x6)) &&& 15)), some (vI ((wh W kt (ix x6)) >>> (4 &&& 31)))]) (st' := []) (L' := LW W z f) 1 (bn_c6_19_26 call o1 x2 x5 x6 ((wh W kt (ix x6)) &&& 15) ((wh W kt (ix x6)) >>> (4 &&& 31)) _) ?_
              refine xc_b (i' := 6) (ls' := [some (vR (wJ W kt + 42)), o1, some (vI x2), some (vR 9), some (vR 10), some (vI x5), some (vI (x6 + 1)), some (vI ((wh W kt (ix x6)) &&& 15)), some (vI ((wh W kt (ix x6)) >>> (4 &&& 31)))]) (st' := []) (L' := LW W z f) 1 (bn_c6_19_27 call o1 x2 x5 (x6 + 1) ((wh W kt (ix x6)) &&& 15) ((wh W kt (ix x6)) >>> (4 &&& 31)) _) ?_
              exact H
            · have H := H.2 (cI2f q18 rfl rfl)
              refine xc_b (i' := 43) (ls' := [some (vR (wJ W kt + 42)), o1, some (vI x2), some (vR 9), some (vR 10), some (vI x5), some (vI x6), some (vI ((wh W kt (ix x6)) &&& 15)), some (vI ((wh W kt (ix x6)) >>> (4 &&& 31)))]) (st' := [vI 1, vI ((wh W kt (ix x6)) &&& 15), vI x5, vR 10]) (L' := LW W z f) 4 (bn_c6_19_30 call o1 x2 x5 x6 ((wh W kt (ix x6)) &&& 15) ((wh W kt (ix x6)) >>> (4 &&& 31)) _) ?_
              refine xc_f (it := 52) (ie := 44) (ls' := [some (vR (wJ W kt + 42)), o1, some (vI x2), some (vR 9), some (vR 10), some (vI x5), some (vI x6), some (vI ((wh W kt (ix x6)) &&& 15)), some (vI ((wh W kt (ix x6)) >>> (4 &&& 31)))]) (st' := [vI x5, vR 10]) (bn_c6_19_31 call ((wh W kt (ix x6)) &&& 15) 1 x5 _ _) (pNf (cI1f q10)) ?_
              refine xc_b (i' := 47) (ls' := [some (vR (wJ W kt + 42)), o1, some (vI x2), some (vR 9), some (vR 10), some (vI x5), some (vI x6), some (vI ((wh W kt (ix x6)) &&& 15)), some (vI ((wh W kt (ix x6)) >>> (4 &&& 31)))]) (st' := [vI (nI 10), vI ((wh W kt (ix x6)) >>> (4 &&& 31)), vI x5, vR 10]) (L' := LW W z f) 3 (bn_c6_19_36 call o1 x2 x5 x6 ((wh W kt (ix x6)) &&& 15) ((wh W kt (ix x6)) >>> (4 &&& 31)) x5 z f) ?_
              refine xc_if (it := 52) (ie := 48) (ls' := [some (vR (wJ W kt + 42)), o1, some (vI x2), some (vR 9), some (vR 10), some (vI x5), some (vI x6), some (vI ((wh W kt (ix x6)) &&& 15)), some (vI ((wh W kt (ix x6)) >>> (4 &&& 31)))]) (st' := [vI x5, vR 10]) (bn_c6_19_37 call ((wh W kt (ix x6)) >>> (4 &&& 31)) (nI 10) x5 _ _) (fun q19 => ?_) (fun q19 => ?_)
              · have H := H.1 (cI3t q19 rfl rfl)
                refine xc_b (i' := 53) (ls' := [some (vR (wJ W kt + 42)), o1, some (vI x2), some (vR 9), some (vR 10), some (vI x5), some (vI x6), some (vI ((wh W kt (ix x6)) &&& 15)), some (vI ((wh W kt (ix x6)) >>> (4 &&& 31)))]) (st' := [vI ((wh W kt (ix x6)) >>> (4 &&& 31)), vI x5, vR 10]) (L' := LW W z f) 1 (bn_c6_19_32 call o1 x2 x5 x6 ((wh W kt (ix x6)) &&& 15) ((wh W kt (ix x6)) >>> (4 &&& 31)) x5 _) ?_
                obtain ⟨g1, H⟩ := H
                refine xc_g (i' := 54) (ls' := [some (vR (wJ W kt + 42)), o1, some (vI x2), some (vR 9), some (vR 10), some (vI x5), some (vI x6), some (vI ((wh W kt (ix x6)) &&& 15)), some (vI ((wh W kt (ix x6)) >>> (4 &&& 31)))]) (st' := []) (L' := LW W z (uA f 10 (upd (f 10) (ix x5) ((wh W kt (ix x6)) >>> (4 &&& 31))))) (bn_c6_19_33 call x5 ((wh W kt (ix x6)) >>> (4 &&& 31)) _ z f) (pinG g1) ?_
                refine xc_b (i' := 55) (ls' := [some (vR (wJ W kt + 42)), o1, some (vI x2), some (vR 9), some (vR 10), some (vI (x5 + 1)), some (vI x6), some (vI ((wh W kt (ix x6)) &&& 15)), some (vI ((wh W kt (ix x6)) >>> (4 &&& 31)))]) (st' := []) (L' := LW W z (uA f 10 (upd (f 10) (ix x5) ((wh W kt (ix x6)) >>> (4 &&& 31))))) 1 (bn_c6_19_34 call o1 x2 x5 x6 ((wh W kt (ix x6)) &&& 15) ((wh W kt (ix x6)) >>> (4 &&& 31)) _) ?_
                refine xc_b (i' := 107) (ls' := [some (vR (wJ W kt + 42)), o1, some (vI x2), some (vR 9), some (vR 10), some (vI (x5 + 1)), some (vI x6), some (vI ((wh W kt (ix x6)) &&& 15)), some (vI ((wh W kt (ix x6)) >>> (4 &&& 31)))]) (st' := []) (L' := LW W z (uA f 10 (upd (f 10) (ix x5) ((wh W kt (ix x6)) >>> (4 &&& 31))))) 1 (bn_c6_19_35 call o1 x2 (x5 + 1) x6 ((wh W kt (ix x6)) &&& 15) ((wh W kt (ix x6)) >>> (4 &&& 31)) _) ?_
                refine xc_b (i' := 108) (ls' := [some (vR (wJ W kt + 42)), o1, some (vI x2), some (vR 9), some (vR 10), some (vI (x5 + 1)), some (vI (x6 + 1)), some (vI ((wh W kt (ix x6)) &&& 15)), some (vI ((wh W kt (ix x6)) >>> (4 &&& 31)))]) (st' := []) (L' := LW W z (uA f 10 (upd (f 10) (ix x5) ((wh W kt (ix x6)) >>> (4 &&& 31))))) 1 (bn_c6_19_26 call o1 x2 (x5 + 1) x6 ((wh W kt (ix x6)) &&& 15) ((wh W kt (ix x6)) >>> (4 &&& 31)) _) ?_
                refine xc_b (i' := 6) (ls' := [some (vR (wJ W kt + 42)), o1, some (vI x2), some (vR 9), some (vR 10), some (vI (x5 + 1)), some (vI (x6 + 1)), some (vI ((wh W kt (ix x6)) &&& 15)), some (vI ((wh W kt (ix x6)) >>> (4 &&& 31)))]) (st' := []) (L' := LW W z (uA f 10 (upd (f 10) (ix x5) ((wh W kt (ix x6)) >>> (4 &&& 31))))) 1 (bn_c6_19_27 call o1 x2 (x5 + 1) (x6 + 1) ((wh W kt (ix x6)) &&& 15) ((wh W kt (ix x6)) >>> (4 &&& 31)) _) ?_
                exact H
              · have H := H.2 (cI3f q19 rfl rfl)
                refine xc_b (i' := 50) (ls' := [some (vR (wJ W kt + 42)), o1, some (vI x2), some (vR 9), some (vR 10), some (vI x5), some (vI x6), some (vI ((wh W kt (ix x6)) &&& 15)), some (vI ((wh W kt (ix x6)) >>> (4 &&& 31)))]) (st' := [vI ((wh W kt (ix x6)) >>> (4 &&& 31)), vR 9, vI x5, vR 10]) (L' := LW W z f) 2 (bn_c6_19_38 call o1 x2 x5 x6 ((wh W kt (ix x6)) &&& 15) ((wh W kt (ix x6)) >>> (4 &&& 31)) x5 _) ?_
                obtain ⟨g1, H⟩ := H
                refine xc_g (i' := 51) (ls' := [some (vR (wJ W kt + 42)), o1, some (vI x2), some (vR 9), some (vR 10), some (vI x5), some (vI x6), some (vI ((wh W kt (ix x6)) &&& 15)), some (vI ((wh W kt (ix x6)) >>> (4 &&& 31)))]) (st' := [vI (f 9 (ix ((wh W kt (ix x6)) >>> (4 &&& 31)))), vI x5, vR 10]) (L' := LW W z f) (bn_c6_19_39 call ((wh W kt (ix x6)) >>> (4 &&& 31)) x5 _ z f) (pinG g1) ?_
                refine xc_b (i' := 53) (ls' := [some (vR (wJ W kt + 42)), o1, some (vI x2), some (vR 9), some (vR 10), some (vI x5), some (vI x6), some (vI ((wh W kt (ix x6)) &&& 15)), some (vI ((wh W kt (ix x6)) >>> (4 &&& 31)))]) (st' := [vI (f 9 (ix ((wh W kt (ix x6)) >>> (4 &&& 31)))), vI x5, vR 10]) (L' := LW W z f) 1 (bn_c6_19_40 call o1 x2 x5 x6 ((wh W kt (ix x6)) &&& 15) ((wh W kt (ix x6)) >>> (4 &&& 31)) (f 9 (ix ((wh W kt (ix x6)) >>> (4 &&& 31)))) x5 _) ?_
                obtain ⟨g1, H⟩ := H
                refine xc_g (i' := 54) (ls' := [some (vR (wJ W kt + 42)), o1, some (vI x2), some (vR 9), some (vR 10), some (vI x5), some (vI x6), some (vI ((wh W kt (ix x6)) &&& 15)), some (vI ((wh W kt (ix x6)) >>> (4 &&& 31)))]) (st' := []) (L' := LW W z (uA f 10 (upd (f 10) (ix x5) (f 9 (ix ((wh W kt (ix x6)) >>> (4 &&& 31))))))) (bn_c6_19_33 call x5 (f 9 (ix ((wh W kt (ix x6)) >>> (4 &&& 31)))) _ z f) (pinG g1) ?_
                refine xc_b (i' := 55) (ls' := [some (vR (wJ W kt + 42)), o1, some (vI x2), some (vR 9), some (vR 10), some (vI (x5 + 1)), some (vI x6), some (vI ((wh W kt (ix x6)) &&& 15)), some (vI ((wh W kt (ix x6)) >>> (4 &&& 31)))]) (st' := []) (L' := LW W z (uA f 10 (upd (f 10) (ix x5) (f 9 (ix ((wh W kt (ix x6)) >>> (4 &&& 31))))))) 1 (bn_c6_19_34 call o1 x2 x5 x6 ((wh W kt (ix x6)) &&& 15) ((wh W kt (ix x6)) >>> (4 &&& 31)) _) ?_
                refine xc_b (i' := 107) (ls' := [some (vR (wJ W kt + 42)), o1, some (vI x2), some (vR 9), some (vR 10), some (vI (x5 + 1)), some (vI x6), some (vI ((wh W kt (ix x6)) &&& 15)), some (vI ((wh W kt (ix x6)) >>> (4 &&& 31)))]) (st' := []) (L' := LW W z (uA f 10 (upd (f 10) (ix x5) (f 9 (ix ((wh W kt (ix x6)) >>> (4 &&& 31))))))) 1 (bn_c6_19_35 call o1 x2 (x5 + 1) x6 ((wh W kt (ix x6)) &&& 15) ((wh W kt (ix x6)) >>> (4 &&& 31)) _) ?_
                refine xc_b (i' := 108) (ls' := [some (vR (wJ W kt + 42)), o1, some (vI x2), some (vR 9), some (vR 10), some (vI (x5 + 1)), some (vI (x6 + 1)), some (vI ((wh W kt (ix x6)) &&& 15)), some (vI ((wh W kt (ix x6)) >>> (4 &&& 31)))]) (st' := []) (L' := LW W z (uA f 10 (upd (f 10) (ix x5) (f 9 (ix ((wh W kt (ix x6)) >>> (4 &&& 31))))))) 1 (bn_c6_19_26 call o1 x2 (x5 + 1) x6 ((wh W kt (ix x6)) &&& 15) ((wh W kt (ix x6)) >>> (4 &&& 31)) _) ?_
                refine xc_b (i' := 6) (ls' := [some (vR (wJ W kt + 42)), o1, some (vI x2), some (vR 9), some (vR 10), some (vI (x5 + 1)), some (vI (x6 + 1)), some (vI ((wh W kt (ix x6)) &&& 15)), some (vI ((wh W kt (ix x6)) >>> (4 &&& 31)))]) (st' := []) (L' := LW W z (uA f 10 (upd (f 10) (ix x5) (f 9 (ix ((wh W kt (ix x6)) >>> (4 &&& 31))))))) 1 (bn_c6_19_27 call o1 x2 (x5 + 1) (x6 + 1) ((wh W kt (ix x6)) &&& 15) ((wh W kt (ix x6)) >>> (4 &&& 31)) _) ?_
                exact H
theorem wRunn (hW : WTX W) (hk : kt < 4) (d : Nat) (o1 : Option PV) {to : Nat} {z : Nat → Int32} {f : Nat → FA} (hM : to ≤ wM W kt) (h4 : wM W kt ≤ 400) : ∀ (P : List TK) (i n : Nat) (g : FA) (n' : Nat) (g' : FA), i + P.length = to → tkC P (wh W kt) i → n ≤ 32 → evF (f 9) P (n, g) = some (n', g') → n' = 1 → ∀ o7 o8, XC (xcall (d + 1)) (mP 19) 6 [some (vR (wJ W kt + 42)), o1, some (vI (nI to)), some (vR 9), some (vR 10), some (vI (nI n)), some (vI (nI i)), o7, o8] [] (LW W z (uA f 10 g)) (some (vI (g' 0)), LW W z (uA f 10 g')) := by
  have vne : (9 : Nat) ≠ 10 := by decide
  intro P
  induction P with
  | nil =>
    intro i n g n' g' hi _ _ he h1 o7 o8
    obtain ⟨rfl, rfl⟩ : n = n' ∧ g = g' := by
      have := Option.some.inj he
      exact ⟨congrArg Prod.fst this, congrArg Prod.snd this⟩
    subst h1
    have hi : i = to := hi
    subst hi
    refine vcn_c6_19_6 hW hk _ _ _ _ _ _ _ _ _ _ ⟨fun _ => ⟨fun q => absurd q (by decide), fun _ => ⟨by decide, ?_⟩⟩, fun q => absurd q (Int.lt_irrefl _)⟩
    rw [uA_self, show ix 0 = 0 from by decide]
  | cons e P ih =>
    intro i n g n' g' hi hT hn he h1 o7 o8
    obtain ⟨⟨t1, t2, t3⟩, t4⟩ := hT
    obtain ⟨o, a⟩ := e
    have t1 : o < 12 := t1
    have t2 : a < 100000 := t2
    have t3 : wh W kt i = nI (a * 16 + o) := t3
    have hl : i + 1 + P.length = to := by
      have : (List.length ((o, a) :: P)) = P.length + 1 := rfl
      omega
    have he : (match ev1 (f 9) (o, a) (n, g) with
      | some s' => evF (f 9) P s'
      | none => none) = some (n', g') := he
    cases hs : ev1 (f 9) (o, a) (n, g) with
    | none => rw [hs] at he; cases he
    | some s' =>
    rw [hs] at he
    obtain ⟨m, g1⟩ := s'
    have he : evF (f 9) P (m, g1) = some (n', g') := he
    have e15 : nI (a * 16 + o) &&& 15 = nI o := and15 (by omega) (by omega)
    have e4 : nI (a * 16 + o) >>> (4 &&& 31) = nI a := shr4 (by omega) (by omega)
    have ii : I (nI i) = i := I_nI (by omega)
    have it : I (nI to) = to := I_nI (by omega)
    have iM : I (nI (wM W kt)) = wM W kt := I_nI (by omega)
    have iN : I (nI n) = n := I_nI (by omega)
    have i32 : I (nI 32) = 32 := I_nI (n := 32) (by omega)
    have i10 : I (nI 10) = 10 := I_nI (n := 10) (by omega)
    have ia : I (nI a) = a := I_nI (by omega)
    have pM : pin (nI i) (wM W kt) = true := pin_nI (by omega) (by omega)
    have xi : ix (nI i) = i := ix_nI (by omega)
    have e1 : nI i + 1 = nI (i + 1) := nI_add i 1
    have en : nI n + 1 = nI (n + 1) := nI_add n 1
    have hrec : m ≤ 32 → ∀ o7 o8, XC (xcall (d + 1)) (mP 19) 6 [some (vR (wJ W kt + 42)), o1, some (vI (nI to)), some (vR 9), some (vR 10), some (vI (nI m)), some (vI (nI (i + 1))), o7, o8] [] (LW W z (uA f 10 g1)) (some (vI (g' 0)), LW W z (uA f 10 g')) := fun hm => ih (i + 1) m g1 n' g' hl t4 hm he h1
    have l0 : (0 : Int32) = nI 0 := rfl
    have l1 : (1 : Int32) = nI 1 := rfl
    have l2 : (2 : Int32) = nI 2 := rfl
    have l3 : (3 : Int32) = nI 3 := rfl
    have ne : ∀ {p q : Nat}, p < 12 → q < 12 → p ≠ q → ¬ nI p = nI q := fun hp hq hpq c => hpq (nI_inj (by omega) (by omega) c)
    refine vcn_c6_19_6 hW hk _ _ _ _ _ _ _ _ _ _ ⟨fun q => by omega, fun _ => ⟨fun q => by omega, fun _ => ⟨pM, pM, ?_⟩⟩⟩
    rw [xi, t3, e15, e4, e1]
    unfold ev1 at hs
    by_cases c2 : o < 2
    · rw [if_pos (show (o, a).1 < 2 from c2)] at hs
      obtain ⟨⟨q1, q2⟩, q3⟩ := ite_some hs
      have q1 : n < 32 := q1
      have pn : pin (nI n) 32 = true := pin_nI (by omega) (by omega)
      have xn : ix (nI n) = n := ix_nI (by omega)
      have hm : m = n + 1 := (congrArg Prod.fst q3).symm
      subst hm
      by_cases c0 : o = 0
      · subst c0
        have hg : g1 = upd g n (nI a) := by
          have := (congrArg Prod.snd q3).symm
          exact this.trans (by rw [if_pos rfl])
        subst hg
        refine ⟨fun _ => ⟨fun q => by omega, fun _ => ⟨fun q => by omega, fun _ => ⟨fun _ => ⟨pn, ?_⟩, fun q => absurd q (by decide)⟩⟩⟩, fun q => absurd rfl q⟩
        rw [en, xn, uA_self, uA_uA]
        exact hrec (by omega) _ _
      · obtain rfl : o = 1 := by omega
        have q2 : a < 10 := q2 rfl
        have hg : g1 = upd g n (f 9 a) := by
          have := (congrArg Prod.snd q3).symm
          exact this.trans (by rw [if_neg (fun q : (1, a).1 = 0 => absurd (show (1 : Nat) = 0 from q) (by decide))])
        subst hg
        refine ⟨fun q => absurd q (by decide), fun _ => ⟨fun q => absurd rfl q, fun _ => ⟨fun q => by omega, fun _ => ⟨fun q => by omega, fun _ => ⟨fun q => by omega, fun _ => ⟨pin_nI (by omega) (by omega), pn, ?_⟩⟩⟩⟩⟩⟩
        rw [en, xn, uA_self, uA_uA, uA_ne vne, ix_nI (j := a) (by omega)]
        exact hrec (by omega) _ _
    · rw [if_neg (show ¬ (o, a).1 < 2 from c2)] at hs
      have n0 : ¬ nI o = 0 := ne (q := 0) t1 (by omega) (by omega)
      have n1 : ¬ nI o = 1 := ne (q := 1) t1 (by omega) (by omega)
      refine ⟨fun q => absurd q n0, fun _ => ⟨fun _ => ?_, fun q => absurd q n1⟩⟩
      by_cases c4 : o < 4
      · rw [if_pos (show (o, a).1 < 4 from c4)] at hs
        obtain ⟨⟨q1, q2⟩, q3⟩ := ite_some hs
        have q1 : 1 ≤ n := q1
        have em : nI n - 1 = nI (n - 1) := nI_sub (b := 1) q1
        have pn : pin (nI (n - 1)) 32 = true := pin_nI (by omega) (by omega)
        have xn : ix (nI (n - 1)) = n - 1 := ix_nI (by omega)
        have hm : m = n := (congrArg Prod.fst q3).symm
        subst hm
        by_cases c3 : o = 2
        · subst c3
          have q2 : 1 ≤ a := q2 rfl
          have hg : g1 = upd g (m - 1) (g (m - 1) / nI a) := by
            have := (congrArg Prod.snd q3).symm
            exact this.trans (by rw [if_pos rfl])
          subst hg
          have hp := wPart (W := W) d (g (m - 1)) q2 (by omega) (z := z) (f := uA f 10 g)
          refine ⟨fun _ => ⟨fun q => by omega, fun _ => ⟨fun _ => ?_, fun q => absurd q (by decide)⟩⟩, fun q => absurd rfl q⟩
          rw [em, xn, uA_self]
          refine ⟨pn, _, _, _, hp, pn, ?_⟩
          rw [uA_self, uA_uA]
          exact hrec (by omega) _ _
        · obtain rfl : o = 3 := by omega
          have hg : g1 = upd g (m - 1) (1 - g (m - 1)) := by
            have := (congrArg Prod.snd q3).symm
            exact this.trans (by rw [if_neg (fun q : (3, a).1 = 2 => absurd (show (3 : Nat) = 2 from q) (by decide))])
          subst hg
          refine ⟨fun q => absurd q (by decide), fun _ => ⟨fun q => absurd rfl q, fun _ => ⟨fun q => by omega, fun _ => ?_⟩⟩⟩
          rw [em, xn, uA_self, uA_uA]
          exact ⟨pn, pn, hrec (by omega) _ _⟩
      · rw [if_neg (show ¬ (o, a).1 < 4 from c4)] at hs
        obtain ⟨⟨q1, q2⟩, q3⟩ := ite_some hs
        have q1 : 2 ≤ n := q1
        have hm : m = n - 1 := (congrArg Prod.fst q3).symm
        subst hm
        have hg : g1 = upd g (n - 2) (jnO o (g (n - 2)) (g (n - 1))) := (congrArg Prod.snd q3).symm
        subst hg
        have n2 : ¬ nI o = 2 := ne (q := 2) t1 (by omega) (by omega)
        have n3 : ¬ nI o = 3 := ne (q := 3) t1 (by omega) (by omega)
        have em : nI n + (-1) = nI (n - 1) := nI_mm (by omega)
        have em2 : nI (n - 1) - 1 = nI (n - 2) := by rw [show nI (n - 1) - 1 = nI (n - 1 - 1) from nI_sub (b := 1) (by omega)]; congr 1
        have hj := wJoin (W := W) d (g (n - 2)) (g (n - 1)) (o := o) (by omega) t1 (z := z) (f := uA f 10 g)
        have p1 : pin (nI (n - 1)) 32 = true := pin_nI (by omega) (by omega)
        have p2 : pin (nI (n - 2)) 32 = true := pin_nI (by omega) (by omega)
        have x1 : ix (nI (n - 1)) = n - 1 := ix_nI (by omega)
        have x2 : ix (nI (n - 2)) = n - 2 := ix_nI (by omega)
        refine ⟨fun q => absurd q n2, fun _ => ⟨fun _ => ⟨fun q => by omega, fun _ => ?_⟩, fun q => absurd q n3⟩⟩
        rw [em, em2, x1, x2, uA_self]
        refine ⟨p2, p1, _, _, _, hj, p2, ?_⟩
        rw [uA_self, uA_uA]
        exact hrec (by omega) _ _
theorem wRunn_c (hW : WTX W) (hk : kt < 4) (d : Nat) {z : Nat → Int32} {f : Nat → FA} {P : List TK} {i : Nat} {g' : FA} (hM : i + P.length ≤ wM W kt) (h4 : wM W kt ≤ 400) (hT : tkC P (wh W kt) i) (he : evF (f 9) P (0, f 10) = some (1, g')) : xcall (d + 2) 19 [vR (wJ W kt + 42), vI (nI i), vI (nI (i + P.length)), vR 9, vR 10] (LW W z f) = some (some (vI (g' 0)), LW W z (uA f 10 g')) := by
  have h := wRunn hW hk d (some (vI (nI i))) (z := z) (f := f) hM h4 P i 0 (f 10) 1 g' rfl hT (by omega) he rfl none none
  rw [uA_id rfl] at h
  exact xcall_i (mq19 (cu := [])).2.2 rfl (vcn_19_0 (xcall (d + 1)) (nI i) (nI (i + P.length)) none none none none z f _ ⟨fun q => by rw [I_nI (n := i) (by omega)] at q; omega, fun _ => h⟩)
set_option maxRecDepth 100000 in
theorem bh_19_1 (call : QC FA) (x1 : Int32) (x2 : Int32) (o5 : Option PV) (o6 : Option PV) (o7 : Option PV) (o8 : Option PV) (L : QH FA) (F : Nat) : xnG call 19 (F + 4) 0 [some (vR (wJ W kt + 42)), some (vI x1), some (vI x2), some (vR 36), some (vR 37), o5, o6, o7, o8] [] L = xnG call 19 F 4 [some (vR (wJ W kt + 42)), some (vI x1), some (vI x2), some (vR 36), some (vR 37), some (vI 0), o6, o7, o8] [vI 0, vI x1] L := rfl
set_option maxRecDepth 100000 in
theorem bh_19_2 (call : QC FA) (x y : Int32) (ls : List (Option PV)) (L : QH FA) (F : Nat) : xnG call 19 (F + 1) 4 ls [vI y, vI x] L = bif pcmp 2 x y then xnG call 19 F 5 ls [vI y] L else xnG call 19 F 5 ls [vI x] L := pmxr (xnG call 19 F) 5 x y ls [] L rfl
set_option maxRecDepth 100000 in
theorem bh_19_3 (call : QC FA) (x1 : Int32) (x2 : Int32) (x5 : Int32) (o6 : Option PV) (o7 : Option PV) (o8 : Option PV) (s0 : Int32) (L : QH FA) (F : Nat) : xnG call 19 (F + 1) 5 [some (vR (wJ W kt + 42)), some (vI x1), some (vI x2), some (vR 36), some (vR 37), some (vI x5), o6, o7, o8] [vI s0] L = xnG call 19 F 6 [some (vR (wJ W kt + 42)), some (vI x1), some (vI x2), some (vR 36), some (vR 37), some (vI x5), some (vI s0), o7, o8] [] L := rfl
theorem vch_19_0 (call : QC FA) (x1 : Int32) (x2 : Int32) (o5 : Option PV) (o6 : Option PV) (o7 : Option PV) (o8 : Option PV) (z : Nat → Int32) (f : Nat → FA) (res : Option PV × QH FA) (H : ((I x1 < 0 → XC call (mP 19) 6 [some (vR (wJ W kt + 42)), some (vI x1), some (vI x2), some (vR 36), some (vR 37), some (vI 0), some (vI 0), o7, o8] [] (LW W z f) res) ∧ (0 ≤ I x1 → XC call (mP 19) 6 [some (vR (wJ W kt + 42)), some (vI x1), some (vI x2), some (vR 36), some (vR 37), some (vI 0), some (vI x1), o7, o8] [] (LW W z f) res))) : XC call (mP 19) 0 [some (vR (wJ W kt + 42)), some (vI x1), some (vI x2), some (vR 36), some (vR 37), o5, o6, o7, o8] [] (LW W z f) res := by
  refine xc_b (i' := 4) (ls' := [some (vR (wJ W kt + 42)), some (vI x1), some (vI x2), some (vR 36), some (vR 37), some (vI 0), o6, o7, o8]) (st' := [vI 0, vI x1]) (L' := LW W z f) 4 (bh_19_1 call x1 x2 o5 o6 o7 o8 _) ?_
  refine xc_if2 (it := 5) (ie := 5) (ls' := [some (vR (wJ W kt + 42)), some (vI x1), some (vI x2), some (vR 36), some (vR 37), some (vI 0), o6, o7, o8]) (st1 := [vI 0]) (st2 := [vI x1]) (bh_19_2 call x1 0 _ _) (fun q1 => ?_) (fun q1 => ?_)
  · have H := H.1 (cI2t q1 rfl rfl)
    refine xc_b (i' := 6) (ls' := [some (vR (wJ W kt + 42)), some (vI x1), some (vI x2), some (vR 36), some (vR 37), some (vI 0), some (vI 0), o7, o8]) (st' := []) (L' := LW W z f) 1 (bh_19_3 call x1 x2 0 o6 o7 o8 0 _) ?_
    exact H
  · have H := H.2 (cI2f q1 rfl rfl)
    refine xc_b (i' := 6) (ls' := [some (vR (wJ W kt + 42)), some (vI x1), some (vI x2), some (vR 36), some (vR 37), some (vI 0), some (vI x1), o7, o8]) (st' := []) (L' := LW W z f) 1 (bh_19_3 call x1 x2 0 o6 o7 o8 x1 _) ?_
    exact H
set_option maxRecDepth 100000 in
theorem bh_c6_19_1 (call : QC FA) (o1 : Option PV) (x2 : Int32) (x5 : Int32) (x6 : Int32) (o7 : Option PV) (o8 : Option PV) (L : QH FA) (F : Nat) : xnG call 19 (F + 2) 6 [some (vR (wJ W kt + 42)), o1, some (vI x2), some (vR 36), some (vR 37), some (vI x5), some (vI x6), o7, o8] [] L = xnG call 19 F 8 [some (vR (wJ W kt + 42)), o1, some (vI x2), some (vR 36), some (vR 37), some (vI x5), some (vI x6), o7, o8] [vI x2, vI x6] L := rfl
set_option maxRecDepth 100000 in
theorem bh_c6_19_2 (call : QC FA) (x y : Int32) (ls : List (Option PV)) (L : QH FA) (F : Nat) : xnG call 19 (F + 1) 8 ls [vI y, vI x] L = bif pcmp 3 x y then xnG call 19 F 109 ls [] L else xnG call 19 F 9 ls [] L := rfl
set_option maxRecDepth 100000 in
theorem bh_c6_19_3 (call : QC FA) (o1 : Option PV) (x2 : Int32) (x5 : Int32) (x6 : Int32) (o7 : Option PV) (o8 : Option PV) (L : QH FA) (F : Nat) : xnG call 19 (F + 1) 109 [some (vR (wJ W kt + 42)), o1, some (vI x2), some (vR 36), some (vR 37), some (vI x5), some (vI x6), o7, o8] [] L = xnG call 19 F 110 [some (vR (wJ W kt + 42)), o1, some (vI x2), some (vR 36), some (vR 37), some (vI x5), some (vI x6), o7, o8] [vI x5] L := rfl
set_option maxRecDepth 100000 in
theorem bh_c6_19_4 (call : QC FA) (x : Int32) (ls : List (Option PV)) (L : QH FA) (F : Nat) : xnG call 19 (F + 1) 110 ls [vI x] L = bif pcmp 5 x 0 then xnG call 19 F 115 ls [] L else xnG call 19 F 111 ls [] L := rfl
set_option maxRecDepth 100000 in
theorem bh_c6_19_5 (call : QC FA) (o1 : Option PV) (x2 : Int32) (x5 : Int32) (x6 : Int32) (o7 : Option PV) (o8 : Option PV) (L : QH FA) (F : Nat) : xnG call 19 (F + 1) 115 [some (vR (wJ W kt + 42)), o1, some (vI x2), some (vR 36), some (vR 37), some (vI x5), some (vI x6), o7, o8] [] L = xnG call 19 F 116 [some (vR (wJ W kt + 42)), o1, some (vI x2), some (vR 36), some (vR 37), some (vI x5), some (vI x6), o7, o8] [vI 0] L := rfl
set_option maxRecDepth 100000 in
theorem bh_c6_19_6 (call : QC FA) (x : Int32) (ls : List (Option PV)) (L : QH FA) (F : Nat) : xnG call 19 (F + 1) 116 ls [vI x] L = some (some (vI x), L) := rfl
set_option maxRecDepth 100000 in
theorem bh_c6_19_7 (call : QC FA) (o1 : Option PV) (x2 : Int32) (x5 : Int32) (x6 : Int32) (o7 : Option PV) (o8 : Option PV) (L : QH FA) (F : Nat) : xnG call 19 (F + 2) 111 [some (vR (wJ W kt + 42)), o1, some (vI x2), some (vR 36), some (vR 37), some (vI x5), some (vI x6), o7, o8] [] L = xnG call 19 F 113 [some (vR (wJ W kt + 42)), o1, some (vI x2), some (vR 36), some (vR 37), some (vI x5), some (vI x6), o7, o8] [vI 0, vR 37] L := rfl
set_option maxRecDepth 100000 in
theorem bh_c6_19_8 (call : QC FA) (x : Int32) (ls : List (Option PV)) (z : Nat → Int32) (f : Nat → FA) (F : Nat) : xnG call 19 (F + 1) 113 ls [vI x, vR 37] (LW W z f) = bif (Nat.beq 0 0 && pin x 32) then xnG call 19 F 114 ls [vI (f 37 (ix x))] (LW W z f) else none := rfl
set_option maxRecDepth 100000 in
theorem bh_c6_19_9 (call : QC FA) (o1 : Option PV) (x2 : Int32) (x5 : Int32) (x6 : Int32) (o7 : Option PV) (o8 : Option PV) (s0 : Int32) (L : QH FA) (F : Nat) : xnG call 19 (F + 1) 114 [some (vR (wJ W kt + 42)), o1, some (vI x2), some (vR 36), some (vR 37), some (vI x5), some (vI x6), o7, o8] [vI s0] L = xnG call 19 F 116 [some (vR (wJ W kt + 42)), o1, some (vI x2), some (vR 36), some (vR 37), some (vI x5), some (vI x6), o7, o8] [vI s0] L := rfl
set_option maxRecDepth 100000 in
theorem bh_c6_19_10 (call : QC FA) (o1 : Option PV) (x2 : Int32) (x5 : Int32) (x6 : Int32) (o7 : Option PV) (o8 : Option PV) (L : QH FA) (F : Nat) : xnG call 19 (F + 2) 9 [some (vR (wJ W kt + 42)), o1, some (vI x2), some (vR 36), some (vR 37), some (vI x5), some (vI x6), o7, o8] [] L = xnG call 19 F 11 [some (vR (wJ W kt + 42)), o1, some (vI x2), some (vR 36), some (vR 37), some (vI x5), some (vI x6), o7, o8] [vR (wJ W kt + 42), vI x6] L := rfl
set_option maxRecDepth 100000 in
theorem bh_c6_19_11 (hW : WTX W) (hk : kt < 4) (call : QC FA) (s0 : Int32) (ls : List (Option PV)) (z : Nat → Int32) (f : Nat → FA) (F : Nat) : xnG call 19 (F + 1) 11 ls [vR (wJ W kt + 42), vI s0] (LW W z f) = xnG call 19 F 12 ls [vR (wC W kt + 42), vI s0] (LW W z f) := gt_2 (ih := xnG call 19 F) (t := 12) (st := [vI s0]) hW hk
set_option maxRecDepth 100000 in
theorem bh_c6_19_12 (hW : WTX W) (hk : kt < 4) (call : QC FA) (s0 : Int32) (ls : List (Option PV)) (z : Nat → Int32) (f : Nat → FA) (F : Nat) : xnG call 19 (F + 1) 12 ls [vR (wC W kt + 42), vI s0] (LW W z f) = xnG call 19 F 13 ls [vI (nI (wM W kt)), vI s0] (LW W z f) := ga_h (ih := xnG call 19 F) (t := 13) (st := [vI s0]) hW hk
set_option maxRecDepth 100000 in
theorem bh_c6_19_13 (call : QC FA) (x y : Int32) (ls : List (Option PV)) (L : QH FA) (F : Nat) : xnG call 19 (F + 1) 13 ls [vI y, vI x] L = bif pcmp 3 x y then xnG call 19 F 109 ls [] L else xnG call 19 F 14 ls [] L := rfl
set_option maxRecDepth 100000 in
theorem bh_c6_19_14 (call : QC FA) (o1 : Option PV) (x2 : Int32) (x5 : Int32) (x6 : Int32) (o7 : Option PV) (o8 : Option PV) (L : QH FA) (F : Nat) : xnG call 19 (F + 1) 14 [some (vR (wJ W kt + 42)), o1, some (vI x2), some (vR 36), some (vR 37), some (vI x5), some (vI x6), o7, o8] [] L = xnG call 19 F 15 [some (vR (wJ W kt + 42)), o1, some (vI x2), some (vR 36), some (vR 37), some (vI x5), some (vI x6), o7, o8] [vR (wJ W kt + 42)] L := rfl
set_option maxRecDepth 100000 in
theorem bh_c6_19_15 (hW : WTX W) (hk : kt < 4) (call : QC FA) (ls : List (Option PV)) (z : Nat → Int32) (f : Nat → FA) (F : Nat) : xnG call 19 (F + 1) 15 ls [vR (wJ W kt + 42)] (LW W z f) = xnG call 19 F 16 ls [vR (wC W kt + 42)] (LW W z f) := gt_2 (ih := xnG call 19 F) (t := 16) (st := []) hW hk
set_option maxRecDepth 100000 in
theorem bh_c6_19_16 (call : QC FA) (o1 : Option PV) (x2 : Int32) (x5 : Int32) (x6 : Int32) (o7 : Option PV) (o8 : Option PV) (L : QH FA) (F : Nat) : xnG call 19 (F + 1) 16 [some (vR (wJ W kt + 42)), o1, some (vI x2), some (vR 36), some (vR 37), some (vI x5), some (vI x6), o7, o8] [vR (wC W kt + 42)] L = xnG call 19 F 17 [some (vR (wJ W kt + 42)), o1, some (vI x2), some (vR 36), some (vR 37), some (vI x5), some (vI x6), o7, o8] [vI x6, vR (wC W kt + 42)] L := rfl
set_option maxRecDepth 100000 in
theorem bh_c6_19_17 (hW : WTX W) (hk : kt < 4) (call : QC FA) (x : Int32) (ls : List (Option PV)) (z : Nat → Int32) (f : Nat → FA) (F : Nat) : xnG call 19 (F + 1) 17 ls [vI x, vR (wC W kt + 42)] (LW W z f) = bif pin x (wM W kt) then xnG call 19 F 18 ls [vI (wh W kt (ix x))] (LW W z f) else none := gl_h (ih := xnG call 19 F) (t := 18) (st := []) hW hk x
set_option maxRecDepth 100000 in
theorem bh_c6_19_18 (call : QC FA) (o1 : Option PV) (x2 : Int32) (x5 : Int32) (x6 : Int32) (o7 : Option PV) (o8 : Option PV) (s0 : Int32) (L : QH FA) (F : Nat) : xnG call 19 (F + 4) 18 [some (vR (wJ W kt + 42)), o1, some (vI x2), some (vR 36), some (vR 37), some (vI x5), some (vI x6), o7, o8] [vI s0] L = xnG call 19 F 22 [some (vR (wJ W kt + 42)), o1, some (vI x2), some (vR 36), some (vR 37), some (vI x5), some (vI x6), some (vI (s0 &&& 15)), o8] [vR (wJ W kt + 42)] L := rfl
set_option maxRecDepth 100000 in
theorem bh_c6_19_19 (hW : WTX W) (hk : kt < 4) (call : QC FA) (ls : List (Option PV)) (z : Nat → Int32) (f : Nat → FA) (F : Nat) : xnG call 19 (F + 1) 22 ls [vR (wJ W kt + 42)] (LW W z f) = xnG call 19 F 23 ls [vR (wC W kt + 42)] (LW W z f) := gt_2 (ih := xnG call 19 F) (t := 23) (st := []) hW hk
set_option maxRecDepth 100000 in
theorem bh_c6_19_20 (call : QC FA) (o1 : Option PV) (x2 : Int32) (x5 : Int32) (x6 : Int32) (x7 : Int32) (o8 : Option PV) (L : QH FA) (F : Nat) : xnG call 19 (F + 1) 23 [some (vR (wJ W kt + 42)), o1, some (vI x2), some (vR 36), some (vR 37), some (vI x5), some (vI x6), some (vI x7), o8] [vR (wC W kt + 42)] L = xnG call 19 F 24 [some (vR (wJ W kt + 42)), o1, some (vI x2), some (vR 36), some (vR 37), some (vI x5), some (vI x6), some (vI x7), o8] [vI x6, vR (wC W kt + 42)] L := rfl
set_option maxRecDepth 100000 in
theorem bh_c6_19_21 (hW : WTX W) (hk : kt < 4) (call : QC FA) (x : Int32) (ls : List (Option PV)) (z : Nat → Int32) (f : Nat → FA) (F : Nat) : xnG call 19 (F + 1) 24 ls [vI x, vR (wC W kt + 42)] (LW W z f) = bif pin x (wM W kt) then xnG call 19 F 25 ls [vI (wh W kt (ix x))] (LW W z f) else none := gl_h (ih := xnG call 19 F) (t := 25) (st := []) hW hk x
set_option maxRecDepth 100000 in
theorem bh_c6_19_22 (call : QC FA) (o1 : Option PV) (x2 : Int32) (x5 : Int32) (x6 : Int32) (x7 : Int32) (o8 : Option PV) (s0 : Int32) (L : QH FA) (F : Nat) : xnG call 19 (F + 4) 25 [some (vR (wJ W kt + 42)), o1, some (vI x2), some (vR 36), some (vR 37), some (vI x5), some (vI x6), some (vI x7), o8] [vI s0] L = xnG call 19 F 29 [some (vR (wJ W kt + 42)), o1, some (vI x2), some (vR 36), some (vR 37), some (vI x5), some (vI x6), some (vI x7), some (vI (s0 >>> (4 &&& 31)))] [vI x7] L := rfl
set_option maxRecDepth 100000 in
theorem bh_c6_19_23 (call : QC FA) (x : Int32) (ls : List (Option PV)) (L : QH FA) (F : Nat) : xnG call 19 (F + 1) 29 ls [vI x] L = bif pcmp 0 x 0 then xnG call 19 F 33 ls [] L else xnG call 19 F 30 ls [] L := rfl
set_option maxRecDepth 100000 in
theorem bh_c6_19_24 (call : QC FA) (o1 : Option PV) (x2 : Int32) (x5 : Int32) (x6 : Int32) (x7 : Int32) (x8 : Int32) (z : Nat → Int32) (f : Nat → FA) (F : Nat) : xnG call 19 (F + 3) 33 [some (vR (wJ W kt + 42)), o1, some (vI x2), some (vR 36), some (vR 37), some (vI x5), some (vI x6), some (vI x7), some (vI x8)] [] (LW W z f) = xnG call 19 F 36 [some (vR (wJ W kt + 42)), o1, some (vI x2), some (vR 36), some (vR 37), some (vI x5), some (vI x6), some (vI x7), some (vI x8)] [vI (nI 32), vI x5] (LW W z f) := rfl
set_option maxRecDepth 100000 in
theorem bh_c6_19_25 (call : QC FA) (x y : Int32) (ls : List (Option PV)) (L : QH FA) (F : Nat) : xnG call 19 (F + 1) 36 ls [vI y, vI x] L = bif pcmp 3 x y then xnG call 19 F 107 ls [] L else xnG call 19 F 37 ls [] L := rfl
set_option maxRecDepth 100000 in
theorem bh_c6_19_26 (call : QC FA) (o1 : Option PV) (x2 : Int32) (x5 : Int32) (x6 : Int32) (x7 : Int32) (x8 : Int32) (L : QH FA) (F : Nat) : xnG call 19 (F + 1) 107 [some (vR (wJ W kt + 42)), o1, some (vI x2), some (vR 36), some (vR 37), some (vI x5), some (vI x6), some (vI x7), some (vI x8)] [] L = xnG call 19 F 108 [some (vR (wJ W kt + 42)), o1, some (vI x2), some (vR 36), some (vR 37), some (vI x5), some (vI (x6 + 1)), some (vI x7), some (vI x8)] [] L := rfl
set_option maxRecDepth 100000 in
theorem bh_c6_19_27 (call : QC FA) (o1 : Option PV) (x2 : Int32) (x5 : Int32) (x6 : Int32) (x7 : Int32) (x8 : Int32) (L : QH FA) (F : Nat) : xnG call 19 (F + 1) 108 [some (vR (wJ W kt + 42)), o1, some (vI x2), some (vR 36), some (vR 37), some (vI x5), some (vI x6), some (vI x7), some (vI x8)] [] L = xnG call 19 F 6 [some (vR (wJ W kt + 42)), o1, some (vI x2), some (vR 36), some (vR 37), some (vI x5), some (vI x6), some (vI x7), some (vI x8)] [] L := rfl
set_option maxRecDepth 100000 in
theorem bh_c6_19_28 (call : QC FA) (o1 : Option PV) (x2 : Int32) (x5 : Int32) (x6 : Int32) (x7 : Int32) (x8 : Int32) (L : QH FA) (F : Nat) : xnG call 19 (F + 1) 37 [some (vR (wJ W kt + 42)), o1, some (vI x2), some (vR 36), some (vR 37), some (vI x5), some (vI x6), some (vI x7), some (vI x8)] [] L = xnG call 19 F 38 [some (vR (wJ W kt + 42)), o1, some (vI x2), some (vR 36), some (vR 37), some (vI x5), some (vI x6), some (vI x7), some (vI x8)] [vI x8] L := rfl
set_option maxRecDepth 100000 in
theorem bh_c6_19_29 (call : QC FA) (x : Int32) (ls : List (Option PV)) (L : QH FA) (F : Nat) : xnG call 19 (F + 1) 38 ls [vI x] L = bif pcmp 2 x 0 then xnG call 19 F 107 ls [] L else xnG call 19 F 39 ls [] L := rfl
set_option maxRecDepth 100000 in
theorem bh_c6_19_30 (call : QC FA) (o1 : Option PV) (x2 : Int32) (x5 : Int32) (x6 : Int32) (x7 : Int32) (x8 : Int32) (L : QH FA) (F : Nat) : xnG call 19 (F + 4) 39 [some (vR (wJ W kt + 42)), o1, some (vI x2), some (vR 36), some (vR 37), some (vI x5), some (vI x6), some (vI x7), some (vI x8)] [] L = xnG call 19 F 43 [some (vR (wJ W kt + 42)), o1, some (vI x2), some (vR 36), some (vR 37), some (vI x5), some (vI x6), some (vI x7), some (vI x8)] [vI 1, vI x7, vI x5, vR 37] L := rfl
set_option maxRecDepth 100000 in
theorem bh_c6_19_31 (call : QC FA) (x y : Int32) (s0 : Int32) (ls : List (Option PV)) (L : QH FA) (F : Nat) : xnG call 19 (F + 1) 43 ls [vI y, vI x, vI s0, vR 37] L = bif pcmp 1 x y then xnG call 19 F 52 ls [vI s0, vR 37] L else xnG call 19 F 44 ls [vI s0, vR 37] L := rfl
set_option maxRecDepth 100000 in
theorem bh_c6_19_32 (call : QC FA) (o1 : Option PV) (x2 : Int32) (x5 : Int32) (x6 : Int32) (x7 : Int32) (x8 : Int32) (s0 : Int32) (L : QH FA) (F : Nat) : xnG call 19 (F + 1) 52 [some (vR (wJ W kt + 42)), o1, some (vI x2), some (vR 36), some (vR 37), some (vI x5), some (vI x6), some (vI x7), some (vI x8)] [vI s0, vR 37] L = xnG call 19 F 53 [some (vR (wJ W kt + 42)), o1, some (vI x2), some (vR 36), some (vR 37), some (vI x5), some (vI x6), some (vI x7), some (vI x8)] [vI x8, vI s0, vR 37] L := rfl
set_option maxRecDepth 100000 in
theorem bh_c6_19_33 (call : QC FA) (x y : Int32) (ls : List (Option PV)) (z : Nat → Int32) (f : Nat → FA) (F : Nat) : xnG call 19 (F + 1) 53 ls [vI y, vI x, vR 37] (LW W z f) = bif (Nat.beq 0 0 && pin x 32) then xnG call 19 F 54 ls [] (LW W z (uA f 37 (upd (f 37) (ix x) y))) else none := rfl
set_option maxRecDepth 100000 in
theorem bh_c6_19_34 (call : QC FA) (o1 : Option PV) (x2 : Int32) (x5 : Int32) (x6 : Int32) (x7 : Int32) (x8 : Int32) (L : QH FA) (F : Nat) : xnG call 19 (F + 1) 54 [some (vR (wJ W kt + 42)), o1, some (vI x2), some (vR 36), some (vR 37), some (vI x5), some (vI x6), some (vI x7), some (vI x8)] [] L = xnG call 19 F 55 [some (vR (wJ W kt + 42)), o1, some (vI x2), some (vR 36), some (vR 37), some (vI (x5 + 1)), some (vI x6), some (vI x7), some (vI x8)] [] L := rfl
set_option maxRecDepth 100000 in
theorem bh_c6_19_35 (call : QC FA) (o1 : Option PV) (x2 : Int32) (x5 : Int32) (x6 : Int32) (x7 : Int32) (x8 : Int32) (L : QH FA) (F : Nat) : xnG call 19 (F + 1) 55 [some (vR (wJ W kt + 42)), o1, some (vI x2), some (vR 36), some (vR 37), some (vI x5), some (vI x6), some (vI x7), some (vI x8)] [] L = xnG call 19 F 107 [some (vR (wJ W kt + 42)), o1, some (vI x2), some (vR 36), some (vR 37), some (vI x5), some (vI x6), some (vI x7), some (vI x8)] [] L := rfl
set_option maxRecDepth 100000 in
theorem bh_c6_19_36 (call : QC FA) (o1 : Option PV) (x2 : Int32) (x5 : Int32) (x6 : Int32) (x7 : Int32) (x8 : Int32) (s0 : Int32) (z : Nat → Int32) (f : Nat → FA) (F : Nat) : xnG call 19 (F + 3) 44 [some (vR (wJ W kt + 42)), o1, some (vI x2), some (vR 36), some (vR 37), some (vI x5), some (vI x6), some (vI x7), some (vI x8)] [vI s0, vR 37] (LW W z f) = xnG call 19 F 47 [some (vR (wJ W kt + 42)), o1, some (vI x2), some (vR 36), some (vR 37), some (vI x5), some (vI x6), some (vI x7), some (vI x8)] [vI (nI 10), vI x8, vI s0, vR 37] (LW W z f) := rfl
set_option maxRecDepth 100000 in
theorem bh_c6_19_37 (call : QC FA) (x y : Int32) (s0 : Int32) (ls : List (Option PV)) (L : QH FA) (F : Nat) : xnG call 19 (F + 1) 47 ls [vI y, vI x, vI s0, vR 37] L = bif pcmp 3 x y then xnG call 19 F 52 ls [vI s0, vR 37] L else xnG call 19 F 48 ls [vI s0, vR 37] L := rfl
set_option maxRecDepth 100000 in
theorem bh_c6_19_38 (call : QC FA) (o1 : Option PV) (x2 : Int32) (x5 : Int32) (x6 : Int32) (x7 : Int32) (x8 : Int32) (s0 : Int32) (L : QH FA) (F : Nat) : xnG call 19 (F + 2) 48 [some (vR (wJ W kt + 42)), o1, some (vI x2), some (vR 36), some (vR 37), some (vI x5), some (vI x6), some (vI x7), some (vI x8)] [vI s0, vR 37] L = xnG call 19 F 50 [some (vR (wJ W kt + 42)), o1, some (vI x2), some (vR 36), some (vR 37), some (vI x5), some (vI x6), some (vI x7), some (vI x8)] [vI x8, vR 36, vI s0, vR 37] L := rfl
set_option maxRecDepth 100000 in
theorem bh_c6_19_39 (call : QC FA) (x : Int32) (s0 : Int32) (ls : List (Option PV)) (z : Nat → Int32) (f : Nat → FA) (F : Nat) : xnG call 19 (F + 1) 50 ls [vI x, vR 36, vI s0, vR 37] (LW W z f) = bif (Nat.beq 0 0 && pin x 10) then xnG call 19 F 51 ls [vI (f 36 (ix x)), vI s0, vR 37] (LW W z f) else none := rfl
set_option maxRecDepth 100000 in
theorem bh_c6_19_40 (call : QC FA) (o1 : Option PV) (x2 : Int32) (x5 : Int32) (x6 : Int32) (x7 : Int32) (x8 : Int32) (s0 : Int32) (s1 : Int32) (L : QH FA) (F : Nat) : xnG call 19 (F + 1) 51 [some (vR (wJ W kt + 42)), o1, some (vI x2), some (vR 36), some (vR 37), some (vI x5), some (vI x6), some (vI x7), some (vI x8)] [vI s0, vI s1, vR 37] L = xnG call 19 F 53 [some (vR (wJ W kt + 42)), o1, some (vI x2), some (vR 36), some (vR 37), some (vI x5), some (vI x6), some (vI x7), some (vI x8)] [vI s0, vI s1, vR 37] L := rfl
set_option maxRecDepth 100000 in
theorem bh_c6_19_41 (call : QC FA) (o1 : Option PV) (x2 : Int32) (x5 : Int32) (x6 : Int32) (x7 : Int32) (x8 : Int32) (L : QH FA) (F : Nat) : xnG call 19 (F + 2) 30 [some (vR (wJ W kt + 42)), o1, some (vI x2), some (vR 36), some (vR 37), some (vI x5), some (vI x6), some (vI x7), some (vI x8)] [] L = xnG call 19 F 32 [some (vR (wJ W kt + 42)), o1, some (vI x2), some (vR 36), some (vR 37), some (vI x5), some (vI x6), some (vI x7), some (vI x8)] [vI 1, vI x7] L := rfl
set_option maxRecDepth 100000 in
theorem bh_c6_19_42 (call : QC FA) (x y : Int32) (ls : List (Option PV)) (L : QH FA) (F : Nat) : xnG call 19 (F + 1) 32 ls [vI y, vI x] L = bif pcmp 1 x y then xnG call 19 F 56 ls [] L else xnG call 19 F 33 ls [] L := rfl
set_option maxRecDepth 100000 in
theorem bh_c6_19_43 (call : QC FA) (o1 : Option PV) (x2 : Int32) (x5 : Int32) (x6 : Int32) (x7 : Int32) (x8 : Int32) (L : QH FA) (F : Nat) : xnG call 19 (F + 2) 56 [some (vR (wJ W kt + 42)), o1, some (vI x2), some (vR 36), some (vR 37), some (vI x5), some (vI x6), some (vI x7), some (vI x8)] [] L = xnG call 19 F 58 [some (vR (wJ W kt + 42)), o1, some (vI x2), some (vR 36), some (vR 37), some (vI x5), some (vI x6), some (vI x7), some (vI x8)] [vI 2, vI x7] L := rfl
set_option maxRecDepth 100000 in
theorem bh_c6_19_44 (call : QC FA) (x y : Int32) (ls : List (Option PV)) (L : QH FA) (F : Nat) : xnG call 19 (F + 1) 58 ls [vI y, vI x] L = bif pcmp 0 x y then xnG call 19 F 62 ls [] L else xnG call 19 F 59 ls [] L := rfl
set_option maxRecDepth 100000 in
theorem bh_c6_19_45 (call : QC FA) (o1 : Option PV) (x2 : Int32) (x5 : Int32) (x6 : Int32) (x7 : Int32) (x8 : Int32) (L : QH FA) (F : Nat) : xnG call 19 (F + 1) 62 [some (vR (wJ W kt + 42)), o1, some (vI x2), some (vR 36), some (vR 37), some (vI x5), some (vI x6), some (vI x7), some (vI x8)] [] L = xnG call 19 F 63 [some (vR (wJ W kt + 42)), o1, some (vI x2), some (vR 36), some (vR 37), some (vI x5), some (vI x6), some (vI x7), some (vI x8)] [vI x5] L := rfl
set_option maxRecDepth 100000 in
theorem bh_c6_19_46 (call : QC FA) (x : Int32) (ls : List (Option PV)) (L : QH FA) (F : Nat) : xnG call 19 (F + 1) 63 ls [vI x] L = bif pcmp 5 x 0 then xnG call 19 F 107 ls [] L else xnG call 19 F 64 ls [] L := rfl
set_option maxRecDepth 100000 in
theorem bh_c6_19_47 (call : QC FA) (o1 : Option PV) (x2 : Int32) (x5 : Int32) (x6 : Int32) (x7 : Int32) (x8 : Int32) (L : QH FA) (F : Nat) : xnG call 19 (F + 6) 64 [some (vR (wJ W kt + 42)), o1, some (vI x2), some (vR 36), some (vR 37), some (vI x5), some (vI x6), some (vI x7), some (vI x8)] [] L = xnG call 19 F 70 [some (vR (wJ W kt + 42)), o1, some (vI x2), some (vR 36), some (vR 37), some (vI x5), some (vI x6), some (vI x7), some (vI x8)] [vI 3, vI x7, vI (x5 - 1), vR 37] L := rfl
set_option maxRecDepth 100000 in
theorem bh_c6_19_48 (call : QC FA) (x y : Int32) (s0 : Int32) (ls : List (Option PV)) (L : QH FA) (F : Nat) : xnG call 19 (F + 1) 70 ls [vI y, vI x, vI s0, vR 37] L = bif pcmp 1 x y then xnG call 19 F 79 ls [vI s0, vR 37] L else xnG call 19 F 71 ls [vI s0, vR 37] L := rfl
set_option maxRecDepth 100000 in
theorem bh_c6_19_49 (call : QC FA) (o1 : Option PV) (x2 : Int32) (x5 : Int32) (x6 : Int32) (x7 : Int32) (x8 : Int32) (s0 : Int32) (L : QH FA) (F : Nat) : xnG call 19 (F + 4) 79 [some (vR (wJ W kt + 42)), o1, some (vI x2), some (vR 36), some (vR 37), some (vI x5), some (vI x6), some (vI x7), some (vI x8)] [vI s0, vR 37] L = xnG call 19 F 83 [some (vR (wJ W kt + 42)), o1, some (vI x2), some (vR 36), some (vR 37), some (vI x5), some (vI x6), some (vI x7), some (vI x8)] [vI (x5 - 1), vR 37, vI s0, vR 37] L := rfl
set_option maxRecDepth 100000 in
theorem bh_c6_19_50 (call : QC FA) (x : Int32) (s0 : Int32) (ls : List (Option PV)) (z : Nat → Int32) (f : Nat → FA) (F : Nat) : xnG call 19 (F + 1) 83 ls [vI x, vR 37, vI s0, vR 37] (LW W z f) = bif (Nat.beq 0 0 && pin x 32) then xnG call 19 F 84 ls [vI (f 37 (ix x)), vI s0, vR 37] (LW W z f) else none := rfl
set_option maxRecDepth 100000 in
theorem bh_c6_19_51 (call : QC FA) (o1 : Option PV) (x2 : Int32) (x5 : Int32) (x6 : Int32) (x7 : Int32) (x8 : Int32) (s0 : Int32) (s1 : Int32) (L : QH FA) (F : Nat) : xnG call 19 (F + 1) 84 [some (vR (wJ W kt + 42)), o1, some (vI x2), some (vR 36), some (vR 37), some (vI x5), some (vI x6), some (vI x7), some (vI x8)] [vI s0, vI s1, vR 37] L = xnG call 19 F 85 [some (vR (wJ W kt + 42)), o1, some (vI x2), some (vR 36), some (vR 37), some (vI x5), some (vI x6), some (vI x7), some (vI x8)] [vI x8, vI s0, vI s1, vR 37] L := rfl
set_option maxRecDepth 100000 in
theorem bh_c6_19_52 (call : QC FA) (a0 : Int32) (a1 : Int32) (s0 : Int32) (ls : List (Option PV)) (z : Nat → Int32) (f : Nat → FA) (F : Nat) : xnG call 19 (F + 1) 85 ls [vI a1, vI a0, vI s0, vR 37] (LW W z f) = cbd (call 20 [vI a0, vI a1] (LW W z f)) (fun r L' => xnG call 19 F 86 ls (r.toList ++ [vI s0, vR 37]) L') := pcZ (ih := xnG call 19 F) (call := call) (a := 20) (b := 2) (t := 86) (ls := ls) (As := [vI a0, vI a1]) (st' := [vI s0, vR 37]) (L := LW W z f) rfl rfl
set_option maxRecDepth 100000 in
theorem bh_c6_19_53 (call : QC FA) (x y : Int32) (ls : List (Option PV)) (z : Nat → Int32) (f : Nat → FA) (F : Nat) : xnG call 19 (F + 1) 86 ls [vI y, vI x, vR 37] (LW W z f) = bif (Nat.beq 0 0 && pin x 32) then xnG call 19 F 87 ls [] (LW W z (uA f 37 (upd (f 37) (ix x) y))) else none := rfl
set_option maxRecDepth 100000 in
theorem bh_c6_19_54 (call : QC FA) (o1 : Option PV) (x2 : Int32) (x5 : Int32) (x6 : Int32) (x7 : Int32) (x8 : Int32) (L : QH FA) (F : Nat) : xnG call 19 (F + 1) 87 [some (vR (wJ W kt + 42)), o1, some (vI x2), some (vR 36), some (vR 37), some (vI x5), some (vI x6), some (vI x7), some (vI x8)] [] L = xnG call 19 F 107 [some (vR (wJ W kt + 42)), o1, some (vI x2), some (vR 36), some (vR 37), some (vI x5), some (vI x6), some (vI x7), some (vI x8)] [] L := rfl
set_option maxRecDepth 100000 in
theorem bh_c6_19_55 (call : QC FA) (o1 : Option PV) (x2 : Int32) (x5 : Int32) (x6 : Int32) (x7 : Int32) (x8 : Int32) (s0 : Int32) (L : QH FA) (F : Nat) : xnG call 19 (F + 5) 71 [some (vR (wJ W kt + 42)), o1, some (vI x2), some (vR 36), some (vR 37), some (vI x5), some (vI x6), some (vI x7), some (vI x8)] [vI s0, vR 37] L = xnG call 19 F 76 [some (vR (wJ W kt + 42)), o1, some (vI x2), some (vR 36), some (vR 37), some (vI x5), some (vI x6), some (vI x7), some (vI x8)] [vI (x5 - 1), vR 37, vI 1, vI s0, vR 37] L := rfl
set_option maxRecDepth 100000 in
theorem bh_c6_19_56 (call : QC FA) (x : Int32) (s0 : Int32) (s1 : Int32) (ls : List (Option PV)) (z : Nat → Int32) (f : Nat → FA) (F : Nat) : xnG call 19 (F + 1) 76 ls [vI x, vR 37, vI s0, vI s1, vR 37] (LW W z f) = bif (Nat.beq 0 0 && pin x 32) then xnG call 19 F 77 ls [vI (f 37 (ix x)), vI s0, vI s1, vR 37] (LW W z f) else none := rfl
set_option maxRecDepth 100000 in
theorem bh_c6_19_57 (call : QC FA) (o1 : Option PV) (x2 : Int32) (x5 : Int32) (x6 : Int32) (x7 : Int32) (x8 : Int32) (s0 : Int32) (s1 : Int32) (s2 : Int32) (L : QH FA) (F : Nat) : xnG call 19 (F + 2) 77 [some (vR (wJ W kt + 42)), o1, some (vI x2), some (vR 36), some (vR 37), some (vI x5), some (vI x6), some (vI x7), some (vI x8)] [vI s0, vI s1, vI s2, vR 37] L = xnG call 19 F 86 [some (vR (wJ W kt + 42)), o1, some (vI x2), some (vR 36), some (vR 37), some (vI x5), some (vI x6), some (vI x7), some (vI x8)] [vI (s1 - s0), vI s2, vR 37] L := rfl
set_option maxRecDepth 100000 in
theorem bh_c6_19_58 (call : QC FA) (o1 : Option PV) (x2 : Int32) (x5 : Int32) (x6 : Int32) (x7 : Int32) (x8 : Int32) (L : QH FA) (F : Nat) : xnG call 19 (F + 2) 59 [some (vR (wJ W kt + 42)), o1, some (vI x2), some (vR 36), some (vR 37), some (vI x5), some (vI x6), some (vI x7), some (vI x8)] [] L = xnG call 19 F 61 [some (vR (wJ W kt + 42)), o1, some (vI x2), some (vR 36), some (vR 37), some (vI x5), some (vI x6), some (vI x7), some (vI x8)] [vI 3, vI x7] L := rfl
set_option maxRecDepth 100000 in
theorem bh_c6_19_59 (call : QC FA) (x y : Int32) (ls : List (Option PV)) (L : QH FA) (F : Nat) : xnG call 19 (F + 1) 61 ls [vI y, vI x] L = bif pcmp 1 x y then xnG call 19 F 88 ls [] L else xnG call 19 F 62 ls [] L := rfl
set_option maxRecDepth 100000 in
theorem bh_c6_19_60 (call : QC FA) (o1 : Option PV) (x2 : Int32) (x5 : Int32) (x6 : Int32) (x7 : Int32) (x8 : Int32) (L : QH FA) (F : Nat) : xnG call 19 (F + 2) 88 [some (vR (wJ W kt + 42)), o1, some (vI x2), some (vR 36), some (vR 37), some (vI x5), some (vI x6), some (vI x7), some (vI x8)] [] L = xnG call 19 F 90 [some (vR (wJ W kt + 42)), o1, some (vI x2), some (vR 36), some (vR 37), some (vI x5), some (vI x6), some (vI x7), some (vI x8)] [vI 1, vI x5] L := rfl
set_option maxRecDepth 100000 in
theorem bh_c6_19_61 (call : QC FA) (x y : Int32) (ls : List (Option PV)) (L : QH FA) (F : Nat) : xnG call 19 (F + 1) 90 ls [vI y, vI x] L = bif pcmp 5 x y then xnG call 19 F 107 ls [] L else xnG call 19 F 91 ls [] L := rfl
theorem bh_c6_19_62i (ih : QK FA) (t : Nat) (v x : Int32) (l0 l1 l2 l3 l4 l6 l7 l8 : Option PV) (st : List PV) (L : QH FA) : p_iinc ih fzF 5 v t [l0, l1, l2, l3, l4, some (vI x), l6, l7, l8] st L = ih t [l0, l1, l2, l3, l4, some (vI (x + v)), l6, l7, l8] st L := rfl
set_option maxRecDepth 100000 in
theorem bh_c6_19_62 (call : QC FA) (o1 : Option PV) (x2 : Int32) (x5 : Int32) (x6 : Int32) (x7 : Int32) (x8 : Int32) (L : QH FA) (F : Nat) : xnG call 19 (F + 1) 91 [some (vR (wJ W kt + 42)), o1, some (vI x2), some (vR 36), some (vR 37), some (vI x5), some (vI x6), some (vI x7), some (vI x8)] [] L = xnG call 19 F 92 [some (vR (wJ W kt + 42)), o1, some (vI x2), some (vR 36), some (vR 37), some (vI (x5 + (-1))), some (vI x6), some (vI x7), some (vI x8)] [] L := bh_c6_19_62i (xnG call 19 F) 92 (-1) x5 _ _ _ _ _ _ _ _ _ _
set_option maxRecDepth 100000 in
theorem bh_c6_19_63 (call : QC FA) (o1 : Option PV) (x2 : Int32) (x5 : Int32) (x6 : Int32) (x7 : Int32) (x8 : Int32) (L : QH FA) (F : Nat) : xnG call 19 (F + 9) 92 [some (vR (wJ W kt + 42)), o1, some (vI x2), some (vR 36), some (vR 37), some (vI x5), some (vI x6), some (vI x7), some (vI x8)] [] L = xnG call 19 F 101 [some (vR (wJ W kt + 42)), o1, some (vI x2), some (vR 36), some (vR 37), some (vI x5), some (vI x6), some (vI x7), some (vI x8)] [vI (x5 - 1), vR 37, vI x7, vI (x5 - 1), vR 37] L := rfl
set_option maxRecDepth 100000 in
theorem bh_c6_19_64 (call : QC FA) (x : Int32) (s0 : Int32) (s1 : Int32) (ls : List (Option PV)) (z : Nat → Int32) (f : Nat → FA) (F : Nat) : xnG call 19 (F + 1) 101 ls [vI x, vR 37, vI s0, vI s1, vR 37] (LW W z f) = bif (Nat.beq 0 0 && pin x 32) then xnG call 19 F 102 ls [vI (f 37 (ix x)), vI s0, vI s1, vR 37] (LW W z f) else none := rfl
set_option maxRecDepth 100000 in
theorem bh_c6_19_65 (call : QC FA) (o1 : Option PV) (x2 : Int32) (x5 : Int32) (x6 : Int32) (x7 : Int32) (x8 : Int32) (s0 : Int32) (s1 : Int32) (s2 : Int32) (L : QH FA) (F : Nat) : xnG call 19 (F + 2) 102 [some (vR (wJ W kt + 42)), o1, some (vI x2), some (vR 36), some (vR 37), some (vI x5), some (vI x6), some (vI x7), some (vI x8)] [vI s0, vI s1, vI s2, vR 37] L = xnG call 19 F 104 [some (vR (wJ W kt + 42)), o1, some (vI x2), some (vR 36), some (vR 37), some (vI x5), some (vI x6), some (vI x7), some (vI x8)] [vI x5, vR 37, vI s0, vI s1, vI s2, vR 37] L := rfl
set_option maxRecDepth 100000 in
theorem bh_c6_19_66 (call : QC FA) (x : Int32) (s0 : Int32) (s1 : Int32) (s2 : Int32) (ls : List (Option PV)) (z : Nat → Int32) (f : Nat → FA) (F : Nat) : xnG call 19 (F + 1) 104 ls [vI x, vR 37, vI s0, vI s1, vI s2, vR 37] (LW W z f) = bif (Nat.beq 0 0 && pin x 32) then xnG call 19 F 105 ls [vI (f 37 (ix x)), vI s0, vI s1, vI s2, vR 37] (LW W z f) else none := rfl
set_option maxRecDepth 100000 in
theorem bh_c6_19_67 (call : QC FA) (a0 : Int32) (a1 : Int32) (a2 : Int32) (s0 : Int32) (ls : List (Option PV)) (z : Nat → Int32) (f : Nat → FA) (F : Nat) : xnG call 19 (F + 1) 105 ls [vI a2, vI a1, vI a0, vI s0, vR 37] (LW W z f) = cbd (call 21 [vI a0, vI a1, vI a2] (LW W z f)) (fun r L' => xnG call 19 F 106 ls (r.toList ++ [vI s0, vR 37]) L') := pcZ (ih := xnG call 19 F) (call := call) (a := 21) (b := 3) (t := 106) (ls := ls) (As := [vI a0, vI a1, vI a2]) (st' := [vI s0, vR 37]) (L := LW W z f) rfl rfl
set_option maxRecDepth 100000 in
theorem bh_c6_19_68 (call : QC FA) (x y : Int32) (ls : List (Option PV)) (z : Nat → Int32) (f : Nat → FA) (F : Nat) : xnG call 19 (F + 1) 106 ls [vI y, vI x, vR 37] (LW W z f) = bif (Nat.beq 0 0 && pin x 32) then xnG call 19 F 107 ls [] (LW W z (uA f 37 (upd (f 37) (ix x) y))) else none := rfl
theorem vch_c6_19_6 (hW : WTX W) (hk : kt < 4) (call : QC FA) (o1 : Option PV) (x2 : Int32) (x5 : Int32) (x6 : Int32) (o7 : Option PV) (o8 : Option PV) (z : Nat → Int32) (f : Nat → FA) (res : Option PV × QH FA) (H : ((I x2 ≤ I x6 → ((I x5 ≤ 0 → res = (some (vI 0), LW W z f)) ∧ (0 < I x5 → (pin 0 32 = true ∧ res = (some (vI (f 37 (ix 0))), LW W z f))))) ∧ (I x6 < I x2 → ((I (nI (wM W kt)) ≤ I x6 → ((I x5 ≤ 0 → res = (some (vI 0), LW W z f)) ∧ (0 < I x5 → (pin 0 32 = true ∧ res = (some (vI (f 37 (ix 0))), LW W z f))))) ∧ (I x6 < I (nI (wM W kt)) → (pin x6 (wM W kt) = true ∧ (pin x6 (wM W kt) = true ∧ (((wh W kt (ix x6)) &&& 15 = 0 → ((I (nI 32) ≤ I x5 → XC call (mP 19) 6 [some (vR (wJ W kt + 42)), o1, some (vI x2), some (vR 36), some (vR 37), some (vI x5), some (vI (x6 + 1)), some (vI ((wh W kt (ix x6)) &&& 15)), some (vI ((wh W kt (ix x6)) >>> (4 &&& 31)))] [] (LW W z f) res) ∧ (I x5 < I (nI 32) → ((I ((wh W kt (ix x6)) >>> (4 &&& 31)) < 0 → XC call (mP 19) 6 [some (vR (wJ W kt + 42)), o1, some (vI x2), some (vR 36), some (vR 37), some (vI x5), some (vI (x6 + 1)), some (vI ((wh W kt (ix x6)) &&& 15)), some (vI ((wh W kt (ix x6)) >>> (4 &&& 31)))] [] (LW W z f) res) ∧ (0 ≤ I ((wh W kt (ix x6)) >>> (4 &&& 31)) → ((¬ (wh W kt (ix x6)) &&& 15 = 1 → (pin x5 32 = true ∧ XC call (mP 19) 6 [some (vR (wJ W kt + 42)), o1, some (vI x2), some (vR 36), some (vR 37), some (vI (x5 + 1)), some (vI (x6 + 1)), some (vI ((wh W kt (ix x6)) &&& 15)), some (vI ((wh W kt (ix x6)) >>> (4 &&& 31)))] [] (LW W z (uA f 37 (upd (f 37) (ix x5) ((wh W kt (ix x6)) >>> (4 &&& 31))))) res)) ∧ ((wh W kt (ix x6)) &&& 15 = 1 → ((I (nI 10) ≤ I ((wh W kt (ix x6)) >>> (4 &&& 31)) → (pin x5 32 = true ∧ XC call (mP 19) 6 [some (vR (wJ W kt + 42)), o1, some (vI x2), some (vR 36), some (vR 37), some (vI (x5 + 1)), some (vI (x6 + 1)), some (vI ((wh W kt (ix x6)) &&& 15)), some (vI ((wh W kt (ix x6)) >>> (4 &&& 31)))] [] (LW W z (uA f 37 (upd (f 37) (ix x5) ((wh W kt (ix x6)) >>> (4 &&& 31))))) res)) ∧ (I ((wh W kt (ix x6)) >>> (4 &&& 31)) < I (nI 10) → (pin ((wh W kt (ix x6)) >>> (4 &&& 31)) 10 = true ∧ (pin x5 32 = true ∧ XC call (mP 19) 6 [some (vR (wJ W kt + 42)), o1, some (vI x2), some (vR 36), some (vR 37), some (vI (x5 + 1)), some (vI (x6 + 1)), some (vI ((wh W kt (ix x6)) &&& 15)), some (vI ((wh W kt (ix x6)) >>> (4 &&& 31)))] [] (LW W z (uA f 37 (upd (f 37) (ix x5) (f 36 (ix ((wh W kt (ix x6)) >>> (4 &&& 31))))))) res))))))))))) ∧ (¬ (wh W kt (ix x6)) &&& 15 = 0 → ((¬ (wh W kt (ix x6)) &&& 15 = 1 → (((wh W kt (ix x6)) &&& 15 = 2 → ((I x5 ≤ 0 → XC call (mP 19) 6 [some (vR (wJ W kt + 42)), o1, some (vI x2), some (vR 36), some (vR 37), some (vI x5), some (vI (x6 + 1)), some (vI ((wh W kt (ix x6)) &&& 15)), some (vI ((wh W kt (ix x6)) >>> (4 &&& 31)))] [] (LW W z f) res) ∧ (0 < I x5 → ((¬ (wh W kt (ix x6)) &&& 15 = 3 → (pin (x5 - 1) 32 = true ∧ (∃ (r1 : Int32) (z1 : Nat → Int32) (f1 : Nat → FA), call 20 [vI (f 37 (ix (x5 - 1))), vI ((wh W kt (ix x6)) >>> (4 &&& 31))] (LW W z f) = some (some (vI r1), LW W z1 f1) ∧ (pin (x5 - 1) 32 = true ∧ XC call (mP 19) 6 [some (vR (wJ W kt + 42)), o1, some (vI x2), some (vR 36), some (vR 37), some (vI x5), some (vI (x6 + 1)), some (vI ((wh W kt (ix x6)) &&& 15)), some (vI ((wh W kt (ix x6)) >>> (4 &&& 31)))] [] (LW W z1 (uA f1 37 (upd (f1 37) (ix (x5 - 1)) r1))) res)))) ∧ ((wh W kt (ix x6)) &&& 15 = 3 → (pin (x5 - 1) 32 = true ∧ (pin (x5 - 1) 32 = true ∧ XC call (mP 19) 6 [some (vR (wJ W kt + 42)), o1, some (vI x2), some (vR 36), some (vR 37), some (vI x5), some (vI (x6 + 1)), some (vI ((wh W kt (ix x6)) &&& 15)), some (vI ((wh W kt (ix x6)) >>> (4 &&& 31)))] [] (LW W z (uA f 37 (upd (f 37) (ix (x5 - 1)) (1 - (f 37 (ix (x5 - 1))))))) res))))))) ∧ (¬ (wh W kt (ix x6)) &&& 15 = 2 → ((¬ (wh W kt (ix x6)) &&& 15 = 3 → ((I x5 ≤ 1 → XC call (mP 19) 6 [some (vR (wJ W kt + 42)), o1, some (vI x2), some (vR 36), some (vR 37), some (vI x5), some (vI (x6 + 1)), some (vI ((wh W kt (ix x6)) &&& 15)), some (vI ((wh W kt (ix x6)) >>> (4 &&& 31)))] [] (LW W z f) res) ∧ (1 < I x5 → (pin ((x5 + (-1)) - 1) 32 = true ∧ (pin (x5 + (-1)) 32 = true ∧ (∃ (r2 : Int32) (z2 : Nat → Int32) (f2 : Nat → FA), call 21 [vI ((wh W kt (ix x6)) &&& 15), vI (f 37 (ix ((x5 + (-1)) - 1))), vI (f 37 (ix (x5 + (-1))))] (LW W z f) = some (some (vI r2), LW W z2 f2) ∧ (pin ((x5 + (-1)) - 1) 32 = true ∧ XC call (mP 19) 6 [some (vR (wJ W kt + 42)), o1, some (vI x2), some (vR 36), some (vR 37), some (vI (x5 + (-1))), some (vI (x6 + 1)), some (vI ((wh W kt (ix x6)) &&& 15)), some (vI ((wh W kt (ix x6)) >>> (4 &&& 31)))] [] (LW W z2 (uA f2 37 (upd (f2 37) (ix ((x5 + (-1)) - 1)) r2))) res))))))) ∧ ((wh W kt (ix x6)) &&& 15 = 3 → ((I x5 ≤ 0 → XC call (mP 19) 6 [some (vR (wJ W kt + 42)), o1, some (vI x2), some (vR 36), some (vR 37), some (vI x5), some (vI (x6 + 1)), some (vI ((wh W kt (ix x6)) &&& 15)), some (vI ((wh W kt (ix x6)) >>> (4 &&& 31)))] [] (LW W z f) res) ∧ (0 < I x5 → (pin (x5 - 1) 32 = true ∧ (pin (x5 - 1) 32 = true ∧ XC call (mP 19) 6 [some (vR (wJ W kt + 42)), o1, some (vI x2), some (vR 36), some (vR 37), some (vI x5), some (vI (x6 + 1)), some (vI ((wh W kt (ix x6)) &&& 15)), some (vI ((wh W kt (ix x6)) >>> (4 &&& 31)))] [] (LW W z (uA f 37 (upd (f 37) (ix (x5 - 1)) (1 - (f 37 (ix (x5 - 1))))))) res))))))))) ∧ ((wh W kt (ix x6)) &&& 15 = 1 → ((I (nI 32) ≤ I x5 → XC call (mP 19) 6 [some (vR (wJ W kt + 42)), o1, some (vI x2), some (vR 36), some (vR 37), some (vI x5), some (vI (x6 + 1)), some (vI ((wh W kt (ix x6)) &&& 15)), some (vI ((wh W kt (ix x6)) >>> (4 &&& 31)))] [] (LW W z f) res) ∧ (I x5 < I (nI 32) → ((I ((wh W kt (ix x6)) >>> (4 &&& 31)) < 0 → XC call (mP 19) 6 [some (vR (wJ W kt + 42)), o1, some (vI x2), some (vR 36), some (vR 37), some (vI x5), some (vI (x6 + 1)), some (vI ((wh W kt (ix x6)) &&& 15)), some (vI ((wh W kt (ix x6)) >>> (4 &&& 31)))] [] (LW W z f) res) ∧ (0 ≤ I ((wh W kt (ix x6)) >>> (4 &&& 31)) → ((I (nI 10) ≤ I ((wh W kt (ix x6)) >>> (4 &&& 31)) → (pin x5 32 = true ∧ XC call (mP 19) 6 [some (vR (wJ W kt + 42)), o1, some (vI x2), some (vR 36), some (vR 37), some (vI (x5 + 1)), some (vI (x6 + 1)), some (vI ((wh W kt (ix x6)) &&& 15)), some (vI ((wh W kt (ix x6)) >>> (4 &&& 31)))] [] (LW W z (uA f 37 (upd (f 37) (ix x5) ((wh W kt (ix x6)) >>> (4 &&& 31))))) res)) ∧ (I ((wh W kt (ix x6)) >>> (4 &&& 31)) < I (nI 10) → (pin ((wh W kt (ix x6)) >>> (4 &&& 31)) 10 = true ∧ (pin x5 32 = true ∧ XC call (mP 19) 6 [some (vR (wJ W kt + 42)), o1, some (vI x2), some (vR 36), some (vR 37), some (vI (x5 + 1)), some (vI (x6 + 1)), some (vI ((wh W kt (ix x6)) &&& 15)), some (vI ((wh W kt (ix x6)) >>> (4 &&& 31)))] [] (LW W z (uA f 37 (upd (f 37) (ix x5) (f 36 (ix ((wh W kt (ix x6)) >>> (4 &&& 31))))))) res))))))))))))))))))) : XC call (mP 19) 6 [some (vR (wJ W kt + 42)), o1, some (vI x2), some (vR 36), some (vR 37), some (vI x5), some (vI x6), o7, o8] [] (LW W z f) res := by
  refine xc_b (i' := 8) (ls' := [some (vR (wJ W kt + 42)), o1, some (vI x2), some (vR 36), some (vR 37), some (vI x5), some (vI x6), o7, o8]) (st' := [vI x2, vI x6]) (L' := LW W z f) 2 (bh_c6_19_1 call o1 x2 x5 x6 o7 o8 _) ?_
  refine xc_if (it := 109) (ie := 9) (ls' := [some (vR (wJ W kt + 42)), o1, some (vI x2), some (vR 36), some (vR 37), some (vI x5), some (vI x6), o7, o8]) (st' := []) (bh_c6_19_2 call x6 x2 _ _) (fun q1 => ?_) (fun q1 => ?_)
  · have H := H.1 (cI3t q1 rfl rfl)
    refine xc_b (i' := 110) (ls' := [some (vR (wJ W kt + 42)), o1, some (vI x2), some (vR 36), some (vR 37), some (vI x5), some (vI x6), o7, o8]) (st' := [vI x5]) (L' := LW W z f) 1 (bh_c6_19_3 call o1 x2 x5 x6 o7 o8 _) ?_
    refine xc_if (it := 115) (ie := 111) (ls' := [some (vR (wJ W kt + 42)), o1, some (vI x2), some (vR 36), some (vR 37), some (vI x5), some (vI x6), o7, o8]) (st' := []) (bh_c6_19_4 call x5 _ _) (fun q2 => ?_) (fun q2 => ?_)
    · have H := H.1 (cI5t q2 rfl rfl)
      refine xc_b (i' := 116) (ls' := [some (vR (wJ W kt + 42)), o1, some (vI x2), some (vR 36), some (vR 37), some (vI x5), some (vI x6), o7, o8]) (st' := [vI 0]) (L' := LW W z f) 1 (bh_c6_19_5 call o1 x2 x5 x6 o7 o8 _) ?_
      subst H
      exact xc_ret (bh_c6_19_6 call _ _ _)
    · have H := H.2 (cI5f q2 rfl rfl)
      refine xc_b (i' := 113) (ls' := [some (vR (wJ W kt + 42)), o1, some (vI x2), some (vR 36), some (vR 37), some (vI x5), some (vI x6), o7, o8]) (st' := [vI 0, vR 37]) (L' := LW W z f) 2 (bh_c6_19_7 call o1 x2 x5 x6 o7 o8 _) ?_
      obtain ⟨g1, H⟩ := H
      refine xc_g (i' := 114) (ls' := [some (vR (wJ W kt + 42)), o1, some (vI x2), some (vR 36), some (vR 37), some (vI x5), some (vI x6), o7, o8]) (st' := [vI (f 37 (ix 0))]) (L' := LW W z f) (bh_c6_19_8 call 0 _ z f) (pinG g1) ?_
      refine xc_b (i' := 116) (ls' := [some (vR (wJ W kt + 42)), o1, some (vI x2), some (vR 36), some (vR 37), some (vI x5), some (vI x6), o7, o8]) (st' := [vI (f 37 (ix 0))]) (L' := LW W z f) 1 (bh_c6_19_9 call o1 x2 x5 x6 o7 o8 (f 37 (ix 0)) _) ?_
      subst H
      exact xc_ret (bh_c6_19_6 call _ _ _)
  · have H := H.2 (cI3f q1 rfl rfl)
    refine xc_b (i' := 11) (ls' := [some (vR (wJ W kt + 42)), o1, some (vI x2), some (vR 36), some (vR 37), some (vI x5), some (vI x6), o7, o8]) (st' := [vR (wJ W kt + 42), vI x6]) (L' := LW W z f) 2 (bh_c6_19_10 call o1 x2 x5 x6 o7 o8 _) ?_
    refine xc_b (i' := 12) (ls' := [some (vR (wJ W kt + 42)), o1, some (vI x2), some (vR 36), some (vR 37), some (vI x5), some (vI x6), o7, o8]) (st' := [vR (wC W kt + 42), vI x6]) (L' := LW W z f) 1 (bh_c6_19_11 hW hk call x6 _ z f) ?_
    refine xc_b (i' := 13) (ls' := [some (vR (wJ W kt + 42)), o1, some (vI x2), some (vR 36), some (vR 37), some (vI x5), some (vI x6), o7, o8]) (st' := [vI (nI (wM W kt)), vI x6]) (L' := LW W z f) 1 (bh_c6_19_12 hW hk call x6 _ z f) ?_
    refine xc_if (it := 109) (ie := 14) (ls' := [some (vR (wJ W kt + 42)), o1, some (vI x2), some (vR 36), some (vR 37), some (vI x5), some (vI x6), o7, o8]) (st' := []) (bh_c6_19_13 call x6 (nI (wM W kt)) _ _) (fun q3 => ?_) (fun q3 => ?_)
    · have H := H.1 (cI3t q3 rfl rfl)
      refine xc_b (i' := 110) (ls' := [some (vR (wJ W kt + 42)), o1, some (vI x2), some (vR 36), some (vR 37), some (vI x5), some (vI x6), o7, o8]) (st' := [vI x5]) (L' := LW W z f) 1 (bh_c6_19_3 call o1 x2 x5 x6 o7 o8 _) ?_
      refine xc_if (it := 115) (ie := 111) (ls' := [some (vR (wJ W kt + 42)), o1, some (vI x2), some (vR 36), some (vR 37), some (vI x5), some (vI x6), o7, o8]) (st' := []) (bh_c6_19_4 call x5 _ _) (fun q4 => ?_) (fun q4 => ?_)
      · have H := H.1 (cI5t q4 rfl rfl)
        refine xc_b (i' := 116) (ls' := [some (vR (wJ W kt + 42)), o1, some (vI x2), some (vR 36), some (vR 37), some (vI x5), some (vI x6), o7, o8]) (st' := [vI 0]) (L' := LW W z f) 1 (bh_c6_19_5 call o1 x2 x5 x6 o7 o8 _) ?_
        subst H
        exact xc_ret (bh_c6_19_6 call _ _ _)
      · have H := H.2 (cI5f q4 rfl rfl)
        refine xc_b (i' := 113) (ls' := [some (vR (wJ W kt + 42)), o1, some (vI x2), some (vR 36), some (vR 37), some (vI x5), some (vI x6), o7, o8]) (st' := [vI 0, vR 37]) (L' := LW W z f) 2 (bh_c6_19_7 call o1 x2 x5 x6 o7 o8 _) ?_
        obtain ⟨g1, H⟩ := H
        refine xc_g (i' := 114) (ls' := [some (vR (wJ W kt + 42)), o1, some (vI x2), some (vR 36), some (vR 37), some (vI x5), some (vI x6), o7, o8]) (st' := [vI (f 37 (ix 0))]) (L' := LW W z f) (bh_c6_19_8 call 0 _ z f) (pinG g1) ?_
        refine xc_b (i' := 116) (ls' := [some (vR (wJ W kt + 42)), o1, some (vI x2), some (vR 36), some (vR 37), some (vI x5), some (vI x6), o7, o8]) (st' := [vI (f 37 (ix 0))]) (L' := LW W z f) 1 (bh_c6_19_9 call o1 x2 x5 x6 o7 o8 (f 37 (ix 0)) _) ?_
        subst H
        exact xc_ret (bh_c6_19_6 call _ _ _)
    · have H := H.2 (cI3f q3 rfl rfl)
      refine xc_b (i' := 15) (ls' := [some (vR (wJ W kt + 42)), o1, some (vI x2), some (vR 36), some (vR 37), some (vI x5), some (vI x6), o7, o8]) (st' := [vR (wJ W kt + 42)]) (L' := LW W z f) 1 (bh_c6_19_14 call o1 x2 x5 x6 o7 o8 _) ?_
      refine xc_b (i' := 16) (ls' := [some (vR (wJ W kt + 42)), o1, some (vI x2), some (vR 36), some (vR 37), some (vI x5), some (vI x6), o7, o8]) (st' := [vR (wC W kt + 42)]) (L' := LW W z f) 1 (bh_c6_19_15 hW hk call _ z f) ?_
      refine xc_b (i' := 17) (ls' := [some (vR (wJ W kt + 42)), o1, some (vI x2), some (vR 36), some (vR 37), some (vI x5), some (vI x6), o7, o8]) (st' := [vI x6, vR (wC W kt + 42)]) (L' := LW W z f) 1 (bh_c6_19_16 call o1 x2 x5 x6 o7 o8 _) ?_
      obtain ⟨g1, H⟩ := H
      refine xc_g (i' := 18) (ls' := [some (vR (wJ W kt + 42)), o1, some (vI x2), some (vR 36), some (vR 37), some (vI x5), some (vI x6), o7, o8]) (st' := [vI (wh W kt (ix x6))]) (L' := LW W z f) (bh_c6_19_17 hW hk call x6 _ z f) g1 ?_
      refine xc_b (i' := 22) (ls' := [some (vR (wJ W kt + 42)), o1, some (vI x2), some (vR 36), some (vR 37), some (vI x5), some (vI x6), some (vI ((wh W kt (ix x6)) &&& 15)), o8]) (st' := [vR (wJ W kt + 42)]) (L' := LW W z f) 4 (bh_c6_19_18 call o1 x2 x5 x6 o7 o8 (wh W kt (ix x6)) _) ?_
      refine xc_b (i' := 23) (ls' := [some (vR (wJ W kt + 42)), o1, some (vI x2), some (vR 36), some (vR 37), some (vI x5), some (vI x6), some (vI ((wh W kt (ix x6)) &&& 15)), o8]) (st' := [vR (wC W kt + 42)]) (L' := LW W z f) 1 (bh_c6_19_19 hW hk call _ z f) ?_
      refine xc_b (i' := 24) (ls' := [some (vR (wJ W kt + 42)), o1, some (vI x2), some (vR 36), some (vR 37), some (vI x5), some (vI x6), some (vI ((wh W kt (ix x6)) &&& 15)), o8]) (st' := [vI x6, vR (wC W kt + 42)]) (L' := LW W z f) 1 (bh_c6_19_20 call o1 x2 x5 x6 ((wh W kt (ix x6)) &&& 15) o8 _) ?_
      obtain ⟨g1, H⟩ := H
      refine xc_g (i' := 25) (ls' := [some (vR (wJ W kt + 42)), o1, some (vI x2), some (vR 36), some (vR 37), some (vI x5), some (vI x6), some (vI ((wh W kt (ix x6)) &&& 15)), o8]) (st' := [vI (wh W kt (ix x6))]) (L' := LW W z f) (bh_c6_19_21 hW hk call x6 _ z f) g1 ?_
      refine xc_b (i' := 29) (ls' := [some (vR (wJ W kt + 42)), o1, some (vI x2), some (vR 36), some (vR 37), some (vI x5), some (vI x6), some (vI ((wh W kt (ix x6)) &&& 15)), some (vI ((wh W kt (ix x6)) >>> (4 &&& 31)))]) (st' := [vI ((wh W kt (ix x6)) &&& 15)]) (L' := LW W z f) 4 (bh_c6_19_22 call o1 x2 x5 x6 ((wh W kt (ix x6)) &&& 15) o8 (wh W kt (ix x6)) _) ?_
      refine xc_if (it := 33) (ie := 30) (ls' := [some (vR (wJ W kt + 42)), o1, some (vI x2), some (vR 36), some (vR 37), some (vI x5), some (vI x6), some (vI ((wh W kt (ix x6)) &&& 15)), some (vI ((wh W kt (ix x6)) >>> (4 &&& 31)))]) (st' := []) (bh_c6_19_23 call ((wh W kt (ix x6)) &&& 15) _ _) (fun q5 => ?_) (fun q5 => ?_)
      · have H := H.1 (cI0t q5)
        refine xc_b (i' := 36) (ls' := [some (vR (wJ W kt + 42)), o1, some (vI x2), some (vR 36), some (vR 37), some (vI x5), some (vI x6), some (vI ((wh W kt (ix x6)) &&& 15)), some (vI ((wh W kt (ix x6)) >>> (4 &&& 31)))]) (st' := [vI (nI 32), vI x5]) (L' := LW W z f) 3 (bh_c6_19_24 call o1 x2 x5 x6 ((wh W kt (ix x6)) &&& 15) ((wh W kt (ix x6)) >>> (4 &&& 31)) z f) ?_
        refine xc_if (it := 107) (ie := 37) (ls' := [some (vR (wJ W kt + 42)), o1, some (vI x2), some (vR 36), some (vR 37), some (vI x5), some (vI x6), some (vI ((wh W kt (ix x6)) &&& 15)), some (vI ((wh W kt (ix x6)) >>> (4 &&& 31)))]) (st' := []) (bh_c6_19_25 call x5 (nI 32) _ _) (fun q6 => ?_) (fun q6 => ?_)
        · have H := H.1 (cI3t q6 rfl rfl)
          refine xc_b (i' := 108) (ls' := [some (vR (wJ W kt + 42)), o1, some (vI x2), some (vR 36), some (vR 37), some (vI x5), some (vI (x6 + 1)), some (vI ((wh W kt (ix x6)) &&& 15)), some (vI ((wh W kt (ix x6)) >>> (4 &&& 31)))]) (st' := []) (L' := LW W z f) 1 (bh_c6_19_26 call o1 x2 x5 x6 ((wh W kt (ix x6)) &&& 15) ((wh W kt (ix x6)) >>> (4 &&& 31)) _) ?_
          refine xc_b (i' := 6) (ls' := [some (vR (wJ W kt + 42)), o1, some (vI x2), some (vR 36), some (vR 37), some (vI x5), some (vI (x6 + 1)), some (vI ((wh W kt (ix x6)) &&& 15)), some (vI ((wh W kt (ix x6)) >>> (4 &&& 31)))]) (st' := []) (L' := LW W z f) 1 (bh_c6_19_27 call o1 x2 x5 (x6 + 1) ((wh W kt (ix x6)) &&& 15) ((wh W kt (ix x6)) >>> (4 &&& 31)) _) ?_
          exact H
        · have H := H.2 (cI3f q6 rfl rfl)
          refine xc_b (i' := 38) (ls' := [some (vR (wJ W kt + 42)), o1, some (vI x2), some (vR 36), some (vR 37), some (vI x5), some (vI x6), some (vI ((wh W kt (ix x6)) &&& 15)), some (vI ((wh W kt (ix x6)) >>> (4 &&& 31)))]) (st' := [vI ((wh W kt (ix x6)) >>> (4 &&& 31))]) (L' := LW W z f) 1 (bh_c6_19_28 call o1 x2 x5 x6 ((wh W kt (ix x6)) &&& 15) ((wh W kt (ix x6)) >>> (4 &&& 31)) _) ?_
          refine xc_if (it := 107) (ie := 39) (ls' := [some (vR (wJ W kt + 42)), o1, some (vI x2), some (vR 36), some (vR 37), some (vI x5), some (vI x6), some (vI ((wh W kt (ix x6)) &&& 15)), some (vI ((wh W kt (ix x6)) >>> (4 &&& 31)))]) (st' := []) (bh_c6_19_29 call ((wh W kt (ix x6)) >>> (4 &&& 31)) _ _) (fun q7 => ?_) (fun q7 => ?_)
          · have H := H.1 (cI2t q7 rfl rfl)
            refine xc_b (i' := 108) (ls' := [some (vR (wJ W kt + 42)), o1, some (vI x2), some (vR 36), some (vR 37), some (vI x5), some (vI (x6 + 1)), some (vI ((wh W kt (ix x6)) &&& 15)), some (vI ((wh W kt (ix x6)) >>> (4 &&& 31)))]) (st' := []) (L' := LW W z f) 1 (bh_c6_19_26 call o1 x2 x5 x6 ((wh W kt (ix x6)) &&& 15) ((wh W kt (ix x6)) >>> (4 &&& 31)) _) ?_
            refine xc_b (i' := 6) (ls' := [some (vR (wJ W kt + 42)), o1, some (vI x2), some (vR 36), some (vR 37), some (vI x5), some (vI (x6 + 1)), some (vI ((wh W kt (ix x6)) &&& 15)), some (vI ((wh W kt (ix x6)) >>> (4 &&& 31)))]) (st' := []) (L' := LW W z f) 1 (bh_c6_19_27 call o1 x2 x5 (x6 + 1) ((wh W kt (ix x6)) &&& 15) ((wh W kt (ix x6)) >>> (4 &&& 31)) _) ?_
            exact H
          · have H := H.2 (cI2f q7 rfl rfl)
            refine xc_b (i' := 43) (ls' := [some (vR (wJ W kt + 42)), o1, some (vI x2), some (vR 36), some (vR 37), some (vI x5), some (vI x6), some (vI ((wh W kt (ix x6)) &&& 15)), some (vI ((wh W kt (ix x6)) >>> (4 &&& 31)))]) (st' := [vI 1, vI ((wh W kt (ix x6)) &&& 15), vI x5, vR 37]) (L' := LW W z f) 4 (bh_c6_19_30 call o1 x2 x5 x6 ((wh W kt (ix x6)) &&& 15) ((wh W kt (ix x6)) >>> (4 &&& 31)) _) ?_
            refine xc_if (it := 52) (ie := 44) (ls' := [some (vR (wJ W kt + 42)), o1, some (vI x2), some (vR 36), some (vR 37), some (vI x5), some (vI x6), some (vI ((wh W kt (ix x6)) &&& 15)), some (vI ((wh W kt (ix x6)) >>> (4 &&& 31)))]) (st' := [vI x5, vR 37]) (bh_c6_19_31 call ((wh W kt (ix x6)) &&& 15) 1 x5 _ _) (fun q8 => ?_) (fun q8 => ?_)
            · have H := H.1 (cI1t q8)
              refine xc_b (i' := 53) (ls' := [some (vR (wJ W kt + 42)), o1, some (vI x2), some (vR 36), some (vR 37), some (vI x5), some (vI x6), some (vI ((wh W kt (ix x6)) &&& 15)), some (vI ((wh W kt (ix x6)) >>> (4 &&& 31)))]) (st' := [vI ((wh W kt (ix x6)) >>> (4 &&& 31)), vI x5, vR 37]) (L' := LW W z f) 1 (bh_c6_19_32 call o1 x2 x5 x6 ((wh W kt (ix x6)) &&& 15) ((wh W kt (ix x6)) >>> (4 &&& 31)) x5 _) ?_
              obtain ⟨g1, H⟩ := H
              refine xc_g (i' := 54) (ls' := [some (vR (wJ W kt + 42)), o1, some (vI x2), some (vR 36), some (vR 37), some (vI x5), some (vI x6), some (vI ((wh W kt (ix x6)) &&& 15)), some (vI ((wh W kt (ix x6)) >>> (4 &&& 31)))]) (st' := []) (L' := LW W z (uA f 37 (upd (f 37) (ix x5) ((wh W kt (ix x6)) >>> (4 &&& 31))))) (bh_c6_19_33 call x5 ((wh W kt (ix x6)) >>> (4 &&& 31)) _ z f) (pinG g1) ?_
              refine xc_b (i' := 55) (ls' := [some (vR (wJ W kt + 42)), o1, some (vI x2), some (vR 36), some (vR 37), some (vI (x5 + 1)), some (vI x6), some (vI ((wh W kt (ix x6)) &&& 15)), some (vI ((wh W kt (ix x6)) >>> (4 &&& 31)))]) (st' := []) (L' := LW W z (uA f 37 (upd (f 37) (ix x5) ((wh W kt (ix x6)) >>> (4 &&& 31))))) 1 (bh_c6_19_34 call o1 x2 x5 x6 ((wh W kt (ix x6)) &&& 15) ((wh W kt (ix x6)) >>> (4 &&& 31)) _) ?_
              refine xc_b (i' := 107) (ls' := [some (vR (wJ W kt + 42)), o1, some (vI x2), some (vR 36), some (vR 37), some (vI (x5 + 1)), some (vI x6), some (vI ((wh W kt (ix x6)) &&& 15)), some (vI ((wh W kt (ix x6)) >>> (4 &&& 31)))]) (st' := []) (L' := LW W z (uA f 37 (upd (f 37) (ix x5) ((wh W kt (ix x6)) >>> (4 &&& 31))))) 1 (bh_c6_19_35 call o1 x2 (x5 + 1) x6 ((wh W kt (ix x6)) &&& 15) ((wh W kt (ix x6)) >>> (4 &&& 31)) _) ?_
              refine xc_b (i' := 108) (ls' := [some (vR (wJ W kt + 42)), o1, some (vI x2), some (vR 36), some (vR 37), some (vI (x5 + 1)), some (vI (x6 + 1)), some (vI ((wh W kt (ix x6)) &&& 15)), some (vI ((wh W kt (ix x6)) >>> (4 &&& 31)))]) (st' := []) (L' := LW W z (uA f 37 (upd (f 37) (ix x5) ((wh W kt (ix x6)) >>> (4 &&& 31))))) 1 (bh_c6_19_26 call o1 x2 (x5 + 1) x6 ((wh W kt (ix x6)) &&& 15) ((wh W kt (ix x6)) >>> (4 &&& 31)) _) ?_
              refine xc_b (i' := 6) (ls' := [some (vR (wJ W kt + 42)), o1, some (vI x2), some (vR 36), some (vR 37), some (vI (x5 + 1)), some (vI (x6 + 1)), some (vI ((wh W kt (ix x6)) &&& 15)), some (vI ((wh W kt (ix x6)) >>> (4 &&& 31)))]) (st' := []) (L' := LW W z (uA f 37 (upd (f 37) (ix x5) ((wh W kt (ix x6)) >>> (4 &&& 31))))) 1 (bh_c6_19_27 call o1 x2 (x5 + 1) (x6 + 1) ((wh W kt (ix x6)) &&& 15) ((wh W kt (ix x6)) >>> (4 &&& 31)) _) ?_
              exact H
            · have H := H.2 (cI1f q8)
              refine xc_b (i' := 47) (ls' := [some (vR (wJ W kt + 42)), o1, some (vI x2), some (vR 36), some (vR 37), some (vI x5), some (vI x6), some (vI ((wh W kt (ix x6)) &&& 15)), some (vI ((wh W kt (ix x6)) >>> (4 &&& 31)))]) (st' := [vI (nI 10), vI ((wh W kt (ix x6)) >>> (4 &&& 31)), vI x5, vR 37]) (L' := LW W z f) 3 (bh_c6_19_36 call o1 x2 x5 x6 ((wh W kt (ix x6)) &&& 15) ((wh W kt (ix x6)) >>> (4 &&& 31)) x5 z f) ?_
              refine xc_if (it := 52) (ie := 48) (ls' := [some (vR (wJ W kt + 42)), o1, some (vI x2), some (vR 36), some (vR 37), some (vI x5), some (vI x6), some (vI ((wh W kt (ix x6)) &&& 15)), some (vI ((wh W kt (ix x6)) >>> (4 &&& 31)))]) (st' := [vI x5, vR 37]) (bh_c6_19_37 call ((wh W kt (ix x6)) >>> (4 &&& 31)) (nI 10) x5 _ _) (fun q9 => ?_) (fun q9 => ?_)
              · have H := H.1 (cI3t q9 rfl rfl)
                refine xc_b (i' := 53) (ls' := [some (vR (wJ W kt + 42)), o1, some (vI x2), some (vR 36), some (vR 37), some (vI x5), some (vI x6), some (vI ((wh W kt (ix x6)) &&& 15)), some (vI ((wh W kt (ix x6)) >>> (4 &&& 31)))]) (st' := [vI ((wh W kt (ix x6)) >>> (4 &&& 31)), vI x5, vR 37]) (L' := LW W z f) 1 (bh_c6_19_32 call o1 x2 x5 x6 ((wh W kt (ix x6)) &&& 15) ((wh W kt (ix x6)) >>> (4 &&& 31)) x5 _) ?_
                obtain ⟨g1, H⟩ := H
                refine xc_g (i' := 54) (ls' := [some (vR (wJ W kt + 42)), o1, some (vI x2), some (vR 36), some (vR 37), some (vI x5), some (vI x6), some (vI ((wh W kt (ix x6)) &&& 15)), some (vI ((wh W kt (ix x6)) >>> (4 &&& 31)))]) (st' := []) (L' := LW W z (uA f 37 (upd (f 37) (ix x5) ((wh W kt (ix x6)) >>> (4 &&& 31))))) (bh_c6_19_33 call x5 ((wh W kt (ix x6)) >>> (4 &&& 31)) _ z f) (pinG g1) ?_
                refine xc_b (i' := 55) (ls' := [some (vR (wJ W kt + 42)), o1, some (vI x2), some (vR 36), some (vR 37), some (vI (x5 + 1)), some (vI x6), some (vI ((wh W kt (ix x6)) &&& 15)), some (vI ((wh W kt (ix x6)) >>> (4 &&& 31)))]) (st' := []) (L' := LW W z (uA f 37 (upd (f 37) (ix x5) ((wh W kt (ix x6)) >>> (4 &&& 31))))) 1 (bh_c6_19_34 call o1 x2 x5 x6 ((wh W kt (ix x6)) &&& 15) ((wh W kt (ix x6)) >>> (4 &&& 31)) _) ?_
                refine xc_b (i' := 107) (ls' := [some (vR (wJ W kt + 42)), o1, some (vI x2), some (vR 36), some (vR 37), some (vI (x5 + 1)), some (vI x6), some (vI ((wh W kt (ix x6)) &&& 15)), some (vI ((wh W kt (ix x6)) >>> (4 &&& 31)))]) (st' := []) (L' := LW W z (uA f 37 (upd (f 37) (ix x5) ((wh W kt (ix x6)) >>> (4 &&& 31))))) 1 (bh_c6_19_35 call o1 x2 (x5 + 1) x6 ((wh W kt (ix x6)) &&& 15) ((wh W kt (ix x6)) >>> (4 &&& 31)) _) ?_
                refine xc_b (i' := 108) (ls' := [some (vR (wJ W kt + 42)), o1, some (vI x2), some (vR 36), some (vR 37), some (vI (x5 + 1)), some (vI (x6 + 1)), some (vI ((wh W kt (ix x6)) &&& 15)), some (vI ((wh W kt (ix x6)) >>> (4 &&& 31)))]) (st' := []) (L' := LW W z (uA f 37 (upd (f 37) (ix x5) ((wh W kt (ix x6)) >>> (4 &&& 31))))) 1 (bh_c6_19_26 call o1 x2 (x5 + 1) x6 ((wh W kt (ix x6)) &&& 15) ((wh W kt (ix x6)) >>> (4 &&& 31)) _) ?_
                refine xc_b (i' := 6) (ls' := [some (vR (wJ W kt + 42)), o1, some (vI x2), some (vR 36), some (vR 37), some (vI (x5 + 1)), some (vI (x6 + 1)), some (vI ((wh W kt (ix x6)) &&& 15)), some (vI ((wh W kt (ix x6)) >>> (4 &&& 31)))]) (st' := []) (L' := LW W z (uA f 37 (upd (f 37) (ix x5) ((wh W kt (ix x6)) >>> (4 &&& 31))))) 1 (bh_c6_19_27 call o1 x2 (x5 + 1) (x6 + 1) ((wh W kt (ix x6)) &&& 15) ((wh W kt (ix x6)) >>> (4 &&& 31)) _) ?_
                exact H
              · have H := H.2 (cI3f q9 rfl rfl)
                refine xc_b (i' := 50) (ls' := [some (vR (wJ W kt + 42)), o1, some (vI x2), some (vR 36), some (vR 37), some (vI x5), some (vI x6), some (vI ((wh W kt (ix x6)) &&& 15)), some (vI ((wh W kt (ix x6)) >>> (4 &&& 31)))]) (st' := [vI ((wh W kt (ix x6)) >>> (4 &&& 31)), vR 36, vI x5, vR 37]) (L' := LW W z f) 2 (bh_c6_19_38 call o1 x2 x5 x6 ((wh W kt (ix x6)) &&& 15) ((wh W kt (ix x6)) >>> (4 &&& 31)) x5 _) ?_
                obtain ⟨g1, H⟩ := H
                refine xc_g (i' := 51) (ls' := [some (vR (wJ W kt + 42)), o1, some (vI x2), some (vR 36), some (vR 37), some (vI x5), some (vI x6), some (vI ((wh W kt (ix x6)) &&& 15)), some (vI ((wh W kt (ix x6)) >>> (4 &&& 31)))]) (st' := [vI (f 36 (ix ((wh W kt (ix x6)) >>> (4 &&& 31)))), vI x5, vR 37]) (L' := LW W z f) (bh_c6_19_39 call ((wh W kt (ix x6)) >>> (4 &&& 31)) x5 _ z f) (pinG g1) ?_
                refine xc_b (i' := 53) (ls' := [some (vR (wJ W kt + 42)), o1, some (vI x2), some (vR 36), some (vR 37), some (vI x5), some (vI x6), some (vI ((wh W kt (ix x6)) &&& 15)), some (vI ((wh W kt (ix x6)) >>> (4 &&& 31)))]) (st' := [vI (f 36 (ix ((wh W kt (ix x6)) >>> (4 &&& 31)))), vI x5, vR 37]) (L' := LW W z f) 1 (bh_c6_19_40 call o1 x2 x5 x6 ((wh W kt (ix x6)) &&& 15) ((wh W kt (ix x6)) >>> (4 &&& 31)) (f 36 (ix ((wh W kt (ix x6)) >>> (4 &&& 31)))) x5 _) ?_
                obtain ⟨g1, H⟩ := H
                refine xc_g (i' := 54) (ls' := [some (vR (wJ W kt + 42)), o1, some (vI x2), some (vR 36), some (vR 37), some (vI x5), some (vI x6), some (vI ((wh W kt (ix x6)) &&& 15)), some (vI ((wh W kt (ix x6)) >>> (4 &&& 31)))]) (st' := []) (L' := LW W z (uA f 37 (upd (f 37) (ix x5) (f 36 (ix ((wh W kt (ix x6)) >>> (4 &&& 31))))))) (bh_c6_19_33 call x5 (f 36 (ix ((wh W kt (ix x6)) >>> (4 &&& 31)))) _ z f) (pinG g1) ?_
                refine xc_b (i' := 55) (ls' := [some (vR (wJ W kt + 42)), o1, some (vI x2), some (vR 36), some (vR 37), some (vI (x5 + 1)), some (vI x6), some (vI ((wh W kt (ix x6)) &&& 15)), some (vI ((wh W kt (ix x6)) >>> (4 &&& 31)))]) (st' := []) (L' := LW W z (uA f 37 (upd (f 37) (ix x5) (f 36 (ix ((wh W kt (ix x6)) >>> (4 &&& 31))))))) 1 (bh_c6_19_34 call o1 x2 x5 x6 ((wh W kt (ix x6)) &&& 15) ((wh W kt (ix x6)) >>> (4 &&& 31)) _) ?_
                refine xc_b (i' := 107) (ls' := [some (vR (wJ W kt + 42)), o1, some (vI x2), some (vR 36), some (vR 37), some (vI (x5 + 1)), some (vI x6), some (vI ((wh W kt (ix x6)) &&& 15)), some (vI ((wh W kt (ix x6)) >>> (4 &&& 31)))]) (st' := []) (L' := LW W z (uA f 37 (upd (f 37) (ix x5) (f 36 (ix ((wh W kt (ix x6)) >>> (4 &&& 31))))))) 1 (bh_c6_19_35 call o1 x2 (x5 + 1) x6 ((wh W kt (ix x6)) &&& 15) ((wh W kt (ix x6)) >>> (4 &&& 31)) _) ?_
                refine xc_b (i' := 108) (ls' := [some (vR (wJ W kt + 42)), o1, some (vI x2), some (vR 36), some (vR 37), some (vI (x5 + 1)), some (vI (x6 + 1)), some (vI ((wh W kt (ix x6)) &&& 15)), some (vI ((wh W kt (ix x6)) >>> (4 &&& 31)))]) (st' := []) (L' := LW W z (uA f 37 (upd (f 37) (ix x5) (f 36 (ix ((wh W kt (ix x6)) >>> (4 &&& 31))))))) 1 (bh_c6_19_26 call o1 x2 (x5 + 1) x6 ((wh W kt (ix x6)) &&& 15) ((wh W kt (ix x6)) >>> (4 &&& 31)) _) ?_
                refine xc_b (i' := 6) (ls' := [some (vR (wJ W kt + 42)), o1, some (vI x2), some (vR 36), some (vR 37), some (vI (x5 + 1)), some (vI (x6 + 1)), some (vI ((wh W kt (ix x6)) &&& 15)), some (vI ((wh W kt (ix x6)) >>> (4 &&& 31)))]) (st' := []) (L' := LW W z (uA f 37 (upd (f 37) (ix x5) (f 36 (ix ((wh W kt (ix x6)) >>> (4 &&& 31))))))) 1 (bh_c6_19_27 call o1 x2 (x5 + 1) (x6 + 1) ((wh W kt (ix x6)) &&& 15) ((wh W kt (ix x6)) >>> (4 &&& 31)) _) ?_
                exact H
      · have H := H.2 (cI0f q5)
        refine xc_b (i' := 32) (ls' := [some (vR (wJ W kt + 42)), o1, some (vI x2), some (vR 36), some (vR 37), some (vI x5), some (vI x6), some (vI ((wh W kt (ix x6)) &&& 15)), some (vI ((wh W kt (ix x6)) >>> (4 &&& 31)))]) (st' := [vI 1, vI ((wh W kt (ix x6)) &&& 15)]) (L' := LW W z f) 2 (bh_c6_19_41 call o1 x2 x5 x6 ((wh W kt (ix x6)) &&& 15) ((wh W kt (ix x6)) >>> (4 &&& 31)) _) ?_
        refine xc_if (it := 56) (ie := 33) (ls' := [some (vR (wJ W kt + 42)), o1, some (vI x2), some (vR 36), some (vR 37), some (vI x5), some (vI x6), some (vI ((wh W kt (ix x6)) &&& 15)), some (vI ((wh W kt (ix x6)) >>> (4 &&& 31)))]) (st' := []) (bh_c6_19_42 call ((wh W kt (ix x6)) &&& 15) 1 _ _) (fun q10 => ?_) (fun q10 => ?_)
        · have H := H.1 (cI1t q10)
          refine xc_b (i' := 58) (ls' := [some (vR (wJ W kt + 42)), o1, some (vI x2), some (vR 36), some (vR 37), some (vI x5), some (vI x6), some (vI ((wh W kt (ix x6)) &&& 15)), some (vI ((wh W kt (ix x6)) >>> (4 &&& 31)))]) (st' := [vI 2, vI ((wh W kt (ix x6)) &&& 15)]) (L' := LW W z f) 2 (bh_c6_19_43 call o1 x2 x5 x6 ((wh W kt (ix x6)) &&& 15) ((wh W kt (ix x6)) >>> (4 &&& 31)) _) ?_
          refine xc_if (it := 62) (ie := 59) (ls' := [some (vR (wJ W kt + 42)), o1, some (vI x2), some (vR 36), some (vR 37), some (vI x5), some (vI x6), some (vI ((wh W kt (ix x6)) &&& 15)), some (vI ((wh W kt (ix x6)) >>> (4 &&& 31)))]) (st' := []) (bh_c6_19_44 call ((wh W kt (ix x6)) &&& 15) 2 _ _) (fun q11 => ?_) (fun q11 => ?_)
          · have H := H.1 (cI0t q11)
            refine xc_b (i' := 63) (ls' := [some (vR (wJ W kt + 42)), o1, some (vI x2), some (vR 36), some (vR 37), some (vI x5), some (vI x6), some (vI ((wh W kt (ix x6)) &&& 15)), some (vI ((wh W kt (ix x6)) >>> (4 &&& 31)))]) (st' := [vI x5]) (L' := LW W z f) 1 (bh_c6_19_45 call o1 x2 x5 x6 ((wh W kt (ix x6)) &&& 15) ((wh W kt (ix x6)) >>> (4 &&& 31)) _) ?_
            refine xc_if (it := 107) (ie := 64) (ls' := [some (vR (wJ W kt + 42)), o1, some (vI x2), some (vR 36), some (vR 37), some (vI x5), some (vI x6), some (vI ((wh W kt (ix x6)) &&& 15)), some (vI ((wh W kt (ix x6)) >>> (4 &&& 31)))]) (st' := []) (bh_c6_19_46 call x5 _ _) (fun q12 => ?_) (fun q12 => ?_)
            · have H := H.1 (cI5t q12 rfl rfl)
              refine xc_b (i' := 108) (ls' := [some (vR (wJ W kt + 42)), o1, some (vI x2), some (vR 36), some (vR 37), some (vI x5), some (vI (x6 + 1)), some (vI ((wh W kt (ix x6)) &&& 15)), some (vI ((wh W kt (ix x6)) >>> (4 &&& 31)))]) (st' := []) (L' := LW W z f) 1 (bh_c6_19_26 call o1 x2 x5 x6 ((wh W kt (ix x6)) &&& 15) ((wh W kt (ix x6)) >>> (4 &&& 31)) _) ?_
              refine xc_b (i' := 6) (ls' := [some (vR (wJ W kt + 42)), o1, some (vI x2), some (vR 36), some (vR 37), some (vI x5), some (vI (x6 + 1)), some (vI ((wh W kt (ix x6)) &&& 15)), some (vI ((wh W kt (ix x6)) >>> (4 &&& 31)))]) (st' := []) (L' := LW W z f) 1 (bh_c6_19_27 call o1 x2 x5 (x6 + 1) ((wh W kt (ix x6)) &&& 15) ((wh W kt (ix x6)) >>> (4 &&& 31)) _) ?_
              exact H
            · have H := H.2 (cI5f q12 rfl rfl)
              refine xc_b (i' := 70) (ls' := [some (vR (wJ W kt + 42)), o1, some (vI x2), some (vR 36), some (vR 37), some (vI x5), some (vI x6), some (vI ((wh W kt (ix x6)) &&& 15)), some (vI ((wh W kt (ix x6)) >>> (4 &&& 31)))]) (st' := [vI 3, vI ((wh W kt (ix x6)) &&& 15), vI (x5 - 1), vR 37]) (L' := LW W z f) 6 (bh_c6_19_47 call o1 x2 x5 x6 ((wh W kt (ix x6)) &&& 15) ((wh W kt (ix x6)) >>> (4 &&& 31)) _) ?_
              refine xc_if (it := 79) (ie := 71) (ls' := [some (vR (wJ W kt + 42)), o1, some (vI x2), some (vR 36), some (vR 37), some (vI x5), some (vI x6), some (vI ((wh W kt (ix x6)) &&& 15)), some (vI ((wh W kt (ix x6)) >>> (4 &&& 31)))]) (st' := [vI (x5 - 1), vR 37]) (bh_c6_19_48 call ((wh W kt (ix x6)) &&& 15) 3 (x5 - 1) _ _) (fun q13 => ?_) (fun q13 => ?_)
              · have H := H.1 (cI1t q13)
                refine xc_b (i' := 83) (ls' := [some (vR (wJ W kt + 42)), o1, some (vI x2), some (vR 36), some (vR 37), some (vI x5), some (vI x6), some (vI ((wh W kt (ix x6)) &&& 15)), some (vI ((wh W kt (ix x6)) >>> (4 &&& 31)))]) (st' := [vI (x5 - 1), vR 37, vI (x5 - 1), vR 37]) (L' := LW W z f) 4 (bh_c6_19_49 call o1 x2 x5 x6 ((wh W kt (ix x6)) &&& 15) ((wh W kt (ix x6)) >>> (4 &&& 31)) (x5 - 1) _) ?_
                obtain ⟨g1, H⟩ := H
                refine xc_g (i' := 84) (ls' := [some (vR (wJ W kt + 42)), o1, some (vI x2), some (vR 36), some (vR 37), some (vI x5), some (vI x6), some (vI ((wh W kt (ix x6)) &&& 15)), some (vI ((wh W kt (ix x6)) >>> (4 &&& 31)))]) (st' := [vI (f 37 (ix (x5 - 1))), vI (x5 - 1), vR 37]) (L' := LW W z f) (bh_c6_19_50 call (x5 - 1) (x5 - 1) _ z f) (pinG g1) ?_
                refine xc_b (i' := 85) (ls' := [some (vR (wJ W kt + 42)), o1, some (vI x2), some (vR 36), some (vR 37), some (vI x5), some (vI x6), some (vI ((wh W kt (ix x6)) &&& 15)), some (vI ((wh W kt (ix x6)) >>> (4 &&& 31)))]) (st' := [vI ((wh W kt (ix x6)) >>> (4 &&& 31)), vI (f 37 (ix (x5 - 1))), vI (x5 - 1), vR 37]) (L' := LW W z f) 1 (bh_c6_19_51 call o1 x2 x5 x6 ((wh W kt (ix x6)) &&& 15) ((wh W kt (ix x6)) >>> (4 &&& 31)) (f 37 (ix (x5 - 1))) (x5 - 1) _) ?_
                obtain ⟨r1, z1, f1, hc, H⟩ := H
                refine xc_call (t := 86) (ls' := [some (vR (wJ W kt + 42)), o1, some (vI x2), some (vR 36), some (vR 37), some (vI x5), some (vI x6), some (vI ((wh W kt (ix x6)) &&& 15)), some (vI ((wh W kt (ix x6)) >>> (4 &&& 31)))]) (st' := [vI (x5 - 1), vR 37]) (bh_c6_19_52 call (f 37 (ix (x5 - 1))) ((wh W kt (ix x6)) >>> (4 &&& 31)) (x5 - 1) _ z f) hc ?_
                show XC call (mP 19) 86 [some (vR (wJ W kt + 42)), o1, some (vI x2), some (vR 36), some (vR 37), some (vI x5), some (vI x6), some (vI ((wh W kt (ix x6)) &&& 15)), some (vI ((wh W kt (ix x6)) >>> (4 &&& 31)))] [vI r1, vI (x5 - 1), vR 37] (LW W z1 f1) res
                obtain ⟨g1, H⟩ := H
                refine xc_g (i' := 87) (ls' := [some (vR (wJ W kt + 42)), o1, some (vI x2), some (vR 36), some (vR 37), some (vI x5), some (vI x6), some (vI ((wh W kt (ix x6)) &&& 15)), some (vI ((wh W kt (ix x6)) >>> (4 &&& 31)))]) (st' := []) (L' := LW W z1 (uA f1 37 (upd (f1 37) (ix (x5 - 1)) r1))) (bh_c6_19_53 call (x5 - 1) r1 _ z1 f1) (pinG g1) ?_
                refine xc_b (i' := 107) (ls' := [some (vR (wJ W kt + 42)), o1, some (vI x2), some (vR 36), some (vR 37), some (vI x5), some (vI x6), some (vI ((wh W kt (ix x6)) &&& 15)), some (vI ((wh W kt (ix x6)) >>> (4 &&& 31)))]) (st' := []) (L' := LW W z1 (uA f1 37 (upd (f1 37) (ix (x5 - 1)) r1))) 1 (bh_c6_19_54 call o1 x2 x5 x6 ((wh W kt (ix x6)) &&& 15) ((wh W kt (ix x6)) >>> (4 &&& 31)) _) ?_
                refine xc_b (i' := 108) (ls' := [some (vR (wJ W kt + 42)), o1, some (vI x2), some (vR 36), some (vR 37), some (vI x5), some (vI (x6 + 1)), some (vI ((wh W kt (ix x6)) &&& 15)), some (vI ((wh W kt (ix x6)) >>> (4 &&& 31)))]) (st' := []) (L' := LW W z1 (uA f1 37 (upd (f1 37) (ix (x5 - 1)) r1))) 1 (bh_c6_19_26 call o1 x2 x5 x6 ((wh W kt (ix x6)) &&& 15) ((wh W kt (ix x6)) >>> (4 &&& 31)) _) ?_
                refine xc_b (i' := 6) (ls' := [some (vR (wJ W kt + 42)), o1, some (vI x2), some (vR 36), some (vR 37), some (vI x5), some (vI (x6 + 1)), some (vI ((wh W kt (ix x6)) &&& 15)), some (vI ((wh W kt (ix x6)) >>> (4 &&& 31)))]) (st' := []) (L' := LW W z1 (uA f1 37 (upd (f1 37) (ix (x5 - 1)) r1))) 1 (bh_c6_19_27 call o1 x2 x5 (x6 + 1) ((wh W kt (ix x6)) &&& 15) ((wh W kt (ix x6)) >>> (4 &&& 31)) _) ?_
                exact H
              · have H := H.2 (cI1f q13)
                refine xc_b (i' := 76) (ls' := [some (vR (wJ W kt + 42)), o1, some (vI x2), some (vR 36), some (vR 37), some (vI x5), some (vI x6), some (vI ((wh W kt (ix x6)) &&& 15)), some (vI ((wh W kt (ix x6)) >>> (4 &&& 31)))]) (st' := [vI (x5 - 1), vR 37, vI 1, vI (x5 - 1), vR 37]) (L' := LW W z f) 5 (bh_c6_19_55 call o1 x2 x5 x6 ((wh W kt (ix x6)) &&& 15) ((wh W kt (ix x6)) >>> (4 &&& 31)) (x5 - 1) _) ?_
                obtain ⟨g1, H⟩ := H
                refine xc_g (i' := 77) (ls' := [some (vR (wJ W kt + 42)), o1, some (vI x2), some (vR 36), some (vR 37), some (vI x5), some (vI x6), some (vI ((wh W kt (ix x6)) &&& 15)), some (vI ((wh W kt (ix x6)) >>> (4 &&& 31)))]) (st' := [vI (f 37 (ix (x5 - 1))), vI 1, vI (x5 - 1), vR 37]) (L' := LW W z f) (bh_c6_19_56 call (x5 - 1) 1 (x5 - 1) _ z f) (pinG g1) ?_
                refine xc_b (i' := 86) (ls' := [some (vR (wJ W kt + 42)), o1, some (vI x2), some (vR 36), some (vR 37), some (vI x5), some (vI x6), some (vI ((wh W kt (ix x6)) &&& 15)), some (vI ((wh W kt (ix x6)) >>> (4 &&& 31)))]) (st' := [vI (1 - (f 37 (ix (x5 - 1)))), vI (x5 - 1), vR 37]) (L' := LW W z f) 2 (bh_c6_19_57 call o1 x2 x5 x6 ((wh W kt (ix x6)) &&& 15) ((wh W kt (ix x6)) >>> (4 &&& 31)) (f 37 (ix (x5 - 1))) 1 (x5 - 1) _) ?_
                obtain ⟨g1, H⟩ := H
                refine xc_g (i' := 87) (ls' := [some (vR (wJ W kt + 42)), o1, some (vI x2), some (vR 36), some (vR 37), some (vI x5), some (vI x6), some (vI ((wh W kt (ix x6)) &&& 15)), some (vI ((wh W kt (ix x6)) >>> (4 &&& 31)))]) (st' := []) (L' := LW W z (uA f 37 (upd (f 37) (ix (x5 - 1)) (1 - (f 37 (ix (x5 - 1))))))) (bh_c6_19_53 call (x5 - 1) (1 - (f 37 (ix (x5 - 1)))) _ z f) (pinG g1) ?_
                refine xc_b (i' := 107) (ls' := [some (vR (wJ W kt + 42)), o1, some (vI x2), some (vR 36), some (vR 37), some (vI x5), some (vI x6), some (vI ((wh W kt (ix x6)) &&& 15)), some (vI ((wh W kt (ix x6)) >>> (4 &&& 31)))]) (st' := []) (L' := LW W z (uA f 37 (upd (f 37) (ix (x5 - 1)) (1 - (f 37 (ix (x5 - 1))))))) 1 (bh_c6_19_54 call o1 x2 x5 x6 ((wh W kt (ix x6)) &&& 15) ((wh W kt (ix x6)) >>> (4 &&& 31)) _) ?_
                refine xc_b (i' := 108) (ls' := [some (vR (wJ W kt + 42)), o1, some (vI x2), some (vR 36), some (vR 37), some (vI x5), some (vI (x6 + 1)), some (vI ((wh W kt (ix x6)) &&& 15)), some (vI ((wh W kt (ix x6)) >>> (4 &&& 31)))]) (st' := []) (L' := LW W z (uA f 37 (upd (f 37) (ix (x5 - 1)) (1 - (f 37 (ix (x5 - 1))))))) 1 (bh_c6_19_26 call o1 x2 x5 x6 ((wh W kt (ix x6)) &&& 15) ((wh W kt (ix x6)) >>> (4 &&& 31)) _) ?_
                refine xc_b (i' := 6) (ls' := [some (vR (wJ W kt + 42)), o1, some (vI x2), some (vR 36), some (vR 37), some (vI x5), some (vI (x6 + 1)), some (vI ((wh W kt (ix x6)) &&& 15)), some (vI ((wh W kt (ix x6)) >>> (4 &&& 31)))]) (st' := []) (L' := LW W z (uA f 37 (upd (f 37) (ix (x5 - 1)) (1 - (f 37 (ix (x5 - 1))))))) 1 (bh_c6_19_27 call o1 x2 x5 (x6 + 1) ((wh W kt (ix x6)) &&& 15) ((wh W kt (ix x6)) >>> (4 &&& 31)) _) ?_
                exact H
          · have H := H.2 (cI0f q11)
            refine xc_b (i' := 61) (ls' := [some (vR (wJ W kt + 42)), o1, some (vI x2), some (vR 36), some (vR 37), some (vI x5), some (vI x6), some (vI ((wh W kt (ix x6)) &&& 15)), some (vI ((wh W kt (ix x6)) >>> (4 &&& 31)))]) (st' := [vI 3, vI ((wh W kt (ix x6)) &&& 15)]) (L' := LW W z f) 2 (bh_c6_19_58 call o1 x2 x5 x6 ((wh W kt (ix x6)) &&& 15) ((wh W kt (ix x6)) >>> (4 &&& 31)) _) ?_
            refine xc_if (it := 88) (ie := 62) (ls' := [some (vR (wJ W kt + 42)), o1, some (vI x2), some (vR 36), some (vR 37), some (vI x5), some (vI x6), some (vI ((wh W kt (ix x6)) &&& 15)), some (vI ((wh W kt (ix x6)) >>> (4 &&& 31)))]) (st' := []) (bh_c6_19_59 call ((wh W kt (ix x6)) &&& 15) 3 _ _) (fun q14 => ?_) (fun q14 => ?_)
            · have H := H.1 (cI1t q14)
              refine xc_b (i' := 90) (ls' := [some (vR (wJ W kt + 42)), o1, some (vI x2), some (vR 36), some (vR 37), some (vI x5), some (vI x6), some (vI ((wh W kt (ix x6)) &&& 15)), some (vI ((wh W kt (ix x6)) >>> (4 &&& 31)))]) (st' := [vI 1, vI x5]) (L' := LW W z f) 2 (bh_c6_19_60 call o1 x2 x5 x6 ((wh W kt (ix x6)) &&& 15) ((wh W kt (ix x6)) >>> (4 &&& 31)) _) ?_
              refine xc_if (it := 107) (ie := 91) (ls' := [some (vR (wJ W kt + 42)), o1, some (vI x2), some (vR 36), some (vR 37), some (vI x5), some (vI x6), some (vI ((wh W kt (ix x6)) &&& 15)), some (vI ((wh W kt (ix x6)) >>> (4 &&& 31)))]) (st' := []) (bh_c6_19_61 call x5 1 _ _) (fun q15 => ?_) (fun q15 => ?_)
              · have H := H.1 (cI5t q15 rfl rfl)
                refine xc_b (i' := 108) (ls' := [some (vR (wJ W kt + 42)), o1, some (vI x2), some (vR 36), some (vR 37), some (vI x5), some (vI (x6 + 1)), some (vI ((wh W kt (ix x6)) &&& 15)), some (vI ((wh W kt (ix x6)) >>> (4 &&& 31)))]) (st' := []) (L' := LW W z f) 1 (bh_c6_19_26 call o1 x2 x5 x6 ((wh W kt (ix x6)) &&& 15) ((wh W kt (ix x6)) >>> (4 &&& 31)) _) ?_
                refine xc_b (i' := 6) (ls' := [some (vR (wJ W kt + 42)), o1, some (vI x2), some (vR 36), some (vR 37), some (vI x5), some (vI (x6 + 1)), some (vI ((wh W kt (ix x6)) &&& 15)), some (vI ((wh W kt (ix x6)) >>> (4 &&& 31)))]) (st' := []) (L' := LW W z f) 1 (bh_c6_19_27 call o1 x2 x5 (x6 + 1) ((wh W kt (ix x6)) &&& 15) ((wh W kt (ix x6)) >>> (4 &&& 31)) _) ?_
                exact H
              · have H := H.2 (cI5f q15 rfl rfl)
                refine xc_b (i' := 92) (ls' := [some (vR (wJ W kt + 42)), o1, some (vI x2), some (vR 36), some (vR 37), some (vI (x5 + (-1))), some (vI x6), some (vI ((wh W kt (ix x6)) &&& 15)), some (vI ((wh W kt (ix x6)) >>> (4 &&& 31)))]) (st' := []) (L' := LW W z f) 1 (bh_c6_19_62 call o1 x2 x5 x6 ((wh W kt (ix x6)) &&& 15) ((wh W kt (ix x6)) >>> (4 &&& 31)) _) ?_
                refine xc_b (i' := 101) (ls' := [some (vR (wJ W kt + 42)), o1, some (vI x2), some (vR 36), some (vR 37), some (vI (x5 + (-1))), some (vI x6), some (vI ((wh W kt (ix x6)) &&& 15)), some (vI ((wh W kt (ix x6)) >>> (4 &&& 31)))]) (st' := [vI ((x5 + (-1)) - 1), vR 37, vI ((wh W kt (ix x6)) &&& 15), vI ((x5 + (-1)) - 1), vR 37]) (L' := LW W z f) 9 (bh_c6_19_63 call o1 x2 (x5 + (-1)) x6 ((wh W kt (ix x6)) &&& 15) ((wh W kt (ix x6)) >>> (4 &&& 31)) _) ?_
                obtain ⟨g1, H⟩ := H
                refine xc_g (i' := 102) (ls' := [some (vR (wJ W kt + 42)), o1, some (vI x2), some (vR 36), some (vR 37), some (vI (x5 + (-1))), some (vI x6), some (vI ((wh W kt (ix x6)) &&& 15)), some (vI ((wh W kt (ix x6)) >>> (4 &&& 31)))]) (st' := [vI (f 37 (ix ((x5 + (-1)) - 1))), vI ((wh W kt (ix x6)) &&& 15), vI ((x5 + (-1)) - 1), vR 37]) (L' := LW W z f) (bh_c6_19_64 call ((x5 + (-1)) - 1) ((wh W kt (ix x6)) &&& 15) ((x5 + (-1)) - 1) _ z f) (pinG g1) ?_
                refine xc_b (i' := 104) (ls' := [some (vR (wJ W kt + 42)), o1, some (vI x2), some (vR 36), some (vR 37), some (vI (x5 + (-1))), some (vI x6), some (vI ((wh W kt (ix x6)) &&& 15)), some (vI ((wh W kt (ix x6)) >>> (4 &&& 31)))]) (st' := [vI (x5 + (-1)), vR 37, vI (f 37 (ix ((x5 + (-1)) - 1))), vI ((wh W kt (ix x6)) &&& 15), vI ((x5 + (-1)) - 1), vR 37]) (L' := LW W z f) 2 (bh_c6_19_65 call o1 x2 (x5 + (-1)) x6 ((wh W kt (ix x6)) &&& 15) ((wh W kt (ix x6)) >>> (4 &&& 31)) (f 37 (ix ((x5 + (-1)) - 1))) ((wh W kt (ix x6)) &&& 15) ((x5 + (-1)) - 1) _) ?_
                obtain ⟨g1, H⟩ := H
                refine xc_g (i' := 105) (ls' := [some (vR (wJ W kt + 42)), o1, some (vI x2), some (vR 36), some (vR 37), some (vI (x5 + (-1))), some (vI x6), some (vI ((wh W kt (ix x6)) &&& 15)), some (vI ((wh W kt (ix x6)) >>> (4 &&& 31)))]) (st' := [vI (f 37 (ix (x5 + (-1)))), vI (f 37 (ix ((x5 + (-1)) - 1))), vI ((wh W kt (ix x6)) &&& 15), vI ((x5 + (-1)) - 1), vR 37]) (L' := LW W z f) (bh_c6_19_66 call (x5 + (-1)) (f 37 (ix ((x5 + (-1)) - 1))) ((wh W kt (ix x6)) &&& 15) ((x5 + (-1)) - 1) _ z f) (pinG g1) ?_
                obtain ⟨r2, z2, f2, hc, H⟩ := H
                refine xc_call (t := 106) (ls' := [some (vR (wJ W kt + 42)), o1, some (vI x2), some (vR 36), some (vR 37), some (vI (x5 + (-1))), some (vI x6), some (vI ((wh W kt (ix x6)) &&& 15)), some (vI ((wh W kt (ix x6)) >>> (4 &&& 31)))]) (st' := [vI ((x5 + (-1)) - 1), vR 37]) (bh_c6_19_67 call ((wh W kt (ix x6)) &&& 15) (f 37 (ix ((x5 + (-1)) - 1))) (f 37 (ix (x5 + (-1)))) ((x5 + (-1)) - 1) _ z f) hc ?_
                show XC call (mP 19) 106 [some (vR (wJ W kt + 42)), o1, some (vI x2), some (vR 36), some (vR 37), some (vI (x5 + (-1))), some (vI x6), some (vI ((wh W kt (ix x6)) &&& 15)), some (vI ((wh W kt (ix x6)) >>> (4 &&& 31)))] [vI r2, vI ((x5 + (-1)) - 1), vR 37] (LW W z2 f2) res
                obtain ⟨g1, H⟩ := H
                refine xc_g (i' := 107) (ls' := [some (vR (wJ W kt + 42)), o1, some (vI x2), some (vR 36), some (vR 37), some (vI (x5 + (-1))), some (vI x6), some (vI ((wh W kt (ix x6)) &&& 15)), some (vI ((wh W kt (ix x6)) >>> (4 &&& 31)))]) (st' := []) (L' := LW W z2 (uA f2 37 (upd (f2 37) (ix ((x5 + (-1)) - 1)) r2))) (bh_c6_19_68 call ((x5 + (-1)) - 1) r2 _ z2 f2) (pinG g1) ?_
                refine xc_b (i' := 108) (ls' := [some (vR (wJ W kt + 42)), o1, some (vI x2), some (vR 36), some (vR 37), some (vI (x5 + (-1))), some (vI (x6 + 1)), some (vI ((wh W kt (ix x6)) &&& 15)), some (vI ((wh W kt (ix x6)) >>> (4 &&& 31)))]) (st' := []) (L' := LW W z2 (uA f2 37 (upd (f2 37) (ix ((x5 + (-1)) - 1)) r2))) 1 (bh_c6_19_26 call o1 x2 (x5 + (-1)) x6 ((wh W kt (ix x6)) &&& 15) ((wh W kt (ix x6)) >>> (4 &&& 31)) _) ?_
                refine xc_b (i' := 6) (ls' := [some (vR (wJ W kt + 42)), o1, some (vI x2), some (vR 36), some (vR 37), some (vI (x5 + (-1))), some (vI (x6 + 1)), some (vI ((wh W kt (ix x6)) &&& 15)), some (vI ((wh W kt (ix x6)) >>> (4 &&& 31)))]) (st' := []) (L' := LW W z2 (uA f2 37 (upd (f2 37) (ix ((x5 + (-1)) - 1)) r2))) 1 (bh_c6_19_27 call o1 x2 (x5 + (-1)) (x6 + 1) ((wh W kt (ix x6)) &&& 15) ((wh W kt (ix x6)) >>> (4 &&& 31)) _) ?_
                exact H
            · have H := H.2 (cI1f q14)
              refine xc_b (i' := 63) (ls' := [some (vR (wJ W kt + 42)), o1, some (vI x2), some (vR 36), some (vR 37), some (vI x5), some (vI x6), some (vI ((wh W kt (ix x6)) &&& 15)), some (vI ((wh W kt (ix x6)) >>> (4 &&& 31)))]) (st' := [vI x5]) (L' := LW W z f) 1 (bh_c6_19_45 call o1 x2 x5 x6 ((wh W kt (ix x6)) &&& 15) ((wh W kt (ix x6)) >>> (4 &&& 31)) _) ?_
              refine xc_if (it := 107) (ie := 64) (ls' := [some (vR (wJ W kt + 42)), o1, some (vI x2), some (vR 36), some (vR 37), some (vI x5), some (vI x6), some (vI ((wh W kt (ix x6)) &&& 15)), some (vI ((wh W kt (ix x6)) >>> (4 &&& 31)))]) (st' := []) (bh_c6_19_46 call x5 _ _) (fun q16 => ?_) (fun q16 => ?_)
              · have H := H.1 (cI5t q16 rfl rfl)
                refine xc_b (i' := 108) (ls' := [some (vR (wJ W kt + 42)), o1, some (vI x2), some (vR 36), some (vR 37), some (vI x5), some (vI (x6 + 1)), some (vI ((wh W kt (ix x6)) &&& 15)), some (vI ((wh W kt (ix x6)) >>> (4 &&& 31)))]) (st' := []) (L' := LW W z f) 1 (bh_c6_19_26 call o1 x2 x5 x6 ((wh W kt (ix x6)) &&& 15) ((wh W kt (ix x6)) >>> (4 &&& 31)) _) ?_
                refine xc_b (i' := 6) (ls' := [some (vR (wJ W kt + 42)), o1, some (vI x2), some (vR 36), some (vR 37), some (vI x5), some (vI (x6 + 1)), some (vI ((wh W kt (ix x6)) &&& 15)), some (vI ((wh W kt (ix x6)) >>> (4 &&& 31)))]) (st' := []) (L' := LW W z f) 1 (bh_c6_19_27 call o1 x2 x5 (x6 + 1) ((wh W kt (ix x6)) &&& 15) ((wh W kt (ix x6)) >>> (4 &&& 31)) _) ?_
                exact H
              · have H := H.2 (cI5f q16 rfl rfl)
                refine xc_b (i' := 70) (ls' := [some (vR (wJ W kt + 42)), o1, some (vI x2), some (vR 36), some (vR 37), some (vI x5), some (vI x6), some (vI ((wh W kt (ix x6)) &&& 15)), some (vI ((wh W kt (ix x6)) >>> (4 &&& 31)))]) (st' := [vI 3, vI ((wh W kt (ix x6)) &&& 15), vI (x5 - 1), vR 37]) (L' := LW W z f) 6 (bh_c6_19_47 call o1 x2 x5 x6 ((wh W kt (ix x6)) &&& 15) ((wh W kt (ix x6)) >>> (4 &&& 31)) _) ?_
                refine xc_f (it := 79) (ie := 71) (ls' := [some (vR (wJ W kt + 42)), o1, some (vI x2), some (vR 36), some (vR 37), some (vI x5), some (vI x6), some (vI ((wh W kt (ix x6)) &&& 15)), some (vI ((wh W kt (ix x6)) >>> (4 &&& 31)))]) (st' := [vI (x5 - 1), vR 37]) (bh_c6_19_48 call ((wh W kt (ix x6)) &&& 15) 3 (x5 - 1) _ _) (pNf (cI1f q14)) ?_
                refine xc_b (i' := 76) (ls' := [some (vR (wJ W kt + 42)), o1, some (vI x2), some (vR 36), some (vR 37), some (vI x5), some (vI x6), some (vI ((wh W kt (ix x6)) &&& 15)), some (vI ((wh W kt (ix x6)) >>> (4 &&& 31)))]) (st' := [vI (x5 - 1), vR 37, vI 1, vI (x5 - 1), vR 37]) (L' := LW W z f) 5 (bh_c6_19_55 call o1 x2 x5 x6 ((wh W kt (ix x6)) &&& 15) ((wh W kt (ix x6)) >>> (4 &&& 31)) (x5 - 1) _) ?_
                obtain ⟨g1, H⟩ := H
                refine xc_g (i' := 77) (ls' := [some (vR (wJ W kt + 42)), o1, some (vI x2), some (vR 36), some (vR 37), some (vI x5), some (vI x6), some (vI ((wh W kt (ix x6)) &&& 15)), some (vI ((wh W kt (ix x6)) >>> (4 &&& 31)))]) (st' := [vI (f 37 (ix (x5 - 1))), vI 1, vI (x5 - 1), vR 37]) (L' := LW W z f) (bh_c6_19_56 call (x5 - 1) 1 (x5 - 1) _ z f) (pinG g1) ?_
                refine xc_b (i' := 86) (ls' := [some (vR (wJ W kt + 42)), o1, some (vI x2), some (vR 36), some (vR 37), some (vI x5), some (vI x6), some (vI ((wh W kt (ix x6)) &&& 15)), some (vI ((wh W kt (ix x6)) >>> (4 &&& 31)))]) (st' := [vI (1 - (f 37 (ix (x5 - 1)))), vI (x5 - 1), vR 37]) (L' := LW W z f) 2 (bh_c6_19_57 call o1 x2 x5 x6 ((wh W kt (ix x6)) &&& 15) ((wh W kt (ix x6)) >>> (4 &&& 31)) (f 37 (ix (x5 - 1))) 1 (x5 - 1) _) ?_
                obtain ⟨g1, H⟩ := H
                refine xc_g (i' := 87) (ls' := [some (vR (wJ W kt + 42)), o1, some (vI x2), some (vR 36), some (vR 37), some (vI x5), some (vI x6), some (vI ((wh W kt (ix x6)) &&& 15)), some (vI ((wh W kt (ix x6)) >>> (4 &&& 31)))]) (st' := []) (L' := LW W z (uA f 37 (upd (f 37) (ix (x5 - 1)) (1 - (f 37 (ix (x5 - 1))))))) (bh_c6_19_53 call (x5 - 1) (1 - (f 37 (ix (x5 - 1)))) _ z f) (pinG g1) ?_
                refine xc_b (i' := 107) (ls' := [some (vR (wJ W kt + 42)), o1, some (vI x2), some (vR 36), some (vR 37), some (vI x5), some (vI x6), some (vI ((wh W kt (ix x6)) &&& 15)), some (vI ((wh W kt (ix x6)) >>> (4 &&& 31)))]) (st' := []) (L' := LW W z (uA f 37 (upd (f 37) (ix (x5 - 1)) (1 - (f 37 (ix (x5 - 1))))))) 1 (bh_c6_19_54 call o1 x2 x5 x6 ((wh W kt (ix x6)) &&& 15) ((wh W kt (ix x6)) >>> (4 &&& 31)) _) ?_
                refine xc_b (i' := 108) (ls' := [some (vR (wJ W kt + 42)), o1, some (vI x2), some (vR 36), some (vR 37), some (vI x5), some (vI (x6 + 1)), some (vI ((wh W kt (ix x6)) &&& 15)), some (vI ((wh W kt (ix x6)) >>> (4 &&& 31)))]) (st' := []) (L' := LW W z (uA f 37 (upd (f 37) (ix (x5 - 1)) (1 - (f 37 (ix (x5 - 1))))))) 1 (bh_c6_19_26 call o1 x2 x5 x6 ((wh W kt (ix x6)) &&& 15) ((wh W kt (ix x6)) >>> (4 &&& 31)) _) ?_
                refine xc_b (i' := 6) (ls' := [some (vR (wJ W kt + 42)), o1, some (vI x2), some (vR 36), some (vR 37), some (vI x5), some (vI (x6 + 1)), some (vI ((wh W kt (ix x6)) &&& 15)), some (vI ((wh W kt (ix x6)) >>> (4 &&& 31)))]) (st' := []) (L' := LW W z (uA f 37 (upd (f 37) (ix (x5 - 1)) (1 - (f 37 (ix (x5 - 1))))))) 1 (bh_c6_19_27 call o1 x2 x5 (x6 + 1) ((wh W kt (ix x6)) &&& 15) ((wh W kt (ix x6)) >>> (4 &&& 31)) _) ?_
                exact H
        · have H := H.2 (cI1f q10)
          refine xc_b (i' := 36) (ls' := [some (vR (wJ W kt + 42)), o1, some (vI x2), some (vR 36), some (vR 37), some (vI x5), some (vI x6), some (vI ((wh W kt (ix x6)) &&& 15)), some (vI ((wh W kt (ix x6)) >>> (4 &&& 31)))]) (st' := [vI (nI 32), vI x5]) (L' := LW W z f) 3 (bh_c6_19_24 call o1 x2 x5 x6 ((wh W kt (ix x6)) &&& 15) ((wh W kt (ix x6)) >>> (4 &&& 31)) z f) ?_
          refine xc_if (it := 107) (ie := 37) (ls' := [some (vR (wJ W kt + 42)), o1, some (vI x2), some (vR 36), some (vR 37), some (vI x5), some (vI x6), some (vI ((wh W kt (ix x6)) &&& 15)), some (vI ((wh W kt (ix x6)) >>> (4 &&& 31)))]) (st' := []) (bh_c6_19_25 call x5 (nI 32) _ _) (fun q17 => ?_) (fun q17 => ?_)
          · have H := H.1 (cI3t q17 rfl rfl)
            refine xc_b (i' := 108) (ls' := [some (vR (wJ W kt + 42)), o1, some (vI x2), some (vR 36), some (vR 37), some (vI x5), some (vI (x6 + 1)), some (vI ((wh W kt (ix x6)) &&& 15)), some (vI ((wh W kt (ix x6)) >>> (4 &&& 31)))]) (st' := []) (L' := LW W z f) 1 (bh_c6_19_26 call o1 x2 x5 x6 ((wh W kt (ix x6)) &&& 15) ((wh W kt (ix x6)) >>> (4 &&& 31)) _) ?_
            refine xc_b (i' := 6) (ls' := [some (vR (wJ W kt + 42)), o1, some (vI x2), some (vR 36), some (vR 37), some (vI x5), some (vI (x6 + 1)), some (vI ((wh W kt (ix x6)) &&& 15)), some (vI ((wh W kt (ix x6)) >>> (4 &&& 31)))]) (st' := []) (L' := LW W z f) 1 (bh_c6_19_27 call o1 x2 x5 (x6 + 1) ((wh W kt (ix x6)) &&& 15) ((wh W kt (ix x6)) >>> (4 &&& 31)) _) ?_
            exact H
          · have H := H.2 (cI3f q17 rfl rfl)
            refine xc_b (i' := 38) (ls' := [some (vR (wJ W kt + 42)), o1, some (vI x2), some (vR 36), some (vR 37), some (vI x5), some (vI x6), some (vI ((wh W kt (ix x6)) &&& 15)), some (vI ((wh W kt (ix x6)) >>> (4 &&& 31)))]) (st' := [vI ((wh W kt (ix x6)) >>> (4 &&& 31))]) (L' := LW W z f) 1 (bh_c6_19_28 call o1 x2 x5 x6 ((wh W kt (ix x6)) &&& 15) ((wh W kt (ix x6)) >>> (4 &&& 31)) _) ?_
            refine xc_if (it := 107) (ie := 39) (ls' := [some (vR (wJ W kt + 42)), o1, some (vI x2), some (vR 36), some (vR 37), some (vI x5), some (vI x6), some (vI ((wh W kt (ix x6)) &&& 15)), some (vI ((wh W kt (ix x6)) >>> (4 &&& 31)))]) (st' := []) (bh_c6_19_29 call ((wh W kt (ix x6)) >>> (4 &&& 31)) _ _) (fun q18 => ?_) (fun q18 => ?_)
            · have H := H.1 (cI2t q18 rfl rfl)
              refine xc_b (i' := 108) (ls' := [some (vR (wJ W kt + 42)), o1, some (vI x2), some (vR 36), some (vR 37), some (vI x5), some (vI (x6 + 1)), some (vI ((wh W kt (ix x6)) &&& 15)), some (vI ((wh W kt (ix x6)) >>> (4 &&& 31)))]) (st' := []) (L' := LW W z f) 1 (bh_c6_19_26 call o1 x2 x5 x6 ((wh W kt (ix x6)) &&& 15) ((wh W kt (ix x6)) >>> (4 &&& 31)) _) ?_
              refine xc_b (i' := 6) (ls' := [some (vR (wJ W kt + 42)), o1, some (vI x2), some (vR 36), some (vR 37), some (vI x5), some (vI (x6 + 1)), some (vI ((wh W kt (ix x6)) &&& 15)), some (vI ((wh W kt (ix x6)) >>> (4 &&& 31)))]) (st' := []) (L' := LW W z f) 1 (bh_c6_19_27 call o1 x2 x5 (x6 + 1) ((wh W kt (ix x6)) &&& 15) ((wh W kt (ix x6)) >>> (4 &&& 31)) _) ?_
              exact H
            · have H := H.2 (cI2f q18 rfl rfl)
              refine xc_b (i' := 43) (ls' := [some (vR (wJ W kt + 42)), o1, some (vI x2), some (vR 36), some (vR 37), some (vI x5), some (vI x6), some (vI ((wh W kt (ix x6)) &&& 15)), some (vI ((wh W kt (ix x6)) >>> (4 &&& 31)))]) (st' := [vI 1, vI ((wh W kt (ix x6)) &&& 15), vI x5, vR 37]) (L' := LW W z f) 4 (bh_c6_19_30 call o1 x2 x5 x6 ((wh W kt (ix x6)) &&& 15) ((wh W kt (ix x6)) >>> (4 &&& 31)) _) ?_
              refine xc_f (it := 52) (ie := 44) (ls' := [some (vR (wJ W kt + 42)), o1, some (vI x2), some (vR 36), some (vR 37), some (vI x5), some (vI x6), some (vI ((wh W kt (ix x6)) &&& 15)), some (vI ((wh W kt (ix x6)) >>> (4 &&& 31)))]) (st' := [vI x5, vR 37]) (bh_c6_19_31 call ((wh W kt (ix x6)) &&& 15) 1 x5 _ _) (pNf (cI1f q10)) ?_
              refine xc_b (i' := 47) (ls' := [some (vR (wJ W kt + 42)), o1, some (vI x2), some (vR 36), some (vR 37), some (vI x5), some (vI x6), some (vI ((wh W kt (ix x6)) &&& 15)), some (vI ((wh W kt (ix x6)) >>> (4 &&& 31)))]) (st' := [vI (nI 10), vI ((wh W kt (ix x6)) >>> (4 &&& 31)), vI x5, vR 37]) (L' := LW W z f) 3 (bh_c6_19_36 call o1 x2 x5 x6 ((wh W kt (ix x6)) &&& 15) ((wh W kt (ix x6)) >>> (4 &&& 31)) x5 z f) ?_
              refine xc_if (it := 52) (ie := 48) (ls' := [some (vR (wJ W kt + 42)), o1, some (vI x2), some (vR 36), some (vR 37), some (vI x5), some (vI x6), some (vI ((wh W kt (ix x6)) &&& 15)), some (vI ((wh W kt (ix x6)) >>> (4 &&& 31)))]) (st' := [vI x5, vR 37]) (bh_c6_19_37 call ((wh W kt (ix x6)) >>> (4 &&& 31)) (nI 10) x5 _ _) (fun q19 => ?_) (fun q19 => ?_)
              · have H := H.1 (cI3t q19 rfl rfl)
                refine xc_b (i' := 53) (ls' := [some (vR (wJ W kt + 42)), o1, some (vI x2), some (vR 36), some (vR 37), some (vI x5), some (vI x6), some (vI ((wh W kt (ix x6)) &&& 15)), some (vI ((wh W kt (ix x6)) >>> (4 &&& 31)))]) (st' := [vI ((wh W kt (ix x6)) >>> (4 &&& 31)), vI x5, vR 37]) (L' := LW W z f) 1 (bh_c6_19_32 call o1 x2 x5 x6 ((wh W kt (ix x6)) &&& 15) ((wh W kt (ix x6)) >>> (4 &&& 31)) x5 _) ?_
                obtain ⟨g1, H⟩ := H
                refine xc_g (i' := 54) (ls' := [some (vR (wJ W kt + 42)), o1, some (vI x2), some (vR 36), some (vR 37), some (vI x5), some (vI x6), some (vI ((wh W kt (ix x6)) &&& 15)), some (vI ((wh W kt (ix x6)) >>> (4 &&& 31)))]) (st' := []) (L' := LW W z (uA f 37 (upd (f 37) (ix x5) ((wh W kt (ix x6)) >>> (4 &&& 31))))) (bh_c6_19_33 call x5 ((wh W kt (ix x6)) >>> (4 &&& 31)) _ z f) (pinG g1) ?_
                refine xc_b (i' := 55) (ls' := [some (vR (wJ W kt + 42)), o1, some (vI x2), some (vR 36), some (vR 37), some (vI (x5 + 1)), some (vI x6), some (vI ((wh W kt (ix x6)) &&& 15)), some (vI ((wh W kt (ix x6)) >>> (4 &&& 31)))]) (st' := []) (L' := LW W z (uA f 37 (upd (f 37) (ix x5) ((wh W kt (ix x6)) >>> (4 &&& 31))))) 1 (bh_c6_19_34 call o1 x2 x5 x6 ((wh W kt (ix x6)) &&& 15) ((wh W kt (ix x6)) >>> (4 &&& 31)) _) ?_
                refine xc_b (i' := 107) (ls' := [some (vR (wJ W kt + 42)), o1, some (vI x2), some (vR 36), some (vR 37), some (vI (x5 + 1)), some (vI x6), some (vI ((wh W kt (ix x6)) &&& 15)), some (vI ((wh W kt (ix x6)) >>> (4 &&& 31)))]) (st' := []) (L' := LW W z (uA f 37 (upd (f 37) (ix x5) ((wh W kt (ix x6)) >>> (4 &&& 31))))) 1 (bh_c6_19_35 call o1 x2 (x5 + 1) x6 ((wh W kt (ix x6)) &&& 15) ((wh W kt (ix x6)) >>> (4 &&& 31)) _) ?_
                refine xc_b (i' := 108) (ls' := [some (vR (wJ W kt + 42)), o1, some (vI x2), some (vR 36), some (vR 37), some (vI (x5 + 1)), some (vI (x6 + 1)), some (vI ((wh W kt (ix x6)) &&& 15)), some (vI ((wh W kt (ix x6)) >>> (4 &&& 31)))]) (st' := []) (L' := LW W z (uA f 37 (upd (f 37) (ix x5) ((wh W kt (ix x6)) >>> (4 &&& 31))))) 1 (bh_c6_19_26 call o1 x2 (x5 + 1) x6 ((wh W kt (ix x6)) &&& 15) ((wh W kt (ix x6)) >>> (4 &&& 31)) _) ?_
                refine xc_b (i' := 6) (ls' := [some (vR (wJ W kt + 42)), o1, some (vI x2), some (vR 36), some (vR 37), some (vI (x5 + 1)), some (vI (x6 + 1)), some (vI ((wh W kt (ix x6)) &&& 15)), some (vI ((wh W kt (ix x6)) >>> (4 &&& 31)))]) (st' := []) (L' := LW W z (uA f 37 (upd (f 37) (ix x5) ((wh W kt (ix x6)) >>> (4 &&& 31))))) 1 (bh_c6_19_27 call o1 x2 (x5 + 1) (x6 + 1) ((wh W kt (ix x6)) &&& 15) ((wh W kt (ix x6)) >>> (4 &&& 31)) _) ?_
                exact H
              · have H := H.2 (cI3f q19 rfl rfl)
                refine xc_b (i' := 50) (ls' := [some (vR (wJ W kt + 42)), o1, some (vI x2), some (vR 36), some (vR 37), some (vI x5), some (vI x6), some (vI ((wh W kt (ix x6)) &&& 15)), some (vI ((wh W kt (ix x6)) >>> (4 &&& 31)))]) (st' := [vI ((wh W kt (ix x6)) >>> (4 &&& 31)), vR 36, vI x5, vR 37]) (L' := LW W z f) 2 (bh_c6_19_38 call o1 x2 x5 x6 ((wh W kt (ix x6)) &&& 15) ((wh W kt (ix x6)) >>> (4 &&& 31)) x5 _) ?_
                obtain ⟨g1, H⟩ := H
                refine xc_g (i' := 51) (ls' := [some (vR (wJ W kt + 42)), o1, some (vI x2), some (vR 36), some (vR 37), some (vI x5), some (vI x6), some (vI ((wh W kt (ix x6)) &&& 15)), some (vI ((wh W kt (ix x6)) >>> (4 &&& 31)))]) (st' := [vI (f 36 (ix ((wh W kt (ix x6)) >>> (4 &&& 31)))), vI x5, vR 37]) (L' := LW W z f) (bh_c6_19_39 call ((wh W kt (ix x6)) >>> (4 &&& 31)) x5 _ z f) (pinG g1) ?_
                refine xc_b (i' := 53) (ls' := [some (vR (wJ W kt + 42)), o1, some (vI x2), some (vR 36), some (vR 37), some (vI x5), some (vI x6), some (vI ((wh W kt (ix x6)) &&& 15)), some (vI ((wh W kt (ix x6)) >>> (4 &&& 31)))]) (st' := [vI (f 36 (ix ((wh W kt (ix x6)) >>> (4 &&& 31)))), vI x5, vR 37]) (L' := LW W z f) 1 (bh_c6_19_40 call o1 x2 x5 x6 ((wh W kt (ix x6)) &&& 15) ((wh W kt (ix x6)) >>> (4 &&& 31)) (f 36 (ix ((wh W kt (ix x6)) >>> (4 &&& 31)))) x5 _) ?_
                obtain ⟨g1, H⟩ := H
                refine xc_g (i' := 54) (ls' := [some (vR (wJ W kt + 42)), o1, some (vI x2), some (vR 36), some (vR 37), some (vI x5), some (vI x6), some (vI ((wh W kt (ix x6)) &&& 15)), some (vI ((wh W kt (ix x6)) >>> (4 &&& 31)))]) (st' := []) (L' := LW W z (uA f 37 (upd (f 37) (ix x5) (f 36 (ix ((wh W kt (ix x6)) >>> (4 &&& 31))))))) (bh_c6_19_33 call x5 (f 36 (ix ((wh W kt (ix x6)) >>> (4 &&& 31)))) _ z f) (pinG g1) ?_
                refine xc_b (i' := 55) (ls' := [some (vR (wJ W kt + 42)), o1, some (vI x2), some (vR 36), some (vR 37), some (vI (x5 + 1)), some (vI x6), some (vI ((wh W kt (ix x6)) &&& 15)), some (vI ((wh W kt (ix x6)) >>> (4 &&& 31)))]) (st' := []) (L' := LW W z (uA f 37 (upd (f 37) (ix x5) (f 36 (ix ((wh W kt (ix x6)) >>> (4 &&& 31))))))) 1 (bh_c6_19_34 call o1 x2 x5 x6 ((wh W kt (ix x6)) &&& 15) ((wh W kt (ix x6)) >>> (4 &&& 31)) _) ?_
                refine xc_b (i' := 107) (ls' := [some (vR (wJ W kt + 42)), o1, some (vI x2), some (vR 36), some (vR 37), some (vI (x5 + 1)), some (vI x6), some (vI ((wh W kt (ix x6)) &&& 15)), some (vI ((wh W kt (ix x6)) >>> (4 &&& 31)))]) (st' := []) (L' := LW W z (uA f 37 (upd (f 37) (ix x5) (f 36 (ix ((wh W kt (ix x6)) >>> (4 &&& 31))))))) 1 (bh_c6_19_35 call o1 x2 (x5 + 1) x6 ((wh W kt (ix x6)) &&& 15) ((wh W kt (ix x6)) >>> (4 &&& 31)) _) ?_
                refine xc_b (i' := 108) (ls' := [some (vR (wJ W kt + 42)), o1, some (vI x2), some (vR 36), some (vR 37), some (vI (x5 + 1)), some (vI (x6 + 1)), some (vI ((wh W kt (ix x6)) &&& 15)), some (vI ((wh W kt (ix x6)) >>> (4 &&& 31)))]) (st' := []) (L' := LW W z (uA f 37 (upd (f 37) (ix x5) (f 36 (ix ((wh W kt (ix x6)) >>> (4 &&& 31))))))) 1 (bh_c6_19_26 call o1 x2 (x5 + 1) x6 ((wh W kt (ix x6)) &&& 15) ((wh W kt (ix x6)) >>> (4 &&& 31)) _) ?_
                refine xc_b (i' := 6) (ls' := [some (vR (wJ W kt + 42)), o1, some (vI x2), some (vR 36), some (vR 37), some (vI (x5 + 1)), some (vI (x6 + 1)), some (vI ((wh W kt (ix x6)) &&& 15)), some (vI ((wh W kt (ix x6)) >>> (4 &&& 31)))]) (st' := []) (L' := LW W z (uA f 37 (upd (f 37) (ix x5) (f 36 (ix ((wh W kt (ix x6)) >>> (4 &&& 31))))))) 1 (bh_c6_19_27 call o1 x2 (x5 + 1) (x6 + 1) ((wh W kt (ix x6)) &&& 15) ((wh W kt (ix x6)) >>> (4 &&& 31)) _) ?_
                exact H
theorem wRunh (hW : WTX W) (hk : kt < 4) (d : Nat) (o1 : Option PV) {to : Nat} {z : Nat → Int32} {f : Nat → FA} (hM : to ≤ wM W kt) (h4 : wM W kt ≤ 400) : ∀ (P : List TK) (i n : Nat) (g : FA) (n' : Nat) (g' : FA), i + P.length = to → tkC P (wh W kt) i → n ≤ 32 → evF (f 36) P (n, g) = some (n', g') → n' = 1 → ∀ o7 o8, XC (xcall (d + 1)) (mP 19) 6 [some (vR (wJ W kt + 42)), o1, some (vI (nI to)), some (vR 36), some (vR 37), some (vI (nI n)), some (vI (nI i)), o7, o8] [] (LW W z (uA f 37 g)) (some (vI (g' 0)), LW W z (uA f 37 g')) := by
  have vne : (36 : Nat) ≠ 37 := by decide
  intro P
  induction P with
  | nil =>
    intro i n g n' g' hi _ _ he h1 o7 o8
    obtain ⟨rfl, rfl⟩ : n = n' ∧ g = g' := by
      have := Option.some.inj he
      exact ⟨congrArg Prod.fst this, congrArg Prod.snd this⟩
    subst h1
    have hi : i = to := hi
    subst hi
    refine vch_c6_19_6 hW hk _ _ _ _ _ _ _ _ _ _ ⟨fun _ => ⟨fun q => absurd q (by decide), fun _ => ⟨by decide, ?_⟩⟩, fun q => absurd q (Int.lt_irrefl _)⟩
    rw [uA_self, show ix 0 = 0 from by decide]
  | cons e P ih =>
    intro i n g n' g' hi hT hn he h1 o7 o8
    obtain ⟨⟨t1, t2, t3⟩, t4⟩ := hT
    obtain ⟨o, a⟩ := e
    have t1 : o < 12 := t1
    have t2 : a < 100000 := t2
    have t3 : wh W kt i = nI (a * 16 + o) := t3
    have hl : i + 1 + P.length = to := by
      have : (List.length ((o, a) :: P)) = P.length + 1 := rfl
      omega
    have he : (match ev1 (f 36) (o, a) (n, g) with
      | some s' => evF (f 36) P s'
      | none => none) = some (n', g') := he
    cases hs : ev1 (f 36) (o, a) (n, g) with
    | none => rw [hs] at he; cases he
    | some s' =>
    rw [hs] at he
    obtain ⟨m, g1⟩ := s'
    have he : evF (f 36) P (m, g1) = some (n', g') := he
    have e15 : nI (a * 16 + o) &&& 15 = nI o := and15 (by omega) (by omega)
    have e4 : nI (a * 16 + o) >>> (4 &&& 31) = nI a := shr4 (by omega) (by omega)
    have ii : I (nI i) = i := I_nI (by omega)
    have it : I (nI to) = to := I_nI (by omega)
    have iM : I (nI (wM W kt)) = wM W kt := I_nI (by omega)
    have iN : I (nI n) = n := I_nI (by omega)
    have i32 : I (nI 32) = 32 := I_nI (n := 32) (by omega)
    have i10 : I (nI 10) = 10 := I_nI (n := 10) (by omega)
    have ia : I (nI a) = a := I_nI (by omega)
    have pM : pin (nI i) (wM W kt) = true := pin_nI (by omega) (by omega)
    have xi : ix (nI i) = i := ix_nI (by omega)
    have e1 : nI i + 1 = nI (i + 1) := nI_add i 1
    have en : nI n + 1 = nI (n + 1) := nI_add n 1
    have hrec : m ≤ 32 → ∀ o7 o8, XC (xcall (d + 1)) (mP 19) 6 [some (vR (wJ W kt + 42)), o1, some (vI (nI to)), some (vR 36), some (vR 37), some (vI (nI m)), some (vI (nI (i + 1))), o7, o8] [] (LW W z (uA f 37 g1)) (some (vI (g' 0)), LW W z (uA f 37 g')) := fun hm => ih (i + 1) m g1 n' g' hl t4 hm he h1
    have l0 : (0 : Int32) = nI 0 := rfl
    have l1 : (1 : Int32) = nI 1 := rfl
    have l2 : (2 : Int32) = nI 2 := rfl
    have l3 : (3 : Int32) = nI 3 := rfl
    have ne : ∀ {p q : Nat}, p < 12 → q < 12 → p ≠ q → ¬ nI p = nI q := fun hp hq hpq c => hpq (nI_inj (by omega) (by omega) c)
    refine vch_c6_19_6 hW hk _ _ _ _ _ _ _ _ _ _ ⟨fun q => by omega, fun _ => ⟨fun q => by omega, fun _ => ⟨pM, pM, ?_⟩⟩⟩
    rw [xi, t3, e15, e4, e1]
    unfold ev1 at hs
    by_cases c2 : o < 2
    · rw [if_pos (show (o, a).1 < 2 from c2)] at hs
      obtain ⟨⟨q1, q2⟩, q3⟩ := ite_some hs
      have q1 : n < 32 := q1
      have pn : pin (nI n) 32 = true := pin_nI (by omega) (by omega)
      have xn : ix (nI n) = n := ix_nI (by omega)
      have hm : m = n + 1 := (congrArg Prod.fst q3).symm
      subst hm
      by_cases c0 : o = 0
      · subst c0
        have hg : g1 = upd g n (nI a) := by
          have := (congrArg Prod.snd q3).symm
          exact this.trans (by rw [if_pos rfl])
        subst hg
        refine ⟨fun _ => ⟨fun q => by omega, fun _ => ⟨fun q => by omega, fun _ => ⟨fun _ => ⟨pn, ?_⟩, fun q => absurd q (by decide)⟩⟩⟩, fun q => absurd rfl q⟩
        rw [en, xn, uA_self, uA_uA]
        exact hrec (by omega) _ _
      · obtain rfl : o = 1 := by omega
        have q2 : a < 10 := q2 rfl
        have hg : g1 = upd g n (f 36 a) := by
          have := (congrArg Prod.snd q3).symm
          exact this.trans (by rw [if_neg (fun q : (1, a).1 = 0 => absurd (show (1 : Nat) = 0 from q) (by decide))])
        subst hg
        refine ⟨fun q => absurd q (by decide), fun _ => ⟨fun q => absurd rfl q, fun _ => ⟨fun q => by omega, fun _ => ⟨fun q => by omega, fun _ => ⟨fun q => by omega, fun _ => ⟨pin_nI (by omega) (by omega), pn, ?_⟩⟩⟩⟩⟩⟩
        rw [en, xn, uA_self, uA_uA, uA_ne vne, ix_nI (j := a) (by omega)]
        exact hrec (by omega) _ _
    · rw [if_neg (show ¬ (o, a).1 < 2 from c2)] at hs
      have n0 : ¬ nI o = 0 := ne (q := 0) t1 (by omega) (by omega)
      have n1 : ¬ nI o = 1 := ne (q := 1) t1 (by omega) (by omega)
      refine ⟨fun q => absurd q n0, fun _ => ⟨fun _ => ?_, fun q => absurd q n1⟩⟩
      by_cases c4 : o < 4
      · rw [if_pos (show (o, a).1 < 4 from c4)] at hs
        obtain ⟨⟨q1, q2⟩, q3⟩ := ite_some hs
        have q1 : 1 ≤ n := q1
        have em : nI n - 1 = nI (n - 1) := nI_sub (b := 1) q1
        have pn : pin (nI (n - 1)) 32 = true := pin_nI (by omega) (by omega)
        have xn : ix (nI (n - 1)) = n - 1 := ix_nI (by omega)
        have hm : m = n := (congrArg Prod.fst q3).symm
        subst hm
        by_cases c3 : o = 2
        · subst c3
          have q2 : 1 ≤ a := q2 rfl
          have hg : g1 = upd g (m - 1) (g (m - 1) / nI a) := by
            have := (congrArg Prod.snd q3).symm
            exact this.trans (by rw [if_pos rfl])
          subst hg
          have hp := wPart (W := W) d (g (m - 1)) q2 (by omega) (z := z) (f := uA f 37 g)
          refine ⟨fun _ => ⟨fun q => by omega, fun _ => ⟨fun _ => ?_, fun q => absurd q (by decide)⟩⟩, fun q => absurd rfl q⟩
          rw [em, xn, uA_self]
          refine ⟨pn, _, _, _, hp, pn, ?_⟩
          rw [uA_self, uA_uA]
          exact hrec (by omega) _ _
        · obtain rfl : o = 3 := by omega
          have hg : g1 = upd g (m - 1) (1 - g (m - 1)) := by
            have := (congrArg Prod.snd q3).symm
            exact this.trans (by rw [if_neg (fun q : (3, a).1 = 2 => absurd (show (3 : Nat) = 2 from q) (by decide))])
          subst hg
          refine ⟨fun q => absurd q (by decide), fun _ => ⟨fun q => absurd rfl q, fun _ => ⟨fun q => by omega, fun _ => ?_⟩⟩⟩
          rw [em, xn, uA_self, uA_uA]
          exact ⟨pn, pn, hrec (by omega) _ _⟩
      · rw [if_neg (show ¬ (o, a).1 < 4 from c4)] at hs
        obtain ⟨⟨q1, q2⟩, q3⟩ := ite_some hs
        have q1 : 2 ≤ n := q1
        have hm : m = n - 1 := (congrArg Prod.fst q3).symm
        subst hm
        have hg : g1 = upd g (n - 2) (jnO o (g (n - 2)) (g (n - 1))) := (congrArg Prod.snd q3).symm
        subst hg
        have n2 : ¬ nI o = 2 := ne (q := 2) t1 (by omega) (by omega)
        have n3 : ¬ nI o = 3 := ne (q := 3) t1 (by omega) (by omega)
        have em : nI n + (-1) = nI (n - 1) := nI_mm (by omega)
        have em2 : nI (n - 1) - 1 = nI (n - 2) := by rw [show nI (n - 1) - 1 = nI (n - 1 - 1) from nI_sub (b := 1) (by omega)]; congr 1
        have hj := wJoin (W := W) d (g (n - 2)) (g (n - 1)) (o := o) (by omega) t1 (z := z) (f := uA f 37 g)
        have p1 : pin (nI (n - 1)) 32 = true := pin_nI (by omega) (by omega)
        have p2 : pin (nI (n - 2)) 32 = true := pin_nI (by omega) (by omega)
        have x1 : ix (nI (n - 1)) = n - 1 := ix_nI (by omega)
        have x2 : ix (nI (n - 2)) = n - 2 := ix_nI (by omega)
        refine ⟨fun q => absurd q n2, fun _ => ⟨fun _ => ⟨fun q => by omega, fun _ => ?_⟩, fun q => absurd q n3⟩⟩
        rw [em, em2, x1, x2, uA_self]
        refine ⟨p2, p1, _, _, _, hj, p2, ?_⟩
        rw [uA_self, uA_uA]
        exact hrec (by omega) _ _
theorem wRunh_c (hW : WTX W) (hk : kt < 4) (d : Nat) {z : Nat → Int32} {f : Nat → FA} {P : List TK} {i : Nat} {g' : FA} (hM : i + P.length ≤ wM W kt) (h4 : wM W kt ≤ 400) (hT : tkC P (wh W kt) i) (he : evF (f 36) P (0, f 37) = some (1, g')) : xcall (d + 2) 19 [vR (wJ W kt + 42), vI (nI i), vI (nI (i + P.length)), vR 36, vR 37] (LW W z f) = some (some (vI (g' 0)), LW W z (uA f 37 g')) := by
  have h := wRunh hW hk d (some (vI (nI i))) (z := z) (f := f) hM h4 P i 0 (f 37) 1 g' rfl hT (by omega) he rfl none none
  rw [uA_id rfl] at h
  exact xcall_i (mq19 (cu := [])).2.2 rfl (vch_19_0 (xcall (d + 1)) (nI i) (nI (i + P.length)) none none none none z f _ ⟨fun q => by rw [I_nI (n := i) (by omega)] at q; omega, fun _ => h⟩)
end TWs
