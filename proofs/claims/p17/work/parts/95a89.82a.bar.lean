/-! in how many cells it is no face; bare squares -/
def nfI (g : FA) (R : Nat) (x : Int32) : Nat → Int32
  | 0 => x
  | c + 1 => if g (211 + (12 * R + c)) = g (211 + (12 * R + 11 - c)) then nfI g R x c else nfI g R x c + 1
def nfO (g : FA) : Nat → Int32
  | 0 => 0
  | R + 1 => nfI g R (nfO g R) 6
def mn2 (a b : Int32) : Int32 := if I a < I b then a else b
def bqv (mk : Nat → Bool) (g : FA) (i : Nat) : Int32 := if mk i = true then 0 else if i < 131 ∧ i % 12 < 11 then 1 + mn2 (g (i + 1)) (mn2 (g (i + 12)) (g (i + 13))) else 1
def bqg (mk : Nat → Bool) : Nat → FA
  | 0 => fun _ => 0
  | k + 1 => upd (bqg mk k) (143 - k) (bqv mk (bqg mk k) (143 - k))
def bqb (mk : Nat → Bool) : Nat → Int32
  | 0 => -1
  | k + 1 => if 0 < I (bqv mk (bqg mk k) (143 - k)) ∧ (bqb mk k = -1 ∨ I (bqg mk k (ix (bqb mk k))) ≤ I (bqv mk (bqg mk k) (143 - k))) then nI (143 - k) else bqb mk k
def bqs (mk : Nat → Bool) (k : Nat) : Int32 := if bqb mk k = -1 then 0 else bqg mk k (ix (bqb mk k))
/-- the best so far is one of those that were looked at -/
theorem bqb_ok (mk : Nat → Bool) : ∀ k, k ≤ 144 → bqb mk k = -1 ∨ ∃ j, 144 - k ≤ j ∧ j < 144 ∧ bqb mk k = nI j ∧ 0 < I (bqg mk k j) := by
  intro k
  induction k with
  | zero => intro _; exact Or.inl rfl
  | succ k ih =>
    intro hk
    show (if 0 < I (bqv mk (bqg mk k) (143 - k)) ∧ (bqb mk k = -1 ∨ I (bqg mk k (ix (bqb mk k))) ≤ I (bqv mk (bqg mk k) (143 - k))) then nI (143 - k) else bqb mk k) = -1 ∨ ∃ j, 144 - (k + 1) ≤ j ∧ j < 144 ∧ (if 0 < I (bqv mk (bqg mk k) (143 - k)) ∧ (bqb mk k = -1 ∨ I (bqg mk k (ix (bqb mk k))) ≤ I (bqv mk (bqg mk k) (143 - k))) then nI (143 - k) else bqb mk k) = nI j ∧ 0 < I (upd (bqg mk k) (143 - k) (bqv mk (bqg mk k) (143 - k)) j)
    by_cases c : 0 < I (bqv mk (bqg mk k) (143 - k)) ∧ (bqb mk k = -1 ∨ I (bqg mk k (ix (bqb mk k))) ≤ I (bqv mk (bqg mk k) (143 - k)))
    · rw [if_pos c]
      exact Or.inr ⟨143 - k, by omega, by omega, rfl, by rw [pk_us]; exact c.1⟩
    · rw [if_neg c]
      rcases ih (by omega) with h | ⟨j, j1, j2, j3, j4⟩
      · exact Or.inl h
      · exact Or.inr ⟨j, by omega, j2, j3, by rw [pk_un (by omega)]; exact j4⟩
theorem mn2_c {a b c : Int32} (hb : c = a ∨ c = b) (h1 : I c ≤ I a) (h2 : I c ≤ I b) : c = mn2 a b := by
  unfold mn2
  by_cases q : I a < I b
  · rw [if_pos q]
    rcases hb with h | h
    · exact h
    · rw [h] at h1
      omega
  · rw [if_neg q]
    rcases hb with h | h
    · rw [h] at h2 ⊢
      exact Int32.toInt_inj.mp (by show I a = I b; omega)
    · exact h
theorem nI_n1x {j : Nat} (hj : j < 2147483648) : ¬ nI j = -1 := fun q => by
  have e : I (nI j) = -1 := by rw [q]; rfl
  rw [I_nI hj] at e
  omega
theorem n12 : ¬ (12 : Int32) = 0 := by decide
theorem cK {k : Nat} (hk : k < 144) : nI (144 - k) + (-1) = nI (143 - k) := by
  rw [nI_mm (by omega), show 144 - k - 1 = 143 - k by omega]
theorem cS {k : Nat} : nI (143 - k) + (-1) = nI (144 - (k + 1)) + (-1) := by rw [show 144 - (k + 1) = 143 - k by omega]
theorem c0 : nI (144 - 144) + (-1) = -1 := by decide
/-! the reference -/
set_option maxRecDepth 100000 in
theorem b60_1 (call : QC FA) (o1 : Option PV) (o2 : Option PV) (o3 : Option PV) (L : QH FA) (F : Nat) : rnG call 60 (F + 4) 0 [some (vR 0), o1, o2, o3] [] L = rnG call 60 F 4 [some (vR 0), some (vI 0), some (vI 0), o3] [] L := rfl
theorem vc60_0 (d : Nat) (o1 : Option PV) (o2 : Option PV) (o3 : Option PV) (z : Nat → Int32) (f : Nat → FA) (res : Option PV × QH FA) (H : RC (mcall (d + 5)) (mP 60) 4 [some (vR 0), some (vI 0), some (vI 0), o3] [] (LR z f) res) : RC (mcall (d + 5)) (mP 60) 0 [some (vR 0), o1, o2, o3] [] (LR z f) res := by
  refine rc_b (i' := 4) (ls' := [some (vR 0), some (vI 0), some (vI 0), o3]) (st' := []) (L' := LR z f) 4 (b60_1 (mcall (d + 5)) o1 o2 o3 _) ?_
  exact H
set_option maxRecDepth 100000 in
theorem bc4_60_1 (call : QC FA) (x1 : Int32) (x2 : Int32) (o3 : Option PV) (L : QH FA) (F : Nat) : rnG call 60 (F + 2) 4 [some (vR 0), some (vI x1), some (vI x2), o3] [] L = rnG call 60 F 6 [some (vR 0), some (vI x1), some (vI x2), o3] [vI 12, vI x2] L := rfl
set_option maxRecDepth 100000 in
theorem bc4_60_2 (call : QC FA) (x y : Int32) (ls : List (Option PV)) (L : QH FA) (F : Nat) : rnG call 60 (F + 1) 6 ls [vI y, vI x] L = bif pcmp 3 x y then rnG call 60 F 45 ls [] L else rnG call 60 F 7 ls [] L := rfl
set_option maxRecDepth 100000 in
theorem bc4_60_3 (call : QC FA) (x1 : Int32) (x2 : Int32) (o3 : Option PV) (L : QH FA) (F : Nat) : rnG call 60 (F + 1) 45 [some (vR 0), some (vI x1), some (vI x2), o3] [] L = rnG call 60 F 46 [some (vR 0), some (vI x1), some (vI x2), o3] [vI x1] L := rfl
set_option maxRecDepth 100000 in
theorem bc4_60_4 (call : QC FA) (x : Int32) (ls : List (Option PV)) (L : QH FA) (F : Nat) : rnG call 60 (F + 1) 46 ls [vI x] L = some (some (vI x), L) := rfl
set_option maxRecDepth 100000 in
theorem bc4_60_5 (call : QC FA) (x1 : Int32) (x2 : Int32) (o3 : Option PV) (L : QH FA) (F : Nat) : rnG call 60 (F + 2) 7 [some (vR 0), some (vI x1), some (vI x2), o3] [] L = rnG call 60 F 9 [some (vR 0), some (vI x1), some (vI x2), some (vI 0)] [] L := rfl
theorem vcc4_60_4 (d : Nat) (x1 : Int32) (x2 : Int32) (o3 : Option PV) (z : Nat → Int32) (f : Nat → FA) (res : Option PV × QH FA) (H : ((12 ≤ I x2 → res = (some (vI x1), LR z f)) ∧ (I x2 < 12 → RC (mcall (d + 5)) (mP 60) 9 [some (vR 0), some (vI x1), some (vI x2), some (vI 0)] [] (LR z f) res))) : RC (mcall (d + 5)) (mP 60) 4 [some (vR 0), some (vI x1), some (vI x2), o3] [] (LR z f) res := by
  refine rc_b (i' := 6) (ls' := [some (vR 0), some (vI x1), some (vI x2), o3]) (st' := [vI 12, vI x2]) (L' := LR z f) 2 (bc4_60_1 (mcall (d + 5)) x1 x2 o3 _) ?_
  refine rc_if (it := 45) (ie := 7) (ls' := [some (vR 0), some (vI x1), some (vI x2), o3]) (st' := []) (bc4_60_2 (mcall (d + 5)) x2 12 _ _) (fun q1 => ?_) (fun q1 => ?_)
  · have H := H.1 (cI3t q1 rfl rfl)
    refine rc_b (i' := 46) (ls' := [some (vR 0), some (vI x1), some (vI x2), o3]) (st' := [vI x1]) (L' := LR z f) 1 (bc4_60_3 (mcall (d + 5)) x1 x2 o3 _) ?_
    subst H
    exact rc_ret (bc4_60_4 (mcall (d + 5)) _ _ _)
  · have H := H.2 (cI3f q1 rfl rfl)
    refine rc_b (i' := 9) (ls' := [some (vR 0), some (vI x1), some (vI x2), some (vI 0)]) (st' := []) (L' := LR z f) 2 (bc4_60_5 (mcall (d + 5)) x1 x2 o3 _) ?_
    exact H
set_option maxRecDepth 100000 in
theorem bc9_60_1 (call : QC FA) (x1 : Int32) (x2 : Int32) (x3 : Int32) (L : QH FA) (F : Nat) : rnG call 60 (F + 2) 9 [some (vR 0), some (vI x1), some (vI x2), some (vI x3)] [] L = rnG call 60 F 11 [some (vR 0), some (vI x1), some (vI x2), some (vI x3)] [vI 6, vI x3] L := rfl
set_option maxRecDepth 100000 in
theorem bc9_60_2 (call : QC FA) (x y : Int32) (ls : List (Option PV)) (L : QH FA) (F : Nat) : rnG call 60 (F + 1) 11 ls [vI y, vI x] L = bif pcmp 3 x y then rnG call 60 F 43 ls [] L else rnG call 60 F 12 ls [] L := rfl
set_option maxRecDepth 100000 in
theorem bc9_60_3 (call : QC FA) (x1 : Int32) (x2 : Int32) (x3 : Int32) (L : QH FA) (F : Nat) : rnG call 60 (F + 1) 43 [some (vR 0), some (vI x1), some (vI x2), some (vI x3)] [] L = rnG call 60 F 44 [some (vR 0), some (vI x1), some (vI (x2 + 1)), some (vI x3)] [] L := rfl
set_option maxRecDepth 100000 in
theorem bc9_60_4 (call : QC FA) (x1 : Int32) (x2 : Int32) (x3 : Int32) (L : QH FA) (F : Nat) : rnG call 60 (F + 1) 44 [some (vR 0), some (vI x1), some (vI x2), some (vI x3)] [] L = rnG call 60 F 4 [some (vR 0), some (vI x1), some (vI x2), some (vI x3)] [] L := rfl
set_option maxRecDepth 100000 in
theorem bc9_60_5 (call : QC FA) (x1 : Int32) (x2 : Int32) (x3 : Int32) (z : Nat → Int32) (f : Nat → FA) (F : Nat) : rnG call 60 (F + 9) 12 [some (vR 0), some (vI x1), some (vI x2), some (vI x3)] [] (LR z f) = rnG call 60 F 21 [some (vR 0), some (vI x1), some (vI x2), some (vI x3)] [vI ((211 + (12 * x2)) + x3), vR 1] (LR z f) := rfl
set_option maxRecDepth 100000 in
theorem bc9_60_6 (call : QC FA) (x : Int32) (ls : List (Option PV)) (z : Nat → Int32) (f : Nat → FA) (F : Nat) : rnG call 60 (F + 1) 21 ls [vI x, vR 1] (LR z f) = bif (Nat.beq 0 0 && pin x 499) then rnG call 60 F 22 ls [vI (f 1 (ix x))] (LR z f) else none := rfl
set_option maxRecDepth 100000 in
theorem bc9_60_7 (call : QC FA) (x1 : Int32) (x2 : Int32) (x3 : Int32) (s0 : Int32) (z : Nat → Int32) (f : Nat → FA) (F : Nat) : rnG call 60 (F + 13) 22 [some (vR 0), some (vI x1), some (vI x2), some (vI x3)] [vI s0] (LR z f) = rnG call 60 F 35 [some (vR 0), some (vI x1), some (vI x2), some (vI x3)] [vI ((((211 + (12 * x2)) + 12) - 1) - x3), vR 1, vI s0] (LR z f) := rfl
set_option maxRecDepth 100000 in
theorem bc9_60_8 (call : QC FA) (x : Int32) (s0 : Int32) (ls : List (Option PV)) (z : Nat → Int32) (f : Nat → FA) (F : Nat) : rnG call 60 (F + 1) 35 ls [vI x, vR 1, vI s0] (LR z f) = bif (Nat.beq 0 0 && pin x 499) then rnG call 60 F 36 ls [vI (f 1 (ix x)), vI s0] (LR z f) else none := rfl
set_option maxRecDepth 100000 in
theorem bc9_60_9 (call : QC FA) (x y : Int32) (ls : List (Option PV)) (L : QH FA) (F : Nat) : rnG call 60 (F + 1) 36 ls [vI y, vI x] L = bif pcmp 0 x y then rnG call 60 F 41 ls [] L else rnG call 60 F 37 ls [] L := rfl
set_option maxRecDepth 100000 in
theorem bc9_60_10 (call : QC FA) (x1 : Int32) (x2 : Int32) (x3 : Int32) (L : QH FA) (F : Nat) : rnG call 60 (F + 1) 41 [some (vR 0), some (vI x1), some (vI x2), some (vI x3)] [] L = rnG call 60 F 42 [some (vR 0), some (vI x1), some (vI x2), some (vI (x3 + 1))] [] L := rfl
set_option maxRecDepth 100000 in
theorem bc9_60_11 (call : QC FA) (x1 : Int32) (x2 : Int32) (x3 : Int32) (L : QH FA) (F : Nat) : rnG call 60 (F + 1) 42 [some (vR 0), some (vI x1), some (vI x2), some (vI x3)] [] L = rnG call 60 F 9 [some (vR 0), some (vI x1), some (vI x2), some (vI x3)] [] L := rfl
set_option maxRecDepth 100000 in
theorem bc9_60_12 (call : QC FA) (x1 : Int32) (x2 : Int32) (x3 : Int32) (L : QH FA) (F : Nat) : rnG call 60 (F + 4) 37 [some (vR 0), some (vI x1), some (vI x2), some (vI x3)] [] L = rnG call 60 F 41 [some (vR 0), some (vI (x1 + 1)), some (vI x2), some (vI x3)] [] L := rfl
theorem vcc9_60_9 (d : Nat) (x1 : Int32) (x2 : Int32) (x3 : Int32) (z : Nat → Int32) (f : Nat → FA) (res : Option PV × QH FA) (H : ((6 ≤ I x3 → RC (mcall (d + 5)) (mP 60) 4 [some (vR 0), some (vI x1), some (vI (x2 + 1)), some (vI x3)] [] (LR z f) res) ∧ (I x3 < 6 → (pin ((211 + (12 * x2)) + x3) 499 = true ∧ (pin ((((211 + (12 * x2)) + 12) - 1) - x3) 499 = true ∧ ((f 1 (ix ((211 + (12 * x2)) + x3)) = f 1 (ix ((((211 + (12 * x2)) + 12) - 1) - x3)) → RC (mcall (d + 5)) (mP 60) 9 [some (vR 0), some (vI x1), some (vI x2), some (vI (x3 + 1))] [] (LR z f) res) ∧ (¬ f 1 (ix ((211 + (12 * x2)) + x3)) = f 1 (ix ((((211 + (12 * x2)) + 12) - 1) - x3)) → RC (mcall (d + 5)) (mP 60) 9 [some (vR 0), some (vI (x1 + 1)), some (vI x2), some (vI (x3 + 1))] [] (LR z f) res))))))) : RC (mcall (d + 5)) (mP 60) 9 [some (vR 0), some (vI x1), some (vI x2), some (vI x3)] [] (LR z f) res := by
  refine rc_b (i' := 11) (ls' := [some (vR 0), some (vI x1), some (vI x2), some (vI x3)]) (st' := [vI 6, vI x3]) (L' := LR z f) 2 (bc9_60_1 (mcall (d + 5)) x1 x2 x3 _) ?_
  refine rc_if (it := 43) (ie := 12) (ls' := [some (vR 0), some (vI x1), some (vI x2), some (vI x3)]) (st' := []) (bc9_60_2 (mcall (d + 5)) x3 6 _ _) (fun q1 => ?_) (fun q1 => ?_)
  · have H := H.1 (cI3t q1 rfl rfl)
    refine rc_b (i' := 44) (ls' := [some (vR 0), some (vI x1), some (vI (x2 + 1)), some (vI x3)]) (st' := []) (L' := LR z f) 1 (bc9_60_3 (mcall (d + 5)) x1 x2 x3 _) ?_
    refine rc_b (i' := 4) (ls' := [some (vR 0), some (vI x1), some (vI (x2 + 1)), some (vI x3)]) (st' := []) (L' := LR z f) 1 (bc9_60_4 (mcall (d + 5)) x1 (x2 + 1) x3 _) ?_
    exact H
  · have H := H.2 (cI3f q1 rfl rfl)
    refine rc_b (i' := 21) (ls' := [some (vR 0), some (vI x1), some (vI x2), some (vI x3)]) (st' := [vI ((211 + (12 * x2)) + x3), vR 1]) (L' := LR z f) 9 (bc9_60_5 (mcall (d + 5)) x1 x2 x3 z f) ?_
    obtain ⟨g1, H⟩ := H
    refine rc_g (i' := 22) (ls' := [some (vR 0), some (vI x1), some (vI x2), some (vI x3)]) (st' := [vI (f 1 (ix ((211 + (12 * x2)) + x3)))]) (L' := LR z f) (bc9_60_6 (mcall (d + 5)) ((211 + (12 * x2)) + x3) _ z f) (pinG g1) ?_
    refine rc_b (i' := 35) (ls' := [some (vR 0), some (vI x1), some (vI x2), some (vI x3)]) (st' := [vI ((((211 + (12 * x2)) + 12) - 1) - x3), vR 1, vI (f 1 (ix ((211 + (12 * x2)) + x3)))]) (L' := LR z f) 13 (bc9_60_7 (mcall (d + 5)) x1 x2 x3 (f 1 (ix ((211 + (12 * x2)) + x3))) z f) ?_
    obtain ⟨g1, H⟩ := H
    refine rc_g (i' := 36) (ls' := [some (vR 0), some (vI x1), some (vI x2), some (vI x3)]) (st' := [vI (f 1 (ix ((((211 + (12 * x2)) + 12) - 1) - x3))), vI (f 1 (ix ((211 + (12 * x2)) + x3)))]) (L' := LR z f) (bc9_60_8 (mcall (d + 5)) ((((211 + (12 * x2)) + 12) - 1) - x3) (f 1 (ix ((211 + (12 * x2)) + x3))) _ z f) (pinG g1) ?_
    refine rc_if (it := 41) (ie := 37) (ls' := [some (vR 0), some (vI x1), some (vI x2), some (vI x3)]) (st' := []) (bc9_60_9 (mcall (d + 5)) (f 1 (ix ((211 + (12 * x2)) + x3))) (f 1 (ix ((((211 + (12 * x2)) + 12) - 1) - x3))) _ _) (fun q2 => ?_) (fun q2 => ?_)
    · have H := H.1 (cI0t q2)
      refine rc_b (i' := 42) (ls' := [some (vR 0), some (vI x1), some (vI x2), some (vI (x3 + 1))]) (st' := []) (L' := LR z f) 1 (bc9_60_10 (mcall (d + 5)) x1 x2 x3 _) ?_
      refine rc_b (i' := 9) (ls' := [some (vR 0), some (vI x1), some (vI x2), some (vI (x3 + 1))]) (st' := []) (L' := LR z f) 1 (bc9_60_11 (mcall (d + 5)) x1 x2 (x3 + 1) _) ?_
      exact H
    · have H := H.2 (cI0f q2)
      refine rc_b (i' := 41) (ls' := [some (vR 0), some (vI (x1 + 1)), some (vI x2), some (vI x3)]) (st' := []) (L' := LR z f) 4 (bc9_60_12 (mcall (d + 5)) x1 x2 x3 _) ?_
      refine rc_b (i' := 42) (ls' := [some (vR 0), some (vI (x1 + 1)), some (vI x2), some (vI (x3 + 1))]) (st' := []) (L' := LR z f) 1 (bc9_60_10 (mcall (d + 5)) (x1 + 1) x2 x3 _) ?_
      refine rc_b (i' := 9) (ls' := [some (vR 0), some (vI (x1 + 1)), some (vI x2), some (vI (x3 + 1))]) (st' := []) (L' := LR z f) 1 (bc9_60_11 (mcall (d + 5)) (x1 + 1) x2 (x3 + 1) _) ?_
      exact H
set_option maxRecDepth 100000 in
theorem b61_1 (call : QC FA) (x1 : Int32) (o2 : Option PV) (o3 : Option PV) (L : QH FA) (F : Nat) : rnG call 61 (F + 4) 0 [some (vR 0), some (vI x1), o2, o3] [] L = rnG call 61 F 4 [some (vR 0), some (vI x1), some (vI ((-1))), some (vI 143)] [] L := rfl
theorem vc61_0 (d : Nat) (x1 : Int32) (o2 : Option PV) (o3 : Option PV) (z : Nat → Int32) (f : Nat → FA) (res : Option PV × QH FA) (H : RC (mcall (d + 5)) (mP 61) 4 [some (vR 0), some (vI x1), some (vI ((-1))), some (vI 143)] [] (LR z f) res) : RC (mcall (d + 5)) (mP 61) 0 [some (vR 0), some (vI x1), o2, o3] [] (LR z f) res := by
  refine rc_b (i' := 4) (ls' := [some (vR 0), some (vI x1), some (vI ((-1))), some (vI 143)]) (st' := []) (L' := LR z f) 4 (b61_1 (mcall (d + 5)) x1 o2 o3 _) ?_
  exact H
set_option maxRecDepth 100000 in
theorem bc4_61_1 (call : QC FA) (x1 : Int32) (x2 : Int32) (x3 : Int32) (L : QH FA) (F : Nat) : rnG call 61 (F + 1) 4 [some (vR 0), some (vI x1), some (vI x2), some (vI x3)] [] L = rnG call 61 F 5 [some (vR 0), some (vI x1), some (vI x2), some (vI x3)] [vI x3] L := rfl
set_option maxRecDepth 100000 in
theorem bc4_61_2 (call : QC FA) (x : Int32) (ls : List (Option PV)) (L : QH FA) (F : Nat) : rnG call 61 (F + 1) 5 ls [vI x] L = bif pcmp 2 x 0 then rnG call 61 F 80 ls [] L else rnG call 61 F 6 ls [] L := rfl
set_option maxRecDepth 100000 in
theorem bc4_61_3 (call : QC FA) (x1 : Int32) (x2 : Int32) (x3 : Int32) (L : QH FA) (F : Nat) : rnG call 61 (F + 2) 80 [some (vR 0), some (vI x1), some (vI x2), some (vI x3)] [] L = rnG call 61 F 82 [some (vR 0), some (vI x1), some (vI x2), some (vI x3)] [vI 7, vI x1] L := rfl
set_option maxRecDepth 100000 in
theorem bc4_61_4 (call : QC FA) (x y : Int32) (ls : List (Option PV)) (L : QH FA) (F : Nat) : rnG call 61 (F + 1) 82 ls [vI y, vI x] L = bif pcmp 1 x y then rnG call 61 F 93 ls [] L else rnG call 61 F 83 ls [] L := rfl
set_option maxRecDepth 100000 in
theorem bc4_61_5 (call : QC FA) (x1 : Int32) (x2 : Int32) (x3 : Int32) (L : QH FA) (F : Nat) : rnG call 61 (F + 2) 93 [some (vR 0), some (vI x1), some (vI x2), some (vI x3)] [] L = rnG call 61 F 95 [some (vR 0), some (vI x1), some (vI x2), some (vI x3)] [vI ((-1)), vI x2] L := rfl
set_option maxRecDepth 100000 in
theorem bc4_61_6 (call : QC FA) (x y : Int32) (ls : List (Option PV)) (L : QH FA) (F : Nat) : rnG call 61 (F + 1) 95 ls [vI y, vI x] L = bif pcmp 1 x y then rnG call 61 F 98 ls [] L else rnG call 61 F 96 ls [] L := rfl
set_option maxRecDepth 100000 in
theorem bc4_61_7 (call : QC FA) (x1 : Int32) (x2 : Int32) (x3 : Int32) (L : QH FA) (F : Nat) : rnG call 61 (F + 2) 98 [some (vR 0), some (vI x1), some (vI x2), some (vI x3)] [] L = rnG call 61 F 100 [some (vR 0), some (vI x1), some (vI x2), some (vI x3)] [vI 8, vI x1] L := rfl
set_option maxRecDepth 100000 in
theorem bc4_61_8 (call : QC FA) (x y : Int32) (ls : List (Option PV)) (L : QH FA) (F : Nat) : rnG call 61 (F + 1) 100 ls [vI y, vI x] L = bif pcmp 1 x y then rnG call 61 F 105 ls [] L else rnG call 61 F 101 ls [] L := rfl
set_option maxRecDepth 100000 in
theorem bc4_61_9 (call : QC FA) (x1 : Int32) (x2 : Int32) (x3 : Int32) (L : QH FA) (F : Nat) : rnG call 61 (F + 2) 105 [some (vR 0), some (vI x1), some (vI x2), some (vI x3)] [] L = rnG call 61 F 107 [some (vR 0), some (vI x1), some (vI x2), some (vI x3)] [vI 12, vI x2] L := rfl
set_option maxRecDepth 100000 in
theorem bc4_61_10 (call : QC FA) (x y : Int32) (ls : List (Option PV)) (L : QH FA) (F : Nat) : rnG call 61 (F + 1) 107 ls [vI y, vI x] L = bif pcmp 1 y 0 then rnG call 61 F 108 ls [vI (x - x / y * y)] L else none := rfl
set_option maxRecDepth 100000 in
theorem bc4_61_11 (call : QC FA) (x : Int32) (ls : List (Option PV)) (L : QH FA) (F : Nat) : rnG call 61 (F + 1) 108 ls [vI x] L = some (some (vI x), L) := rfl
set_option maxRecDepth 100000 in
theorem bc4_61_12 (call : QC FA) (x1 : Int32) (x2 : Int32) (x3 : Int32) (L : QH FA) (F : Nat) : rnG call 61 (F + 2) 101 [some (vR 0), some (vI x1), some (vI x2), some (vI x3)] [] L = rnG call 61 F 103 [some (vR 0), some (vI x1), some (vI x2), some (vI x3)] [vI 12, vI x2] L := rfl
set_option maxRecDepth 100000 in
theorem bc4_61_13 (call : QC FA) (x y : Int32) (ls : List (Option PV)) (L : QH FA) (F : Nat) : rnG call 61 (F + 1) 103 ls [vI y, vI x] L = bif pcmp 1 y 0 then rnG call 61 F 104 ls [vI (x / y)] L else none := rfl
set_option maxRecDepth 100000 in
theorem bc4_61_14 (call : QC FA) (x1 : Int32) (x2 : Int32) (x3 : Int32) (s0 : Int32) (L : QH FA) (F : Nat) : rnG call 61 (F + 1) 104 [some (vR 0), some (vI x1), some (vI x2), some (vI x3)] [vI s0] L = rnG call 61 F 108 [some (vR 0), some (vI x1), some (vI x2), some (vI x3)] [vI s0] L := rfl
set_option maxRecDepth 100000 in
theorem bc4_61_15 (call : QC FA) (x1 : Int32) (x2 : Int32) (x3 : Int32) (L : QH FA) (F : Nat) : rnG call 61 (F + 2) 96 [some (vR 0), some (vI x1), some (vI x2), some (vI x3)] [] L = rnG call 61 F 108 [some (vR 0), some (vI x1), some (vI x2), some (vI x3)] [vI ((-1))] L := rfl
set_option maxRecDepth 100000 in
theorem bc4_61_16 (call : QC FA) (x1 : Int32) (x2 : Int32) (x3 : Int32) (L : QH FA) (F : Nat) : rnG call 61 (F + 2) 83 [some (vR 0), some (vI x1), some (vI x2), some (vI x3)] [] L = rnG call 61 F 85 [some (vR 0), some (vI x1), some (vI x2), some (vI x3)] [vI ((-1)), vI x2] L := rfl
set_option maxRecDepth 100000 in
theorem bc4_61_17 (call : QC FA) (x y : Int32) (ls : List (Option PV)) (L : QH FA) (F : Nat) : rnG call 61 (F + 1) 85 ls [vI y, vI x] L = bif pcmp 1 x y then rnG call 61 F 88 ls [] L else rnG call 61 F 86 ls [] L := rfl
set_option maxRecDepth 100000 in
theorem bc4_61_18 (call : QC FA) (x1 : Int32) (x2 : Int32) (x3 : Int32) (z : Nat → Int32) (f : Nat → FA) (F : Nat) : rnG call 61 (F + 3) 88 [some (vR 0), some (vI x1), some (vI x2), some (vI x3)] [] (LR z f) = rnG call 61 F 91 [some (vR 0), some (vI x1), some (vI x2), some (vI x3)] [vI x2, vR 23] (LR z f) := rfl
set_option maxRecDepth 100000 in
theorem bc4_61_19 (call : QC FA) (x : Int32) (ls : List (Option PV)) (z : Nat → Int32) (f : Nat → FA) (F : Nat) : rnG call 61 (F + 1) 91 ls [vI x, vR 23] (LR z f) = bif (Nat.beq 0 0 && pin x 144) then rnG call 61 F 92 ls [vI (f 23 (ix x))] (LR z f) else none := rfl
set_option maxRecDepth 100000 in
theorem bc4_61_20 (call : QC FA) (x : Int32) (ls : List (Option PV)) (L : QH FA) (F : Nat) : rnG call 61 (F + 1) 92 ls [vI x] L = some (some (vI x), L) := rfl
set_option maxRecDepth 100000 in
theorem bc4_61_21 (call : QC FA) (x1 : Int32) (x2 : Int32) (x3 : Int32) (L : QH FA) (F : Nat) : rnG call 61 (F + 2) 86 [some (vR 0), some (vI x1), some (vI x2), some (vI x3)] [] L = rnG call 61 F 92 [some (vR 0), some (vI x1), some (vI x2), some (vI x3)] [vI 0] L := rfl
set_option maxRecDepth 100000 in
theorem bc4_61_22 (call : QC FA) (x1 : Int32) (x2 : Int32) (x3 : Int32) (z : Nat → Int32) (f : Nat → FA) (F : Nat) : rnG call 61 (F + 5) 6 [some (vR 0), some (vI x1), some (vI x2), some (vI x3)] [] (LR z f) = rnG call 61 F 11 [some (vR 0), some (vI x1), some (vI x2), some (vI x3)] [vI x3, vR 0, vI x3, vR 23] (LR z f) := rfl
set_option maxRecDepth 100000 in
theorem bc4_61_23 (call : QC FA) (a0 : Int32) (s0 : Int32) (ls : List (Option PV)) (z : Nat → Int32) (f : Nat → FA) (F : Nat) : rnG call 61 (F + 1) 11 ls [vI a0, vR 0, vI s0, vR 23] (LR z f) = cbd (call 49 [vR 0, vI a0] (LR z f)) (fun r L' => rnG call 61 F 12 ls (r.toList ++ [vI s0, vR 23]) L') := pcY (ih := rnG call 61 F) (call := call) (a := 49) (b := 1) (v := 12) (t := 12) (x := 0) (ls := ls) (As := [vI a0]) (st' := [vI s0, vR 23]) (L := LR z f) rfl rfl rfl
set_option maxRecDepth 100000 in
theorem bc4_61_24 (call : QC FA) (x : Int32) (s0 : Int32) (ls : List (Option PV)) (L : QH FA) (F : Nat) : rnG call 61 (F + 1) 12 ls [vI x, vI s0, vR 23] L = bif pcmp 0 x 0 then rnG call 61 F 15 ls [vI s0, vR 23] L else rnG call 61 F 13 ls [vI s0, vR 23] L := rfl
set_option maxRecDepth 100000 in
theorem bc4_61_25 (call : QC FA) (x1 : Int32) (x2 : Int32) (x3 : Int32) (s0 : Int32) (L : QH FA) (F : Nat) : rnG call 61 (F + 1) 15 [some (vR 0), some (vI x1), some (vI x2), some (vI x3)] [vI s0, vR 23] L = rnG call 61 F 16 [some (vR 0), some (vI x1), some (vI x2), some (vI x3)] [vI 1, vI s0, vR 23] L := rfl
set_option maxRecDepth 100000 in
theorem bc4_61_26 (call : QC FA) (x y : Int32) (ls : List (Option PV)) (z : Nat → Int32) (f : Nat → FA) (F : Nat) : rnG call 61 (F + 1) 16 ls [vI y, vI x, vR 23] (LR z f) = bif (Nat.beq 0 0 && pin x 144) then rnG call 61 F 17 ls [] (LR z (uA f 23 (upd (f 23) (ix x) y))) else none := rfl
set_option maxRecDepth 100000 in
theorem bc4_61_27 (call : QC FA) (x1 : Int32) (x2 : Int32) (x3 : Int32) (L : QH FA) (F : Nat) : rnG call 61 (F + 2) 17 [some (vR 0), some (vI x1), some (vI x2), some (vI x3)] [] L = rnG call 61 F 19 [some (vR 0), some (vI x1), some (vI x2), some (vI x3)] [vI 132, vI x3] L := rfl
set_option maxRecDepth 100000 in
theorem bc4_61_28 (call : QC FA) (x y : Int32) (ls : List (Option PV)) (L : QH FA) (F : Nat) : rnG call 61 (F + 1) 19 ls [vI y, vI x] L = bif pcmp 3 x y then rnG call 61 F 59 ls [] L else rnG call 61 F 20 ls [] L := rfl
set_option maxRecDepth 100000 in
theorem bc4_61_29 (call : QC FA) (x1 : Int32) (x2 : Int32) (x3 : Int32) (z : Nat → Int32) (f : Nat → FA) (F : Nat) : rnG call 61 (F + 3) 59 [some (vR 0), some (vI x1), some (vI x2), some (vI x3)] [] (LR z f) = rnG call 61 F 62 [some (vR 0), some (vI x1), some (vI x2), some (vI x3)] [vI x3, vR 23] (LR z f) := rfl
set_option maxRecDepth 100000 in
theorem bc4_61_30 (call : QC FA) (x : Int32) (ls : List (Option PV)) (z : Nat → Int32) (f : Nat → FA) (F : Nat) : rnG call 61 (F + 1) 62 ls [vI x, vR 23] (LR z f) = bif (Nat.beq 0 0 && pin x 144) then rnG call 61 F 63 ls [vI (f 23 (ix x))] (LR z f) else none := rfl
set_option maxRecDepth 100000 in
theorem bc4_61_31 (call : QC FA) (x : Int32) (ls : List (Option PV)) (L : QH FA) (F : Nat) : rnG call 61 (F + 1) 63 ls [vI x] L = bif pcmp 5 x 0 then rnG call 61 F 78 ls [] L else rnG call 61 F 64 ls [] L := rfl
theorem bc4_61_32i (ih : QK FA) (t : Nat) (v x : Int32) (l0 l1 l2 : Option PV) (st : List PV) (L : QH FA) : p_iinc ih fzF 3 v t [l0, l1, l2, some (vI x)] st L = ih t [l0, l1, l2, some (vI (x + v))] st L := rfl
set_option maxRecDepth 100000 in
theorem bc4_61_32 (call : QC FA) (x1 : Int32) (x2 : Int32) (x3 : Int32) (L : QH FA) (F : Nat) : rnG call 61 (F + 1) 78 [some (vR 0), some (vI x1), some (vI x2), some (vI x3)] [] L = rnG call 61 F 79 [some (vR 0), some (vI x1), some (vI x2), some (vI (x3 + (-1)))] [] L := bc4_61_32i (rnG call 61 F) 79 (-1) x3 _ _ _ _ _
set_option maxRecDepth 100000 in
theorem bc4_61_33 (call : QC FA) (x1 : Int32) (x2 : Int32) (x3 : Int32) (L : QH FA) (F : Nat) : rnG call 61 (F + 1) 79 [some (vR 0), some (vI x1), some (vI x2), some (vI x3)] [] L = rnG call 61 F 4 [some (vR 0), some (vI x1), some (vI x2), some (vI x3)] [] L := rfl
set_option maxRecDepth 100000 in
theorem bc4_61_34 (call : QC FA) (x1 : Int32) (x2 : Int32) (x3 : Int32) (L : QH FA) (F : Nat) : rnG call 61 (F + 2) 64 [some (vR 0), some (vI x1), some (vI x2), some (vI x3)] [] L = rnG call 61 F 66 [some (vR 0), some (vI x1), some (vI x2), some (vI x3)] [vI ((-1)), vI x2] L := rfl
set_option maxRecDepth 100000 in
theorem bc4_61_35 (call : QC FA) (x y : Int32) (ls : List (Option PV)) (L : QH FA) (F : Nat) : rnG call 61 (F + 1) 66 ls [vI y, vI x] L = bif pcmp 0 x y then rnG call 61 F 76 ls [] L else rnG call 61 F 67 ls [] L := rfl
set_option maxRecDepth 100000 in
theorem bc4_61_36 (call : QC FA) (x1 : Int32) (x2 : Int32) (x3 : Int32) (L : QH FA) (F : Nat) : rnG call 61 (F + 2) 76 [some (vR 0), some (vI x1), some (vI x2), some (vI x3)] [] L = rnG call 61 F 78 [some (vR 0), some (vI x1), some (vI x3), some (vI x3)] [] L := rfl
set_option maxRecDepth 100000 in
theorem bc4_61_37 (call : QC FA) (x1 : Int32) (x2 : Int32) (x3 : Int32) (z : Nat → Int32) (f : Nat → FA) (F : Nat) : rnG call 61 (F + 3) 67 [some (vR 0), some (vI x1), some (vI x2), some (vI x3)] [] (LR z f) = rnG call 61 F 70 [some (vR 0), some (vI x1), some (vI x2), some (vI x3)] [vI x3, vR 23] (LR z f) := rfl
set_option maxRecDepth 100000 in
theorem bc4_61_38 (call : QC FA) (x : Int32) (ls : List (Option PV)) (z : Nat → Int32) (f : Nat → FA) (F : Nat) : rnG call 61 (F + 1) 70 ls [vI x, vR 23] (LR z f) = bif (Nat.beq 0 0 && pin x 144) then rnG call 61 F 71 ls [vI (f 23 (ix x))] (LR z f) else none := rfl
set_option maxRecDepth 100000 in
theorem bc4_61_39 (call : QC FA) (x1 : Int32) (x2 : Int32) (x3 : Int32) (s0 : Int32) (z : Nat → Int32) (f : Nat → FA) (F : Nat) : rnG call 61 (F + 3) 71 [some (vR 0), some (vI x1), some (vI x2), some (vI x3)] [vI s0] (LR z f) = rnG call 61 F 74 [some (vR 0), some (vI x1), some (vI x2), some (vI x3)] [vI x2, vR 23, vI s0] (LR z f) := rfl
set_option maxRecDepth 100000 in
theorem bc4_61_40 (call : QC FA) (x : Int32) (s0 : Int32) (ls : List (Option PV)) (z : Nat → Int32) (f : Nat → FA) (F : Nat) : rnG call 61 (F + 1) 74 ls [vI x, vR 23, vI s0] (LR z f) = bif (Nat.beq 0 0 && pin x 144) then rnG call 61 F 75 ls [vI (f 23 (ix x)), vI s0] (LR z f) else none := rfl
set_option maxRecDepth 100000 in
theorem bc4_61_41 (call : QC FA) (x y : Int32) (ls : List (Option PV)) (L : QH FA) (F : Nat) : rnG call 61 (F + 1) 75 ls [vI y, vI x] L = bif pcmp 2 x y then rnG call 61 F 78 ls [] L else rnG call 61 F 76 ls [] L := rfl
set_option maxRecDepth 100000 in
theorem bc4_61_42 (call : QC FA) (x1 : Int32) (x2 : Int32) (x3 : Int32) (L : QH FA) (F : Nat) : rnG call 61 (F + 2) 20 [some (vR 0), some (vI x1), some (vI x2), some (vI x3)] [] L = rnG call 61 F 22 [some (vR 0), some (vI x1), some (vI x2), some (vI x3)] [vI 12, vI x3] L := rfl
set_option maxRecDepth 100000 in
theorem bc4_61_43 (call : QC FA) (x y : Int32) (ls : List (Option PV)) (L : QH FA) (F : Nat) : rnG call 61 (F + 1) 22 ls [vI y, vI x] L = bif pcmp 1 y 0 then rnG call 61 F 23 ls [vI (x - x / y * y)] L else none := rfl
set_option maxRecDepth 100000 in
theorem bc4_61_44 (call : QC FA) (x1 : Int32) (x2 : Int32) (x3 : Int32) (s0 : Int32) (L : QH FA) (F : Nat) : rnG call 61 (F + 1) 23 [some (vR 0), some (vI x1), some (vI x2), some (vI x3)] [vI s0] L = rnG call 61 F 24 [some (vR 0), some (vI x1), some (vI x2), some (vI x3)] [vI 11, vI s0] L := rfl
set_option maxRecDepth 100000 in
theorem bc4_61_45 (call : QC FA) (x y : Int32) (ls : List (Option PV)) (L : QH FA) (F : Nat) : rnG call 61 (F + 1) 24 ls [vI y, vI x] L = bif pcmp 3 x y then rnG call 61 F 59 ls [] L else rnG call 61 F 25 ls [] L := rfl
set_option maxRecDepth 100000 in
theorem bc4_61_46 (call : QC FA) (x1 : Int32) (x2 : Int32) (x3 : Int32) (L : QH FA) (F : Nat) : rnG call 61 (F + 2) 25 [some (vR 0), some (vI x1), some (vI x2), some (vI x3)] [] L = rnG call 61 F 27 [some (vR 0), some (vI x1), some (vI x2), some (vI x3)] [vI x3, vR 0] L := rfl
set_option maxRecDepth 100000 in
theorem bc4_61_47 (call : QC FA) (a0 : Int32) (ls : List (Option PV)) (z : Nat → Int32) (f : Nat → FA) (F : Nat) : rnG call 61 (F + 1) 27 ls [vI a0, vR 0] (LR z f) = cbd (call 49 [vR 0, vI a0] (LR z f)) (fun r L' => rnG call 61 F 28 ls (r.toList ++ []) L') := pcY (ih := rnG call 61 F) (call := call) (a := 49) (b := 1) (v := 12) (t := 28) (x := 0) (ls := ls) (As := [vI a0]) (st' := []) (L := LR z f) rfl rfl rfl
set_option maxRecDepth 100000 in
theorem bc4_61_48 (call : QC FA) (x : Int32) (ls : List (Option PV)) (L : QH FA) (F : Nat) : rnG call 61 (F + 1) 28 ls [vI x] L = bif pcmp 1 x 0 then rnG call 61 F 59 ls [] L else rnG call 61 F 29 ls [] L := rfl
set_option maxRecDepth 100000 in
theorem bc4_61_49 (call : QC FA) (x1 : Int32) (x2 : Int32) (x3 : Int32) (z : Nat → Int32) (f : Nat → FA) (F : Nat) : rnG call 61 (F + 10) 29 [some (vR 0), some (vI x1), some (vI x2), some (vI x3)] [] (LR z f) = rnG call 61 F 39 [some (vR 0), some (vI x1), some (vI x2), some (vI x3)] [vI (x3 + 1), vR 23, vR 0, vI 1, vI x3, vR 23] (LR z f) := rfl
set_option maxRecDepth 100000 in
theorem bc4_61_50 (call : QC FA) (x : Int32) (s1 : Int32) (s2 : Int32) (ls : List (Option PV)) (z : Nat → Int32) (f : Nat → FA) (F : Nat) : rnG call 61 (F + 1) 39 ls [vI x, vR 23, vR 0, vI s1, vI s2, vR 23] (LR z f) = bif (Nat.beq 0 0 && pin x 144) then rnG call 61 F 40 ls [vI (f 23 (ix x)), vR 0, vI s1, vI s2, vR 23] (LR z f) else none := rfl
set_option maxRecDepth 100000 in
theorem bc4_61_51 (call : QC FA) (x1 : Int32) (x2 : Int32) (x3 : Int32) (s0 : Int32) (s2 : Int32) (s3 : Int32) (z : Nat → Int32) (f : Nat → FA) (F : Nat) : rnG call 61 (F + 6) 40 [some (vR 0), some (vI x1), some (vI x2), some (vI x3)] [vI s0, vR 0, vI s2, vI s3, vR 23] (LR z f) = rnG call 61 F 46 [some (vR 0), some (vI x1), some (vI x2), some (vI x3)] [vI (x3 + 12), vR 23, vR 0, vI s0, vR 0, vI s2, vI s3, vR 23] (LR z f) := rfl
set_option maxRecDepth 100000 in
theorem bc4_61_52 (call : QC FA) (x : Int32) (s1 : Int32) (s3 : Int32) (s4 : Int32) (ls : List (Option PV)) (z : Nat → Int32) (f : Nat → FA) (F : Nat) : rnG call 61 (F + 1) 46 ls [vI x, vR 23, vR 0, vI s1, vR 0, vI s3, vI s4, vR 23] (LR z f) = bif (Nat.beq 0 0 && pin x 144) then rnG call 61 F 47 ls [vI (f 23 (ix x)), vR 0, vI s1, vR 0, vI s3, vI s4, vR 23] (LR z f) else none := rfl
set_option maxRecDepth 100000 in
theorem bc4_61_53 (call : QC FA) (x1 : Int32) (x2 : Int32) (x3 : Int32) (s0 : Int32) (s2 : Int32) (s4 : Int32) (s5 : Int32) (z : Nat → Int32) (f : Nat → FA) (F : Nat) : rnG call 61 (F + 7) 47 [some (vR 0), some (vI x1), some (vI x2), some (vI x3)] [vI s0, vR 0, vI s2, vR 0, vI s4, vI s5, vR 23] (LR z f) = rnG call 61 F 54 [some (vR 0), some (vI x1), some (vI x2), some (vI x3)] [vI ((x3 + 12) + 1), vR 23, vI s0, vR 0, vI s2, vR 0, vI s4, vI s5, vR 23] (LR z f) := rfl
set_option maxRecDepth 100000 in
theorem bc4_61_54 (call : QC FA) (x : Int32) (s0 : Int32) (s2 : Int32) (s4 : Int32) (s5 : Int32) (ls : List (Option PV)) (z : Nat → Int32) (f : Nat → FA) (F : Nat) : rnG call 61 (F + 1) 54 ls [vI x, vR 23, vI s0, vR 0, vI s2, vR 0, vI s4, vI s5, vR 23] (LR z f) = bif (Nat.beq 0 0 && pin x 144) then rnG call 61 F 55 ls [vI (f 23 (ix x)), vI s0, vR 0, vI s2, vR 0, vI s4, vI s5, vR 23] (LR z f) else none := rfl
set_option maxRecDepth 100000 in
theorem bc4_61_55 (call : QC FA) (a0 : Int32) (a1 : Int32) (s0 : Int32) (s2 : Int32) (s3 : Int32) (ls : List (Option PV)) (z : Nat → Int32) (f : Nat → FA) (F : Nat) : rnG call 61 (F + 1) 55 ls [vI a1, vI a0, vR 0, vI s0, vR 0, vI s2, vI s3, vR 23] (LR z f) = cbd (call 62 [vR 0, vI a0, vI a1] (LR z f)) (fun r L' => rnG call 61 F 56 ls (r.toList ++ [vI s0, vR 0, vI s2, vI s3, vR 23]) L') := pcY (ih := rnG call 61 F) (call := call) (a := 62) (b := 2) (v := 12) (t := 56) (x := 0) (ls := ls) (As := [vI a0, vI a1]) (st' := [vI s0, vR 0, vI s2, vI s3, vR 23]) (L := LR z f) rfl rfl rfl
set_option maxRecDepth 100000 in
theorem bc4_61_56 (call : QC FA) (a0 : Int32) (a1 : Int32) (s0 : Int32) (s1 : Int32) (ls : List (Option PV)) (z : Nat → Int32) (f : Nat → FA) (F : Nat) : rnG call 61 (F + 1) 56 ls [vI a1, vI a0, vR 0, vI s0, vI s1, vR 23] (LR z f) = cbd (call 62 [vR 0, vI a0, vI a1] (LR z f)) (fun r L' => rnG call 61 F 57 ls (r.toList ++ [vI s0, vI s1, vR 23]) L') := pcY (ih := rnG call 61 F) (call := call) (a := 62) (b := 2) (v := 12) (t := 57) (x := 0) (ls := ls) (As := [vI a0, vI a1]) (st' := [vI s0, vI s1, vR 23]) (L := LR z f) rfl rfl rfl
set_option maxRecDepth 100000 in
theorem bc4_61_57 (call : QC FA) (x1 : Int32) (x2 : Int32) (x3 : Int32) (s0 : Int32) (s1 : Int32) (s2 : Int32) (L : QH FA) (F : Nat) : rnG call 61 (F + 1) 57 [some (vR 0), some (vI x1), some (vI x2), some (vI x3)] [vI s0, vI s1, vI s2, vR 23] L = rnG call 61 F 58 [some (vR 0), some (vI x1), some (vI x2), some (vI x3)] [vI (s1 + s0), vI s2, vR 23] L := rfl
set_option maxRecDepth 100000 in
theorem bc4_61_58 (call : QC FA) (x y : Int32) (ls : List (Option PV)) (z : Nat → Int32) (f : Nat → FA) (F : Nat) : rnG call 61 (F + 1) 58 ls [vI y, vI x, vR 23] (LR z f) = bif (Nat.beq 0 0 && pin x 144) then rnG call 61 F 59 ls [] (LR z (uA f 23 (upd (f 23) (ix x) y))) else none := rfl
set_option maxRecDepth 100000 in
theorem bc4_61_59 (call : QC FA) (x1 : Int32) (x2 : Int32) (x3 : Int32) (s0 : Int32) (L : QH FA) (F : Nat) : rnG call 61 (F + 2) 13 [some (vR 0), some (vI x1), some (vI x2), some (vI x3)] [vI s0, vR 23] L = rnG call 61 F 16 [some (vR 0), some (vI x1), some (vI x2), some (vI x3)] [vI 0, vI s0, vR 23] L := rfl
theorem vcc4_61_4 (d : Nat) (x1 : Int32) (x2 : Int32) (x3 : Int32) (z : Nat → Int32) (f : Nat → FA) (res : Option PV × QH FA) (H : ((I x3 < 0 → ((¬ x1 = 7 → ((¬ x2 = (-1) → ((¬ x1 = 8 → (¬ (12 : Int32) = 0 ∧ res = (some (vI (x2 - x2 / 12 * 12)), LR z f))) ∧ (x1 = 8 → (¬ (12 : Int32) = 0 ∧ res = (some (vI (x2 / 12)), LR z f))))) ∧ (x2 = (-1) → res = (some (vI ((-1))), LR z f)))) ∧ (x1 = 7 → ((¬ x2 = (-1) → (pin x2 144 = true ∧ res = (some (vI (f 23 (ix x2))), LR z f))) ∧ (x2 = (-1) → res = (some (vI 0), LR z f)))))) ∧ (0 ≤ I x3 → (∃ (r1 : Int32) (z1 : Nat → Int32) (f1 : Nat → FA), (mcall (d + 5)) 49 [vR 0, vI x3] (LR z f) = some (some (vI r1), LR z1 f1) ∧ ((r1 = 0 → (pin x3 144 = true ∧ ((132 ≤ I x3 → (pin x3 144 = true ∧ ((I ((upd (f1 23) (ix x3) 1) (ix x3)) ≤ 0 → RC (mcall (d + 5)) (mP 61) 4 [some (vR 0), some (vI x1), some (vI x2), some (vI (x3 + (-1)))] [] (LR z1 (uA f1 23 (upd (f1 23) (ix x3) 1))) res) ∧ (0 < I ((upd (f1 23) (ix x3) 1) (ix x3)) → ((x2 = (-1) → RC (mcall (d + 5)) (mP 61) 4 [some (vR 0), some (vI x1), some (vI x3), some (vI (x3 + (-1)))] [] (LR z1 (uA f1 23 (upd (f1 23) (ix x3) 1))) res) ∧ (¬ x2 = (-1) → (pin x3 144 = true ∧ (pin x2 144 = true ∧ ((I ((upd (f1 23) (ix x3) 1) (ix x3)) < I ((upd (f1 23) (ix x3) 1) (ix x2)) → RC (mcall (d + 5)) (mP 61) 4 [some (vR 0), some (vI x1), some (vI x2), some (vI (x3 + (-1)))] [] (LR z1 (uA f1 23 (upd (f1 23) (ix x3) 1))) res) ∧ (I ((upd (f1 23) (ix x3) 1) (ix x2)) ≤ I ((upd (f1 23) (ix x3) 1) (ix x3)) → RC (mcall (d + 5)) (mP 61) 4 [some (vR 0), some (vI x1), some (vI x3), some (vI (x3 + (-1)))] [] (LR z1 (uA f1 23 (upd (f1 23) (ix x3) 1))) res)))))))))) ∧ (I x3 < 132 → (¬ (12 : Int32) = 0 ∧ ((11 ≤ I (x3 - x3 / 12 * 12) → (pin x3 144 = true ∧ ((I ((upd (f1 23) (ix x3) 1) (ix x3)) ≤ 0 → RC (mcall (d + 5)) (mP 61) 4 [some (vR 0), some (vI x1), some (vI x2), some (vI (x3 + (-1)))] [] (LR z1 (uA f1 23 (upd (f1 23) (ix x3) 1))) res) ∧ (0 < I ((upd (f1 23) (ix x3) 1) (ix x3)) → ((x2 = (-1) → RC (mcall (d + 5)) (mP 61) 4 [some (vR 0), some (vI x1), some (vI x3), some (vI (x3 + (-1)))] [] (LR z1 (uA f1 23 (upd (f1 23) (ix x3) 1))) res) ∧ (¬ x2 = (-1) → (pin x3 144 = true ∧ (pin x2 144 = true ∧ ((I ((upd (f1 23) (ix x3) 1) (ix x3)) < I ((upd (f1 23) (ix x3) 1) (ix x2)) → RC (mcall (d + 5)) (mP 61) 4 [some (vR 0), some (vI x1), some (vI x2), some (vI (x3 + (-1)))] [] (LR z1 (uA f1 23 (upd (f1 23) (ix x3) 1))) res) ∧ (I ((upd (f1 23) (ix x3) 1) (ix x2)) ≤ I ((upd (f1 23) (ix x3) 1) (ix x3)) → RC (mcall (d + 5)) (mP 61) 4 [some (vR 0), some (vI x1), some (vI x3), some (vI (x3 + (-1)))] [] (LR z1 (uA f1 23 (upd (f1 23) (ix x3) 1))) res)))))))))) ∧ (I (x3 - x3 / 12 * 12) < 11 → (∃ (r2 : Int32) (z2 : Nat → Int32) (f2 : Nat → FA), (mcall (d + 5)) 49 [vR 0, vI x3] (LR z1 (uA f1 23 (upd (f1 23) (ix x3) 1))) = some (some (vI r2), LR z2 f2) ∧ ((¬ r2 = 0 → (pin x3 144 = true ∧ ((I (f2 23 (ix x3)) ≤ 0 → RC (mcall (d + 5)) (mP 61) 4 [some (vR 0), some (vI x1), some (vI x2), some (vI (x3 + (-1)))] [] (LR z2 f2) res) ∧ (0 < I (f2 23 (ix x3)) → ((x2 = (-1) → RC (mcall (d + 5)) (mP 61) 4 [some (vR 0), some (vI x1), some (vI x3), some (vI (x3 + (-1)))] [] (LR z2 f2) res) ∧ (¬ x2 = (-1) → (pin x3 144 = true ∧ (pin x2 144 = true ∧ ((I (f2 23 (ix x3)) < I (f2 23 (ix x2)) → RC (mcall (d + 5)) (mP 61) 4 [some (vR 0), some (vI x1), some (vI x2), some (vI (x3 + (-1)))] [] (LR z2 f2) res) ∧ (I (f2 23 (ix x2)) ≤ I (f2 23 (ix x3)) → RC (mcall (d + 5)) (mP 61) 4 [some (vR 0), some (vI x1), some (vI x3), some (vI (x3 + (-1)))] [] (LR z2 f2) res)))))))))) ∧ (r2 = 0 → (pin (x3 + 1) 144 = true ∧ (pin (x3 + 12) 144 = true ∧ (pin ((x3 + 12) + 1) 144 = true ∧ (∃ (r3 : Int32) (z3 : Nat → Int32) (f3 : Nat → FA), (mcall (d + 5)) 62 [vR 0, vI (f2 23 (ix (x3 + 12))), vI (f2 23 (ix ((x3 + 12) + 1)))] (LR z2 f2) = some (some (vI r3), LR z3 f3) ∧ (∃ (r4 : Int32) (z4 : Nat → Int32) (f4 : Nat → FA), (mcall (d + 5)) 62 [vR 0, vI (f2 23 (ix (x3 + 1))), vI r3] (LR z3 f3) = some (some (vI r4), LR z4 f4) ∧ (pin x3 144 = true ∧ (pin x3 144 = true ∧ ((I ((upd (f4 23) (ix x3) (1 + r4)) (ix x3)) ≤ 0 → RC (mcall (d + 5)) (mP 61) 4 [some (vR 0), some (vI x1), some (vI x2), some (vI (x3 + (-1)))] [] (LR z4 (uA f4 23 (upd (f4 23) (ix x3) (1 + r4)))) res) ∧ (0 < I ((upd (f4 23) (ix x3) (1 + r4)) (ix x3)) → ((x2 = (-1) → RC (mcall (d + 5)) (mP 61) 4 [some (vR 0), some (vI x1), some (vI x3), some (vI (x3 + (-1)))] [] (LR z4 (uA f4 23 (upd (f4 23) (ix x3) (1 + r4)))) res) ∧ (¬ x2 = (-1) → (pin x3 144 = true ∧ (pin x2 144 = true ∧ ((I ((upd (f4 23) (ix x3) (1 + r4)) (ix x3)) < I ((upd (f4 23) (ix x3) (1 + r4)) (ix x2)) → RC (mcall (d + 5)) (mP 61) 4 [some (vR 0), some (vI x1), some (vI x2), some (vI (x3 + (-1)))] [] (LR z4 (uA f4 23 (upd (f4 23) (ix x3) (1 + r4)))) res) ∧ (I ((upd (f4 23) (ix x3) (1 + r4)) (ix x2)) ≤ I ((upd (f4 23) (ix x3) (1 + r4)) (ix x3)) → RC (mcall (d + 5)) (mP 61) 4 [some (vR 0), some (vI x1), some (vI x3), some (vI (x3 + (-1)))] [] (LR z4 (uA f4 23 (upd (f4 23) (ix x3) (1 + r4)))) res))))))))))))))))))))))))) ∧ (¬ r1 = 0 → (pin x3 144 = true ∧ ((132 ≤ I x3 → (pin x3 144 = true ∧ ((I ((upd (f1 23) (ix x3) 0) (ix x3)) ≤ 0 → RC (mcall (d + 5)) (mP 61) 4 [some (vR 0), some (vI x1), some (vI x2), some (vI (x3 + (-1)))] [] (LR z1 (uA f1 23 (upd (f1 23) (ix x3) 0))) res) ∧ (0 < I ((upd (f1 23) (ix x3) 0) (ix x3)) → ((x2 = (-1) → RC (mcall (d + 5)) (mP 61) 4 [some (vR 0), some (vI x1), some (vI x3), some (vI (x3 + (-1)))] [] (LR z1 (uA f1 23 (upd (f1 23) (ix x3) 0))) res) ∧ (¬ x2 = (-1) → (pin x3 144 = true ∧ (pin x2 144 = true ∧ ((I ((upd (f1 23) (ix x3) 0) (ix x3)) < I ((upd (f1 23) (ix x3) 0) (ix x2)) → RC (mcall (d + 5)) (mP 61) 4 [some (vR 0), some (vI x1), some (vI x2), some (vI (x3 + (-1)))] [] (LR z1 (uA f1 23 (upd (f1 23) (ix x3) 0))) res) ∧ (I ((upd (f1 23) (ix x3) 0) (ix x2)) ≤ I ((upd (f1 23) (ix x3) 0) (ix x3)) → RC (mcall (d + 5)) (mP 61) 4 [some (vR 0), some (vI x1), some (vI x3), some (vI (x3 + (-1)))] [] (LR z1 (uA f1 23 (upd (f1 23) (ix x3) 0))) res)))))))))) ∧ (I x3 < 132 → (¬ (12 : Int32) = 0 ∧ ((11 ≤ I (x3 - x3 / 12 * 12) → (pin x3 144 = true ∧ ((I ((upd (f1 23) (ix x3) 0) (ix x3)) ≤ 0 → RC (mcall (d + 5)) (mP 61) 4 [some (vR 0), some (vI x1), some (vI x2), some (vI (x3 + (-1)))] [] (LR z1 (uA f1 23 (upd (f1 23) (ix x3) 0))) res) ∧ (0 < I ((upd (f1 23) (ix x3) 0) (ix x3)) → ((x2 = (-1) → RC (mcall (d + 5)) (mP 61) 4 [some (vR 0), some (vI x1), some (vI x3), some (vI (x3 + (-1)))] [] (LR z1 (uA f1 23 (upd (f1 23) (ix x3) 0))) res) ∧ (¬ x2 = (-1) → (pin x3 144 = true ∧ (pin x2 144 = true ∧ ((I ((upd (f1 23) (ix x3) 0) (ix x3)) < I ((upd (f1 23) (ix x3) 0) (ix x2)) → RC (mcall (d + 5)) (mP 61) 4 [some (vR 0), some (vI x1), some (vI x2), some (vI (x3 + (-1)))] [] (LR z1 (uA f1 23 (upd (f1 23) (ix x3) 0))) res) ∧ (I ((upd (f1 23) (ix x3) 0) (ix x2)) ≤ I ((upd (f1 23) (ix x3) 0) (ix x3)) → RC (mcall (d + 5)) (mP 61) 4 [some (vR 0), some (vI x1), some (vI x3), some (vI (x3 + (-1)))] [] (LR z1 (uA f1 23 (upd (f1 23) (ix x3) 0))) res)))))))))) ∧ (I (x3 - x3 / 12 * 12) < 11 → (∃ (r5 : Int32) (z5 : Nat → Int32) (f5 : Nat → FA), (mcall (d + 5)) 49 [vR 0, vI x3] (LR z1 (uA f1 23 (upd (f1 23) (ix x3) 0))) = some (some (vI r5), LR z5 f5) ∧ ((¬ r5 = 0 → (pin x3 144 = true ∧ ((I (f5 23 (ix x3)) ≤ 0 → RC (mcall (d + 5)) (mP 61) 4 [some (vR 0), some (vI x1), some (vI x2), some (vI (x3 + (-1)))] [] (LR z5 f5) res) ∧ (0 < I (f5 23 (ix x3)) → ((x2 = (-1) → RC (mcall (d + 5)) (mP 61) 4 [some (vR 0), some (vI x1), some (vI x3), some (vI (x3 + (-1)))] [] (LR z5 f5) res) ∧ (¬ x2 = (-1) → (pin x3 144 = true ∧ (pin x2 144 = true ∧ ((I (f5 23 (ix x3)) < I (f5 23 (ix x2)) → RC (mcall (d + 5)) (mP 61) 4 [some (vR 0), some (vI x1), some (vI x2), some (vI (x3 + (-1)))] [] (LR z5 f5) res) ∧ (I (f5 23 (ix x2)) ≤ I (f5 23 (ix x3)) → RC (mcall (d + 5)) (mP 61) 4 [some (vR 0), some (vI x1), some (vI x3), some (vI (x3 + (-1)))] [] (LR z5 f5) res)))))))))) ∧ (r5 = 0 → (pin (x3 + 1) 144 = true ∧ (pin (x3 + 12) 144 = true ∧ (pin ((x3 + 12) + 1) 144 = true ∧ (∃ (r6 : Int32) (z6 : Nat → Int32) (f6 : Nat → FA), (mcall (d + 5)) 62 [vR 0, vI (f5 23 (ix (x3 + 12))), vI (f5 23 (ix ((x3 + 12) + 1)))] (LR z5 f5) = some (some (vI r6), LR z6 f6) ∧ (∃ (r7 : Int32) (z7 : Nat → Int32) (f7 : Nat → FA), (mcall (d + 5)) 62 [vR 0, vI (f5 23 (ix (x3 + 1))), vI r6] (LR z6 f6) = some (some (vI r7), LR z7 f7) ∧ (pin x3 144 = true ∧ (pin x3 144 = true ∧ ((I ((upd (f7 23) (ix x3) (1 + r7)) (ix x3)) ≤ 0 → RC (mcall (d + 5)) (mP 61) 4 [some (vR 0), some (vI x1), some (vI x2), some (vI (x3 + (-1)))] [] (LR z7 (uA f7 23 (upd (f7 23) (ix x3) (1 + r7)))) res) ∧ (0 < I ((upd (f7 23) (ix x3) (1 + r7)) (ix x3)) → ((x2 = (-1) → RC (mcall (d + 5)) (mP 61) 4 [some (vR 0), some (vI x1), some (vI x3), some (vI (x3 + (-1)))] [] (LR z7 (uA f7 23 (upd (f7 23) (ix x3) (1 + r7)))) res) ∧ (¬ x2 = (-1) → (pin x3 144 = true ∧ (pin x2 144 = true ∧ ((I ((upd (f7 23) (ix x3) (1 + r7)) (ix x3)) < I ((upd (f7 23) (ix x3) (1 + r7)) (ix x2)) → RC (mcall (d + 5)) (mP 61) 4 [some (vR 0), some (vI x1), some (vI x2), some (vI (x3 + (-1)))] [] (LR z7 (uA f7 23 (upd (f7 23) (ix x3) (1 + r7)))) res) ∧ (I ((upd (f7 23) (ix x3) (1 + r7)) (ix x2)) ≤ I ((upd (f7 23) (ix x3) (1 + r7)) (ix x3)) → RC (mcall (d + 5)) (mP 61) 4 [some (vR 0), some (vI x1), some (vI x3), some (vI (x3 + (-1)))] [] (LR z7 (uA f7 23 (upd (f7 23) (ix x3) (1 + r7)))) res)))))))))))))))))))))))))))))) : RC (mcall (d + 5)) (mP 61) 4 [some (vR 0), some (vI x1), some (vI x2), some (vI x3)] [] (LR z f) res := by
  refine rc_b (i' := 5) (ls' := [some (vR 0), some (vI x1), some (vI x2), some (vI x3)]) (st' := [vI x3]) (L' := LR z f) 1 (bc4_61_1 (mcall (d + 5)) x1 x2 x3 _) ?_
  refine rc_if (it := 80) (ie := 6) (ls' := [some (vR 0), some (vI x1), some (vI x2), some (vI x3)]) (st' := []) (bc4_61_2 (mcall (d + 5)) x3 _ _) (fun q1 => ?_) (fun q1 => ?_)
  · have H := H.1 (cI2t q1 rfl rfl)
    refine rc_b (i' := 82) (ls' := [some (vR 0), some (vI x1), some (vI x2), some (vI x3)]) (st' := [vI 7, vI x1]) (L' := LR z f) 2 (bc4_61_3 (mcall (d + 5)) x1 x2 x3 _) ?_
    refine rc_if (it := 93) (ie := 83) (ls' := [some (vR 0), some (vI x1), some (vI x2), some (vI x3)]) (st' := []) (bc4_61_4 (mcall (d + 5)) x1 7 _ _) (fun q2 => ?_) (fun q2 => ?_)
    · have H := H.1 (cI1t q2)
      refine rc_b (i' := 95) (ls' := [some (vR 0), some (vI x1), some (vI x2), some (vI x3)]) (st' := [vI ((-1)), vI x2]) (L' := LR z f) 2 (bc4_61_5 (mcall (d + 5)) x1 x2 x3 _) ?_
      refine rc_if (it := 98) (ie := 96) (ls' := [some (vR 0), some (vI x1), some (vI x2), some (vI x3)]) (st' := []) (bc4_61_6 (mcall (d + 5)) x2 ((-1)) _ _) (fun q3 => ?_) (fun q3 => ?_)
      · have H := H.1 (cI1t q3)
        refine rc_b (i' := 100) (ls' := [some (vR 0), some (vI x1), some (vI x2), some (vI x3)]) (st' := [vI 8, vI x1]) (L' := LR z f) 2 (bc4_61_7 (mcall (d + 5)) x1 x2 x3 _) ?_
        refine rc_if (it := 105) (ie := 101) (ls' := [some (vR 0), some (vI x1), some (vI x2), some (vI x3)]) (st' := []) (bc4_61_8 (mcall (d + 5)) x1 8 _ _) (fun q4 => ?_) (fun q4 => ?_)
        · have H := H.1 (cI1t q4)
          refine rc_b (i' := 107) (ls' := [some (vR 0), some (vI x1), some (vI x2), some (vI x3)]) (st' := [vI 12, vI x2]) (L' := LR z f) 2 (bc4_61_9 (mcall (d + 5)) x1 x2 x3 _) ?_
          obtain ⟨g1, H⟩ := H
          refine rc_g (i' := 108) (ls' := [some (vR 0), some (vI x1), some (vI x2), some (vI x3)]) (st' := [vI (x2 - x2 / 12 * 12)]) (L' := LR z f) (bc4_61_10 (mcall (d + 5)) x2 12 _ _) (cmp_ne.trans (decide_eq_true g1)) ?_
          subst H
          exact rc_ret (bc4_61_11 (mcall (d + 5)) _ _ _)
        · have H := H.2 (cI1f q4)
          refine rc_b (i' := 103) (ls' := [some (vR 0), some (vI x1), some (vI x2), some (vI x3)]) (st' := [vI 12, vI x2]) (L' := LR z f) 2 (bc4_61_12 (mcall (d + 5)) x1 x2 x3 _) ?_
          obtain ⟨g1, H⟩ := H
          refine rc_g (i' := 104) (ls' := [some (vR 0), some (vI x1), some (vI x2), some (vI x3)]) (st' := [vI (x2 / 12)]) (L' := LR z f) (bc4_61_13 (mcall (d + 5)) x2 12 _ _) (cmp_ne.trans (decide_eq_true g1)) ?_
          refine rc_b (i' := 108) (ls' := [some (vR 0), some (vI x1), some (vI x2), some (vI x3)]) (st' := [vI (x2 / 12)]) (L' := LR z f) 1 (bc4_61_14 (mcall (d + 5)) x1 x2 x3 (x2 / 12) _) ?_
          subst H
          exact rc_ret (bc4_61_11 (mcall (d + 5)) _ _ _)
      · have H := H.2 (cI1f q3)
        refine rc_b (i' := 108) (ls' := [some (vR 0), some (vI x1), some (vI x2), some (vI x3)]) (st' := [vI ((-1))]) (L' := LR z f) 2 (bc4_61_15 (mcall (d + 5)) x1 x2 x3 _) ?_
        subst H
        exact rc_ret (bc4_61_11 (mcall (d + 5)) _ _ _)
    · have H := H.2 (cI1f q2)
      refine rc_b (i' := 85) (ls' := [some (vR 0), some (vI x1), some (vI x2), some (vI x3)]) (st' := [vI ((-1)), vI x2]) (L' := LR z f) 2 (bc4_61_16 (mcall (d + 5)) x1 x2 x3 _) ?_
      refine rc_if (it := 88) (ie := 86) (ls' := [some (vR 0), some (vI x1), some (vI x2), some (vI x3)]) (st' := []) (bc4_61_17 (mcall (d + 5)) x2 ((-1)) _ _) (fun q5 => ?_) (fun q5 => ?_)
      · have H := H.1 (cI1t q5)
        refine rc_b (i' := 91) (ls' := [some (vR 0), some (vI x1), some (vI x2), some (vI x3)]) (st' := [vI x2, vR 23]) (L' := LR z f) 3 (bc4_61_18 (mcall (d + 5)) x1 x2 x3 z f) ?_
        obtain ⟨g1, H⟩ := H
        refine rc_g (i' := 92) (ls' := [some (vR 0), some (vI x1), some (vI x2), some (vI x3)]) (st' := [vI (f 23 (ix x2))]) (L' := LR z f) (bc4_61_19 (mcall (d + 5)) x2 _ z f) (pinG g1) ?_
        subst H
        exact rc_ret (bc4_61_20 (mcall (d + 5)) _ _ _)
      · have H := H.2 (cI1f q5)
        refine rc_b (i' := 92) (ls' := [some (vR 0), some (vI x1), some (vI x2), some (vI x3)]) (st' := [vI 0]) (L' := LR z f) 2 (bc4_61_21 (mcall (d + 5)) x1 x2 x3 _) ?_
        subst H
        exact rc_ret (bc4_61_20 (mcall (d + 5)) _ _ _)
  · have H := H.2 (cI2f q1 rfl rfl)
    refine rc_b (i' := 11) (ls' := [some (vR 0), some (vI x1), some (vI x2), some (vI x3)]) (st' := [vI x3, vR 0, vI x3, vR 23]) (L' := LR z f) 5 (bc4_61_22 (mcall (d + 5)) x1 x2 x3 z f) ?_
    obtain ⟨r1, z1, f1, hc, H⟩ := H
    refine rc_call (t := 12) (ls' := [some (vR 0), some (vI x1), some (vI x2), some (vI x3)]) (st' := [vI x3, vR 23]) (bc4_61_23 (mcall (d + 5)) x3 x3 _ z f) hc ?_
    show RC (mcall (d + 5)) (mP 61) 12 [some (vR 0), some (vI x1), some (vI x2), some (vI x3)] [vI r1, vI x3, vR 23] (LR z1 f1) res
    refine rc_if (it := 15) (ie := 13) (ls' := [some (vR 0), some (vI x1), some (vI x2), some (vI x3)]) (st' := [vI x3, vR 23]) (bc4_61_24 (mcall (d + 5)) r1 x3 _ _) (fun q6 => ?_) (fun q6 => ?_)
    · have H := H.1 (cI0t q6)
      refine rc_b (i' := 16) (ls' := [some (vR 0), some (vI x1), some (vI x2), some (vI x3)]) (st' := [vI 1, vI x3, vR 23]) (L' := LR z1 f1) 1 (bc4_61_25 (mcall (d + 5)) x1 x2 x3 x3 _) ?_
      obtain ⟨g1, H⟩ := H
      refine rc_g (i' := 17) (ls' := [some (vR 0), some (vI x1), some (vI x2), some (vI x3)]) (st' := []) (L' := LR z1 (uA f1 23 (upd (f1 23) (ix x3) 1))) (bc4_61_26 (mcall (d + 5)) x3 1 _ z1 f1) (pinG g1) ?_
      refine rc_b (i' := 19) (ls' := [some (vR 0), some (vI x1), some (vI x2), some (vI x3)]) (st' := [vI 132, vI x3]) (L' := LR z1 (uA f1 23 (upd (f1 23) (ix x3) 1))) 2 (bc4_61_27 (mcall (d + 5)) x1 x2 x3 _) ?_
      refine rc_if (it := 59) (ie := 20) (ls' := [some (vR 0), some (vI x1), some (vI x2), some (vI x3)]) (st' := []) (bc4_61_28 (mcall (d + 5)) x3 132 _ _) (fun q7 => ?_) (fun q7 => ?_)
      · have H := H.1 (cI3t q7 rfl rfl)
        refine rc_b (i' := 62) (ls' := [some (vR 0), some (vI x1), some (vI x2), some (vI x3)]) (st' := [vI x3, vR 23]) (L' := LR z1 (uA f1 23 (upd (f1 23) (ix x3) 1))) 3 (bc4_61_29 (mcall (d + 5)) x1 x2 x3 z1 (uA f1 23 (upd (f1 23) (ix x3) 1))) ?_
        obtain ⟨g1, H⟩ := H
        refine rc_g (i' := 63) (ls' := [some (vR 0), some (vI x1), some (vI x2), some (vI x3)]) (st' := [vI ((upd (f1 23) (ix x3) 1) (ix x3))]) (L' := LR z1 (uA f1 23 (upd (f1 23) (ix x3) 1))) (bc4_61_30 (mcall (d + 5)) x3 _ z1 (uA f1 23 (upd (f1 23) (ix x3) 1))) (pinG g1) ?_
        refine rc_if (it := 78) (ie := 64) (ls' := [some (vR 0), some (vI x1), some (vI x2), some (vI x3)]) (st' := []) (bc4_61_31 (mcall (d + 5)) ((upd (f1 23) (ix x3) 1) (ix x3)) _ _) (fun q8 => ?_) (fun q8 => ?_)
        · have H := H.1 (cI5t q8 rfl rfl)
          refine rc_b (i' := 79) (ls' := [some (vR 0), some (vI x1), some (vI x2), some (vI (x3 + (-1)))]) (st' := []) (L' := LR z1 (uA f1 23 (upd (f1 23) (ix x3) 1))) 1 (bc4_61_32 (mcall (d + 5)) x1 x2 x3 _) ?_
          refine rc_b (i' := 4) (ls' := [some (vR 0), some (vI x1), some (vI x2), some (vI (x3 + (-1)))]) (st' := []) (L' := LR z1 (uA f1 23 (upd (f1 23) (ix x3) 1))) 1 (bc4_61_33 (mcall (d + 5)) x1 x2 (x3 + (-1)) _) ?_
          exact H
        · have H := H.2 (cI5f q8 rfl rfl)
          refine rc_b (i' := 66) (ls' := [some (vR 0), some (vI x1), some (vI x2), some (vI x3)]) (st' := [vI ((-1)), vI x2]) (L' := LR z1 (uA f1 23 (upd (f1 23) (ix x3) 1))) 2 (bc4_61_34 (mcall (d + 5)) x1 x2 x3 _) ?_
          refine rc_if (it := 76) (ie := 67) (ls' := [some (vR 0), some (vI x1), some (vI x2), some (vI x3)]) (st' := []) (bc4_61_35 (mcall (d + 5)) x2 ((-1)) _ _) (fun q9 => ?_) (fun q9 => ?_)
          · have H := H.1 (cI0t q9)
            refine rc_b (i' := 78) (ls' := [some (vR 0), some (vI x1), some (vI x3), some (vI x3)]) (st' := []) (L' := LR z1 (uA f1 23 (upd (f1 23) (ix x3) 1))) 2 (bc4_61_36 (mcall (d + 5)) x1 x2 x3 _) ?_
            refine rc_b (i' := 79) (ls' := [some (vR 0), some (vI x1), some (vI x3), some (vI (x3 + (-1)))]) (st' := []) (L' := LR z1 (uA f1 23 (upd (f1 23) (ix x3) 1))) 1 (bc4_61_32 (mcall (d + 5)) x1 x3 x3 _) ?_
            refine rc_b (i' := 4) (ls' := [some (vR 0), some (vI x1), some (vI x3), some (vI (x3 + (-1)))]) (st' := []) (L' := LR z1 (uA f1 23 (upd (f1 23) (ix x3) 1))) 1 (bc4_61_33 (mcall (d + 5)) x1 x3 (x3 + (-1)) _) ?_
            exact H
          · have H := H.2 (cI0f q9)
            refine rc_b (i' := 70) (ls' := [some (vR 0), some (vI x1), some (vI x2), some (vI x3)]) (st' := [vI x3, vR 23]) (L' := LR z1 (uA f1 23 (upd (f1 23) (ix x3) 1))) 3 (bc4_61_37 (mcall (d + 5)) x1 x2 x3 z1 (uA f1 23 (upd (f1 23) (ix x3) 1))) ?_
            obtain ⟨g1, H⟩ := H
            refine rc_g (i' := 71) (ls' := [some (vR 0), some (vI x1), some (vI x2), some (vI x3)]) (st' := [vI ((upd (f1 23) (ix x3) 1) (ix x3))]) (L' := LR z1 (uA f1 23 (upd (f1 23) (ix x3) 1))) (bc4_61_38 (mcall (d + 5)) x3 _ z1 (uA f1 23 (upd (f1 23) (ix x3) 1))) (pinG g1) ?_
            refine rc_b (i' := 74) (ls' := [some (vR 0), some (vI x1), some (vI x2), some (vI x3)]) (st' := [vI x2, vR 23, vI ((upd (f1 23) (ix x3) 1) (ix x3))]) (L' := LR z1 (uA f1 23 (upd (f1 23) (ix x3) 1))) 3 (bc4_61_39 (mcall (d + 5)) x1 x2 x3 ((upd (f1 23) (ix x3) 1) (ix x3)) z1 (uA f1 23 (upd (f1 23) (ix x3) 1))) ?_
            obtain ⟨g1, H⟩ := H
            refine rc_g (i' := 75) (ls' := [some (vR 0), some (vI x1), some (vI x2), some (vI x3)]) (st' := [vI ((upd (f1 23) (ix x3) 1) (ix x2)), vI ((upd (f1 23) (ix x3) 1) (ix x3))]) (L' := LR z1 (uA f1 23 (upd (f1 23) (ix x3) 1))) (bc4_61_40 (mcall (d + 5)) x2 ((upd (f1 23) (ix x3) 1) (ix x3)) _ z1 (uA f1 23 (upd (f1 23) (ix x3) 1))) (pinG g1) ?_
            refine rc_if (it := 78) (ie := 76) (ls' := [some (vR 0), some (vI x1), some (vI x2), some (vI x3)]) (st' := []) (bc4_61_41 (mcall (d + 5)) ((upd (f1 23) (ix x3) 1) (ix x3)) ((upd (f1 23) (ix x3) 1) (ix x2)) _ _) (fun q10 => ?_) (fun q10 => ?_)
            · have H := H.1 (cI2t q10 rfl rfl)
              refine rc_b (i' := 79) (ls' := [some (vR 0), some (vI x1), some (vI x2), some (vI (x3 + (-1)))]) (st' := []) (L' := LR z1 (uA f1 23 (upd (f1 23) (ix x3) 1))) 1 (bc4_61_32 (mcall (d + 5)) x1 x2 x3 _) ?_
              refine rc_b (i' := 4) (ls' := [some (vR 0), some (vI x1), some (vI x2), some (vI (x3 + (-1)))]) (st' := []) (L' := LR z1 (uA f1 23 (upd (f1 23) (ix x3) 1))) 1 (bc4_61_33 (mcall (d + 5)) x1 x2 (x3 + (-1)) _) ?_
              exact H
            · have H := H.2 (cI2f q10 rfl rfl)
              refine rc_b (i' := 78) (ls' := [some (vR 0), some (vI x1), some (vI x3), some (vI x3)]) (st' := []) (L' := LR z1 (uA f1 23 (upd (f1 23) (ix x3) 1))) 2 (bc4_61_36 (mcall (d + 5)) x1 x2 x3 _) ?_
              refine rc_b (i' := 79) (ls' := [some (vR 0), some (vI x1), some (vI x3), some (vI (x3 + (-1)))]) (st' := []) (L' := LR z1 (uA f1 23 (upd (f1 23) (ix x3) 1))) 1 (bc4_61_32 (mcall (d + 5)) x1 x3 x3 _) ?_
              refine rc_b (i' := 4) (ls' := [some (vR 0), some (vI x1), some (vI x3), some (vI (x3 + (-1)))]) (st' := []) (L' := LR z1 (uA f1 23 (upd (f1 23) (ix x3) 1))) 1 (bc4_61_33 (mcall (d + 5)) x1 x3 (x3 + (-1)) _) ?_
              exact H
      · have H := H.2 (cI3f q7 rfl rfl)
        refine rc_b (i' := 22) (ls' := [some (vR 0), some (vI x1), some (vI x2), some (vI x3)]) (st' := [vI 12, vI x3]) (L' := LR z1 (uA f1 23 (upd (f1 23) (ix x3) 1))) 2 (bc4_61_42 (mcall (d + 5)) x1 x2 x3 _) ?_
        obtain ⟨g1, H⟩ := H
        refine rc_g (i' := 23) (ls' := [some (vR 0), some (vI x1), some (vI x2), some (vI x3)]) (st' := [vI (x3 - x3 / 12 * 12)]) (L' := LR z1 (uA f1 23 (upd (f1 23) (ix x3) 1))) (bc4_61_43 (mcall (d + 5)) x3 12 _ _) (cmp_ne.trans (decide_eq_true g1)) ?_
        refine rc_b (i' := 24) (ls' := [some (vR 0), some (vI x1), some (vI x2), some (vI x3)]) (st' := [vI 11, vI (x3 - x3 / 12 * 12)]) (L' := LR z1 (uA f1 23 (upd (f1 23) (ix x3) 1))) 1 (bc4_61_44 (mcall (d + 5)) x1 x2 x3 (x3 - x3 / 12 * 12) _) ?_
        refine rc_if (it := 59) (ie := 25) (ls' := [some (vR 0), some (vI x1), some (vI x2), some (vI x3)]) (st' := []) (bc4_61_45 (mcall (d + 5)) (x3 - x3 / 12 * 12) 11 _ _) (fun q11 => ?_) (fun q11 => ?_)
        · have H := H.1 (cI3t q11 rfl rfl)
          refine rc_b (i' := 62) (ls' := [some (vR 0), some (vI x1), some (vI x2), some (vI x3)]) (st' := [vI x3, vR 23]) (L' := LR z1 (uA f1 23 (upd (f1 23) (ix x3) 1))) 3 (bc4_61_29 (mcall (d + 5)) x1 x2 x3 z1 (uA f1 23 (upd (f1 23) (ix x3) 1))) ?_
          obtain ⟨g1, H⟩ := H
          refine rc_g (i' := 63) (ls' := [some (vR 0), some (vI x1), some (vI x2), some (vI x3)]) (st' := [vI ((upd (f1 23) (ix x3) 1) (ix x3))]) (L' := LR z1 (uA f1 23 (upd (f1 23) (ix x3) 1))) (bc4_61_30 (mcall (d + 5)) x3 _ z1 (uA f1 23 (upd (f1 23) (ix x3) 1))) (pinG g1) ?_
          refine rc_if (it := 78) (ie := 64) (ls' := [some (vR 0), some (vI x1), some (vI x2), some (vI x3)]) (st' := []) (bc4_61_31 (mcall (d + 5)) ((upd (f1 23) (ix x3) 1) (ix x3)) _ _) (fun q12 => ?_) (fun q12 => ?_)
          · have H := H.1 (cI5t q12 rfl rfl)
            refine rc_b (i' := 79) (ls' := [some (vR 0), some (vI x1), some (vI x2), some (vI (x3 + (-1)))]) (st' := []) (L' := LR z1 (uA f1 23 (upd (f1 23) (ix x3) 1))) 1 (bc4_61_32 (mcall (d + 5)) x1 x2 x3 _) ?_
            refine rc_b (i' := 4) (ls' := [some (vR 0), some (vI x1), some (vI x2), some (vI (x3 + (-1)))]) (st' := []) (L' := LR z1 (uA f1 23 (upd (f1 23) (ix x3) 1))) 1 (bc4_61_33 (mcall (d + 5)) x1 x2 (x3 + (-1)) _) ?_
            exact H
          · have H := H.2 (cI5f q12 rfl rfl)
            refine rc_b (i' := 66) (ls' := [some (vR 0), some (vI x1), some (vI x2), some (vI x3)]) (st' := [vI ((-1)), vI x2]) (L' := LR z1 (uA f1 23 (upd (f1 23) (ix x3) 1))) 2 (bc4_61_34 (mcall (d + 5)) x1 x2 x3 _) ?_
            refine rc_if (it := 76) (ie := 67) (ls' := [some (vR 0), some (vI x1), some (vI x2), some (vI x3)]) (st' := []) (bc4_61_35 (mcall (d + 5)) x2 ((-1)) _ _) (fun q13 => ?_) (fun q13 => ?_)
            · have H := H.1 (cI0t q13)
              refine rc_b (i' := 78) (ls' := [some (vR 0), some (vI x1), some (vI x3), some (vI x3)]) (st' := []) (L' := LR z1 (uA f1 23 (upd (f1 23) (ix x3) 1))) 2 (bc4_61_36 (mcall (d + 5)) x1 x2 x3 _) ?_
              refine rc_b (i' := 79) (ls' := [some (vR 0), some (vI x1), some (vI x3), some (vI (x3 + (-1)))]) (st' := []) (L' := LR z1 (uA f1 23 (upd (f1 23) (ix x3) 1))) 1 (bc4_61_32 (mcall (d + 5)) x1 x3 x3 _) ?_
              refine rc_b (i' := 4) (ls' := [some (vR 0), some (vI x1), some (vI x3), some (vI (x3 + (-1)))]) (st' := []) (L' := LR z1 (uA f1 23 (upd (f1 23) (ix x3) 1))) 1 (bc4_61_33 (mcall (d + 5)) x1 x3 (x3 + (-1)) _) ?_
              exact H
            · have H := H.2 (cI0f q13)
              refine rc_b (i' := 70) (ls' := [some (vR 0), some (vI x1), some (vI x2), some (vI x3)]) (st' := [vI x3, vR 23]) (L' := LR z1 (uA f1 23 (upd (f1 23) (ix x3) 1))) 3 (bc4_61_37 (mcall (d + 5)) x1 x2 x3 z1 (uA f1 23 (upd (f1 23) (ix x3) 1))) ?_
              obtain ⟨g1, H⟩ := H
              refine rc_g (i' := 71) (ls' := [some (vR 0), some (vI x1), some (vI x2), some (vI x3)]) (st' := [vI ((upd (f1 23) (ix x3) 1) (ix x3))]) (L' := LR z1 (uA f1 23 (upd (f1 23) (ix x3) 1))) (bc4_61_38 (mcall (d + 5)) x3 _ z1 (uA f1 23 (upd (f1 23) (ix x3) 1))) (pinG g1) ?_
              refine rc_b (i' := 74) (ls' := [some (vR 0), some (vI x1), some (vI x2), some (vI x3)]) (st' := [vI x2, vR 23, vI ((upd (f1 23) (ix x3) 1) (ix x3))]) (L' := LR z1 (uA f1 23 (upd (f1 23) (ix x3) 1))) 3 (bc4_61_39 (mcall (d + 5)) x1 x2 x3 ((upd (f1 23) (ix x3) 1) (ix x3)) z1 (uA f1 23 (upd (f1 23) (ix x3) 1))) ?_
              obtain ⟨g1, H⟩ := H
              refine rc_g (i' := 75) (ls' := [some (vR 0), some (vI x1), some (vI x2), some (vI x3)]) (st' := [vI ((upd (f1 23) (ix x3) 1) (ix x2)), vI ((upd (f1 23) (ix x3) 1) (ix x3))]) (L' := LR z1 (uA f1 23 (upd (f1 23) (ix x3) 1))) (bc4_61_40 (mcall (d + 5)) x2 ((upd (f1 23) (ix x3) 1) (ix x3)) _ z1 (uA f1 23 (upd (f1 23) (ix x3) 1))) (pinG g1) ?_
              refine rc_if (it := 78) (ie := 76) (ls' := [some (vR 0), some (vI x1), some (vI x2), some (vI x3)]) (st' := []) (bc4_61_41 (mcall (d + 5)) ((upd (f1 23) (ix x3) 1) (ix x3)) ((upd (f1 23) (ix x3) 1) (ix x2)) _ _) (fun q14 => ?_) (fun q14 => ?_)
              · have H := H.1 (cI2t q14 rfl rfl)
                refine rc_b (i' := 79) (ls' := [some (vR 0), some (vI x1), some (vI x2), some (vI (x3 + (-1)))]) (st' := []) (L' := LR z1 (uA f1 23 (upd (f1 23) (ix x3) 1))) 1 (bc4_61_32 (mcall (d + 5)) x1 x2 x3 _) ?_
                refine rc_b (i' := 4) (ls' := [some (vR 0), some (vI x1), some (vI x2), some (vI (x3 + (-1)))]) (st' := []) (L' := LR z1 (uA f1 23 (upd (f1 23) (ix x3) 1))) 1 (bc4_61_33 (mcall (d + 5)) x1 x2 (x3 + (-1)) _) ?_
                exact H
              · have H := H.2 (cI2f q14 rfl rfl)
                refine rc_b (i' := 78) (ls' := [some (vR 0), some (vI x1), some (vI x3), some (vI x3)]) (st' := []) (L' := LR z1 (uA f1 23 (upd (f1 23) (ix x3) 1))) 2 (bc4_61_36 (mcall (d + 5)) x1 x2 x3 _) ?_
                refine rc_b (i' := 79) (ls' := [some (vR 0), some (vI x1), some (vI x3), some (vI (x3 + (-1)))]) (st' := []) (L' := LR z1 (uA f1 23 (upd (f1 23) (ix x3) 1))) 1 (bc4_61_32 (mcall (d + 5)) x1 x3 x3 _) ?_
                refine rc_b (i' := 4) (ls' := [some (vR 0), some (vI x1), some (vI x3), some (vI (x3 + (-1)))]) (st' := []) (L' := LR z1 (uA f1 23 (upd (f1 23) (ix x3) 1))) 1 (bc4_61_33 (mcall (d + 5)) x1 x3 (x3 + (-1)) _) ?_
                exact H
        · have H := H.2 (cI3f q11 rfl rfl)
          refine rc_b (i' := 27) (ls' := [some (vR 0), some (vI x1), some (vI x2), some (vI x3)]) (st' := [vI x3, vR 0]) (L' := LR z1 (uA f1 23 (upd (f1 23) (ix x3) 1))) 2 (bc4_61_46 (mcall (d + 5)) x1 x2 x3 _) ?_
          obtain ⟨r2, z2, f2, hc, H⟩ := H
          refine rc_call (t := 28) (ls' := [some (vR 0), some (vI x1), some (vI x2), some (vI x3)]) (st' := []) (bc4_61_47 (mcall (d + 5)) x3 _ z1 (uA f1 23 (upd (f1 23) (ix x3) 1))) hc ?_
          show RC (mcall (d + 5)) (mP 61) 28 [some (vR 0), some (vI x1), some (vI x2), some (vI x3)] [vI r2] (LR z2 f2) res
          refine rc_if (it := 59) (ie := 29) (ls' := [some (vR 0), some (vI x1), some (vI x2), some (vI x3)]) (st' := []) (bc4_61_48 (mcall (d + 5)) r2 _ _) (fun q15 => ?_) (fun q15 => ?_)
          · have H := H.1 (cI1t q15)
            refine rc_b (i' := 62) (ls' := [some (vR 0), some (vI x1), some (vI x2), some (vI x3)]) (st' := [vI x3, vR 23]) (L' := LR z2 f2) 3 (bc4_61_29 (mcall (d + 5)) x1 x2 x3 z2 f2) ?_
            obtain ⟨g1, H⟩ := H
            refine rc_g (i' := 63) (ls' := [some (vR 0), some (vI x1), some (vI x2), some (vI x3)]) (st' := [vI (f2 23 (ix x3))]) (L' := LR z2 f2) (bc4_61_30 (mcall (d + 5)) x3 _ z2 f2) (pinG g1) ?_
            refine rc_if (it := 78) (ie := 64) (ls' := [some (vR 0), some (vI x1), some (vI x2), some (vI x3)]) (st' := []) (bc4_61_31 (mcall (d + 5)) (f2 23 (ix x3)) _ _) (fun q16 => ?_) (fun q16 => ?_)
            · have H := H.1 (cI5t q16 rfl rfl)
              refine rc_b (i' := 79) (ls' := [some (vR 0), some (vI x1), some (vI x2), some (vI (x3 + (-1)))]) (st' := []) (L' := LR z2 f2) 1 (bc4_61_32 (mcall (d + 5)) x1 x2 x3 _) ?_
              refine rc_b (i' := 4) (ls' := [some (vR 0), some (vI x1), some (vI x2), some (vI (x3 + (-1)))]) (st' := []) (L' := LR z2 f2) 1 (bc4_61_33 (mcall (d + 5)) x1 x2 (x3 + (-1)) _) ?_
              exact H
            · have H := H.2 (cI5f q16 rfl rfl)
              refine rc_b (i' := 66) (ls' := [some (vR 0), some (vI x1), some (vI x2), some (vI x3)]) (st' := [vI ((-1)), vI x2]) (L' := LR z2 f2) 2 (bc4_61_34 (mcall (d + 5)) x1 x2 x3 _) ?_
              refine rc_if (it := 76) (ie := 67) (ls' := [some (vR 0), some (vI x1), some (vI x2), some (vI x3)]) (st' := []) (bc4_61_35 (mcall (d + 5)) x2 ((-1)) _ _) (fun q17 => ?_) (fun q17 => ?_)
              · have H := H.1 (cI0t q17)
                refine rc_b (i' := 78) (ls' := [some (vR 0), some (vI x1), some (vI x3), some (vI x3)]) (st' := []) (L' := LR z2 f2) 2 (bc4_61_36 (mcall (d + 5)) x1 x2 x3 _) ?_
                refine rc_b (i' := 79) (ls' := [some (vR 0), some (vI x1), some (vI x3), some (vI (x3 + (-1)))]) (st' := []) (L' := LR z2 f2) 1 (bc4_61_32 (mcall (d + 5)) x1 x3 x3 _) ?_
                refine rc_b (i' := 4) (ls' := [some (vR 0), some (vI x1), some (vI x3), some (vI (x3 + (-1)))]) (st' := []) (L' := LR z2 f2) 1 (bc4_61_33 (mcall (d + 5)) x1 x3 (x3 + (-1)) _) ?_
                exact H
              · have H := H.2 (cI0f q17)
                refine rc_b (i' := 70) (ls' := [some (vR 0), some (vI x1), some (vI x2), some (vI x3)]) (st' := [vI x3, vR 23]) (L' := LR z2 f2) 3 (bc4_61_37 (mcall (d + 5)) x1 x2 x3 z2 f2) ?_
                obtain ⟨g1, H⟩ := H
                refine rc_g (i' := 71) (ls' := [some (vR 0), some (vI x1), some (vI x2), some (vI x3)]) (st' := [vI (f2 23 (ix x3))]) (L' := LR z2 f2) (bc4_61_38 (mcall (d + 5)) x3 _ z2 f2) (pinG g1) ?_
                refine rc_b (i' := 74) (ls' := [some (vR 0), some (vI x1), some (vI x2), some (vI x3)]) (st' := [vI x2, vR 23, vI (f2 23 (ix x3))]) (L' := LR z2 f2) 3 (bc4_61_39 (mcall (d + 5)) x1 x2 x3 (f2 23 (ix x3)) z2 f2) ?_
                obtain ⟨g1, H⟩ := H
                refine rc_g (i' := 75) (ls' := [some (vR 0), some (vI x1), some (vI x2), some (vI x3)]) (st' := [vI (f2 23 (ix x2)), vI (f2 23 (ix x3))]) (L' := LR z2 f2) (bc4_61_40 (mcall (d + 5)) x2 (f2 23 (ix x3)) _ z2 f2) (pinG g1) ?_
                refine rc_if (it := 78) (ie := 76) (ls' := [some (vR 0), some (vI x1), some (vI x2), some (vI x3)]) (st' := []) (bc4_61_41 (mcall (d + 5)) (f2 23 (ix x3)) (f2 23 (ix x2)) _ _) (fun q18 => ?_) (fun q18 => ?_)
                · have H := H.1 (cI2t q18 rfl rfl)
                  refine rc_b (i' := 79) (ls' := [some (vR 0), some (vI x1), some (vI x2), some (vI (x3 + (-1)))]) (st' := []) (L' := LR z2 f2) 1 (bc4_61_32 (mcall (d + 5)) x1 x2 x3 _) ?_
                  refine rc_b (i' := 4) (ls' := [some (vR 0), some (vI x1), some (vI x2), some (vI (x3 + (-1)))]) (st' := []) (L' := LR z2 f2) 1 (bc4_61_33 (mcall (d + 5)) x1 x2 (x3 + (-1)) _) ?_
                  exact H
                · have H := H.2 (cI2f q18 rfl rfl)
                  refine rc_b (i' := 78) (ls' := [some (vR 0), some (vI x1), some (vI x3), some (vI x3)]) (st' := []) (L' := LR z2 f2) 2 (bc4_61_36 (mcall (d + 5)) x1 x2 x3 _) ?_
                  refine rc_b (i' := 79) (ls' := [some (vR 0), some (vI x1), some (vI x3), some (vI (x3 + (-1)))]) (st' := []) (L' := LR z2 f2) 1 (bc4_61_32 (mcall (d + 5)) x1 x3 x3 _) ?_
                  refine rc_b (i' := 4) (ls' := [some (vR 0), some (vI x1), some (vI x3), some (vI (x3 + (-1)))]) (st' := []) (L' := LR z2 f2) 1 (bc4_61_33 (mcall (d + 5)) x1 x3 (x3 + (-1)) _) ?_
                  exact H
          · have H := H.2 (cI1f q15)
            refine rc_b (i' := 39) (ls' := [some (vR 0), some (vI x1), some (vI x2), some (vI x3)]) (st' := [vI (x3 + 1), vR 23, vR 0, vI 1, vI x3, vR 23]) (L' := LR z2 f2) 10 (bc4_61_49 (mcall (d + 5)) x1 x2 x3 z2 f2) ?_
            obtain ⟨g1, H⟩ := H
            refine rc_g (i' := 40) (ls' := [some (vR 0), some (vI x1), some (vI x2), some (vI x3)]) (st' := [vI (f2 23 (ix (x3 + 1))), vR 0, vI 1, vI x3, vR 23]) (L' := LR z2 f2) (bc4_61_50 (mcall (d + 5)) (x3 + 1) 1 x3 _ z2 f2) (pinG g1) ?_
            refine rc_b (i' := 46) (ls' := [some (vR 0), some (vI x1), some (vI x2), some (vI x3)]) (st' := [vI (x3 + 12), vR 23, vR 0, vI (f2 23 (ix (x3 + 1))), vR 0, vI 1, vI x3, vR 23]) (L' := LR z2 f2) 6 (bc4_61_51 (mcall (d + 5)) x1 x2 x3 (f2 23 (ix (x3 + 1))) 1 x3 z2 f2) ?_
            obtain ⟨g1, H⟩ := H
            refine rc_g (i' := 47) (ls' := [some (vR 0), some (vI x1), some (vI x2), some (vI x3)]) (st' := [vI (f2 23 (ix (x3 + 12))), vR 0, vI (f2 23 (ix (x3 + 1))), vR 0, vI 1, vI x3, vR 23]) (L' := LR z2 f2) (bc4_61_52 (mcall (d + 5)) (x3 + 12) (f2 23 (ix (x3 + 1))) 1 x3 _ z2 f2) (pinG g1) ?_
            refine rc_b (i' := 54) (ls' := [some (vR 0), some (vI x1), some (vI x2), some (vI x3)]) (st' := [vI ((x3 + 12) + 1), vR 23, vI (f2 23 (ix (x3 + 12))), vR 0, vI (f2 23 (ix (x3 + 1))), vR 0, vI 1, vI x3, vR 23]) (L' := LR z2 f2) 7 (bc4_61_53 (mcall (d + 5)) x1 x2 x3 (f2 23 (ix (x3 + 12))) (f2 23 (ix (x3 + 1))) 1 x3 z2 f2) ?_
            obtain ⟨g1, H⟩ := H
            refine rc_g (i' := 55) (ls' := [some (vR 0), some (vI x1), some (vI x2), some (vI x3)]) (st' := [vI (f2 23 (ix ((x3 + 12) + 1))), vI (f2 23 (ix (x3 + 12))), vR 0, vI (f2 23 (ix (x3 + 1))), vR 0, vI 1, vI x3, vR 23]) (L' := LR z2 f2) (bc4_61_54 (mcall (d + 5)) ((x3 + 12) + 1) (f2 23 (ix (x3 + 12))) (f2 23 (ix (x3 + 1))) 1 x3 _ z2 f2) (pinG g1) ?_
            obtain ⟨r3, z3, f3, hc, H⟩ := H
            refine rc_call (t := 56) (ls' := [some (vR 0), some (vI x1), some (vI x2), some (vI x3)]) (st' := [vI (f2 23 (ix (x3 + 1))), vR 0, vI 1, vI x3, vR 23]) (bc4_61_55 (mcall (d + 5)) (f2 23 (ix (x3 + 12))) (f2 23 (ix ((x3 + 12) + 1))) (f2 23 (ix (x3 + 1))) 1 x3 _ z2 f2) hc ?_
            show RC (mcall (d + 5)) (mP 61) 56 [some (vR 0), some (vI x1), some (vI x2), some (vI x3)] [vI r3, vI (f2 23 (ix (x3 + 1))), vR 0, vI 1, vI x3, vR 23] (LR z3 f3) res
            obtain ⟨r4, z4, f4, hc, H⟩ := H
            refine rc_call (t := 57) (ls' := [some (vR 0), some (vI x1), some (vI x2), some (vI x3)]) (st' := [vI 1, vI x3, vR 23]) (bc4_61_56 (mcall (d + 5)) (f2 23 (ix (x3 + 1))) r3 1 x3 _ z3 f3) hc ?_
            show RC (mcall (d + 5)) (mP 61) 57 [some (vR 0), some (vI x1), some (vI x2), some (vI x3)] [vI r4, vI 1, vI x3, vR 23] (LR z4 f4) res
            refine rc_b (i' := 58) (ls' := [some (vR 0), some (vI x1), some (vI x2), some (vI x3)]) (st' := [vI (1 + r4), vI x3, vR 23]) (L' := LR z4 f4) 1 (bc4_61_57 (mcall (d + 5)) x1 x2 x3 r4 1 x3 _) ?_
            obtain ⟨g1, H⟩ := H
            refine rc_g (i' := 59) (ls' := [some (vR 0), some (vI x1), some (vI x2), some (vI x3)]) (st' := []) (L' := LR z4 (uA f4 23 (upd (f4 23) (ix x3) (1 + r4)))) (bc4_61_58 (mcall (d + 5)) x3 (1 + r4) _ z4 f4) (pinG g1) ?_
            refine rc_b (i' := 62) (ls' := [some (vR 0), some (vI x1), some (vI x2), some (vI x3)]) (st' := [vI x3, vR 23]) (L' := LR z4 (uA f4 23 (upd (f4 23) (ix x3) (1 + r4)))) 3 (bc4_61_29 (mcall (d + 5)) x1 x2 x3 z4 (uA f4 23 (upd (f4 23) (ix x3) (1 + r4)))) ?_
            obtain ⟨g1, H⟩ := H
            refine rc_g (i' := 63) (ls' := [some (vR 0), some (vI x1), some (vI x2), some (vI x3)]) (st' := [vI ((upd (f4 23) (ix x3) (1 + r4)) (ix x3))]) (L' := LR z4 (uA f4 23 (upd (f4 23) (ix x3) (1 + r4)))) (bc4_61_30 (mcall (d + 5)) x3 _ z4 (uA f4 23 (upd (f4 23) (ix x3) (1 + r4)))) (pinG g1) ?_
            refine rc_if (it := 78) (ie := 64) (ls' := [some (vR 0), some (vI x1), some (vI x2), some (vI x3)]) (st' := []) (bc4_61_31 (mcall (d + 5)) ((upd (f4 23) (ix x3) (1 + r4)) (ix x3)) _ _) (fun q19 => ?_) (fun q19 => ?_)
            · have H := H.1 (cI5t q19 rfl rfl)
              refine rc_b (i' := 79) (ls' := [some (vR 0), some (vI x1), some (vI x2), some (vI (x3 + (-1)))]) (st' := []) (L' := LR z4 (uA f4 23 (upd (f4 23) (ix x3) (1 + r4)))) 1 (bc4_61_32 (mcall (d + 5)) x1 x2 x3 _) ?_
              refine rc_b (i' := 4) (ls' := [some (vR 0), some (vI x1), some (vI x2), some (vI (x3 + (-1)))]) (st' := []) (L' := LR z4 (uA f4 23 (upd (f4 23) (ix x3) (1 + r4)))) 1 (bc4_61_33 (mcall (d + 5)) x1 x2 (x3 + (-1)) _) ?_
              exact H
            · have H := H.2 (cI5f q19 rfl rfl)
              refine rc_b (i' := 66) (ls' := [some (vR 0), some (vI x1), some (vI x2), some (vI x3)]) (st' := [vI ((-1)), vI x2]) (L' := LR z4 (uA f4 23 (upd (f4 23) (ix x3) (1 + r4)))) 2 (bc4_61_34 (mcall (d + 5)) x1 x2 x3 _) ?_
              refine rc_if (it := 76) (ie := 67) (ls' := [some (vR 0), some (vI x1), some (vI x2), some (vI x3)]) (st' := []) (bc4_61_35 (mcall (d + 5)) x2 ((-1)) _ _) (fun q20 => ?_) (fun q20 => ?_)
              · have H := H.1 (cI0t q20)
                refine rc_b (i' := 78) (ls' := [some (vR 0), some (vI x1), some (vI x3), some (vI x3)]) (st' := []) (L' := LR z4 (uA f4 23 (upd (f4 23) (ix x3) (1 + r4)))) 2 (bc4_61_36 (mcall (d + 5)) x1 x2 x3 _) ?_
                refine rc_b (i' := 79) (ls' := [some (vR 0), some (vI x1), some (vI x3), some (vI (x3 + (-1)))]) (st' := []) (L' := LR z4 (uA f4 23 (upd (f4 23) (ix x3) (1 + r4)))) 1 (bc4_61_32 (mcall (d + 5)) x1 x3 x3 _) ?_
                refine rc_b (i' := 4) (ls' := [some (vR 0), some (vI x1), some (vI x3), some (vI (x3 + (-1)))]) (st' := []) (L' := LR z4 (uA f4 23 (upd (f4 23) (ix x3) (1 + r4)))) 1 (bc4_61_33 (mcall (d + 5)) x1 x3 (x3 + (-1)) _) ?_
                exact H
              · have H := H.2 (cI0f q20)
                refine rc_b (i' := 70) (ls' := [some (vR 0), some (vI x1), some (vI x2), some (vI x3)]) (st' := [vI x3, vR 23]) (L' := LR z4 (uA f4 23 (upd (f4 23) (ix x3) (1 + r4)))) 3 (bc4_61_37 (mcall (d + 5)) x1 x2 x3 z4 (uA f4 23 (upd (f4 23) (ix x3) (1 + r4)))) ?_
                obtain ⟨g1, H⟩ := H
                refine rc_g (i' := 71) (ls' := [some (vR 0), some (vI x1), some (vI x2), some (vI x3)]) (st' := [vI ((upd (f4 23) (ix x3) (1 + r4)) (ix x3))]) (L' := LR z4 (uA f4 23 (upd (f4 23) (ix x3) (1 + r4)))) (bc4_61_38 (mcall (d + 5)) x3 _ z4 (uA f4 23 (upd (f4 23) (ix x3) (1 + r4)))) (pinG g1) ?_
                refine rc_b (i' := 74) (ls' := [some (vR 0), some (vI x1), some (vI x2), some (vI x3)]) (st' := [vI x2, vR 23, vI ((upd (f4 23) (ix x3) (1 + r4)) (ix x3))]) (L' := LR z4 (uA f4 23 (upd (f4 23) (ix x3) (1 + r4)))) 3 (bc4_61_39 (mcall (d + 5)) x1 x2 x3 ((upd (f4 23) (ix x3) (1 + r4)) (ix x3)) z4 (uA f4 23 (upd (f4 23) (ix x3) (1 + r4)))) ?_
                obtain ⟨g1, H⟩ := H
                refine rc_g (i' := 75) (ls' := [some (vR 0), some (vI x1), some (vI x2), some (vI x3)]) (st' := [vI ((upd (f4 23) (ix x3) (1 + r4)) (ix x2)), vI ((upd (f4 23) (ix x3) (1 + r4)) (ix x3))]) (L' := LR z4 (uA f4 23 (upd (f4 23) (ix x3) (1 + r4)))) (bc4_61_40 (mcall (d + 5)) x2 ((upd (f4 23) (ix x3) (1 + r4)) (ix x3)) _ z4 (uA f4 23 (upd (f4 23) (ix x3) (1 + r4)))) (pinG g1) ?_
                refine rc_if (it := 78) (ie := 76) (ls' := [some (vR 0), some (vI x1), some (vI x2), some (vI x3)]) (st' := []) (bc4_61_41 (mcall (d + 5)) ((upd (f4 23) (ix x3) (1 + r4)) (ix x3)) ((upd (f4 23) (ix x3) (1 + r4)) (ix x2)) _ _) (fun q21 => ?_) (fun q21 => ?_)
                · have H := H.1 (cI2t q21 rfl rfl)
                  refine rc_b (i' := 79) (ls' := [some (vR 0), some (vI x1), some (vI x2), some (vI (x3 + (-1)))]) (st' := []) (L' := LR z4 (uA f4 23 (upd (f4 23) (ix x3) (1 + r4)))) 1 (bc4_61_32 (mcall (d + 5)) x1 x2 x3 _) ?_
                  refine rc_b (i' := 4) (ls' := [some (vR 0), some (vI x1), some (vI x2), some (vI (x3 + (-1)))]) (st' := []) (L' := LR z4 (uA f4 23 (upd (f4 23) (ix x3) (1 + r4)))) 1 (bc4_61_33 (mcall (d + 5)) x1 x2 (x3 + (-1)) _) ?_
                  exact H
                · have H := H.2 (cI2f q21 rfl rfl)
                  refine rc_b (i' := 78) (ls' := [some (vR 0), some (vI x1), some (vI x3), some (vI x3)]) (st' := []) (L' := LR z4 (uA f4 23 (upd (f4 23) (ix x3) (1 + r4)))) 2 (bc4_61_36 (mcall (d + 5)) x1 x2 x3 _) ?_
                  refine rc_b (i' := 79) (ls' := [some (vR 0), some (vI x1), some (vI x3), some (vI (x3 + (-1)))]) (st' := []) (L' := LR z4 (uA f4 23 (upd (f4 23) (ix x3) (1 + r4)))) 1 (bc4_61_32 (mcall (d + 5)) x1 x3 x3 _) ?_
                  refine rc_b (i' := 4) (ls' := [some (vR 0), some (vI x1), some (vI x3), some (vI (x3 + (-1)))]) (st' := []) (L' := LR z4 (uA f4 23 (upd (f4 23) (ix x3) (1 + r4)))) 1 (bc4_61_33 (mcall (d + 5)) x1 x3 (x3 + (-1)) _) ?_
                  exact H
    · have H := H.2 (cI0f q6)
      refine rc_b (i' := 16) (ls' := [some (vR 0), some (vI x1), some (vI x2), some (vI x3)]) (st' := [vI 0, vI x3, vR 23]) (L' := LR z1 f1) 2 (bc4_61_59 (mcall (d + 5)) x1 x2 x3 x3 _) ?_
      obtain ⟨g1, H⟩ := H
      refine rc_g (i' := 17) (ls' := [some (vR 0), some (vI x1), some (vI x2), some (vI x3)]) (st' := []) (L' := LR z1 (uA f1 23 (upd (f1 23) (ix x3) 0))) (bc4_61_26 (mcall (d + 5)) x3 0 _ z1 f1) (pinG g1) ?_
      refine rc_b (i' := 19) (ls' := [some (vR 0), some (vI x1), some (vI x2), some (vI x3)]) (st' := [vI 132, vI x3]) (L' := LR z1 (uA f1 23 (upd (f1 23) (ix x3) 0))) 2 (bc4_61_27 (mcall (d + 5)) x1 x2 x3 _) ?_
      refine rc_if (it := 59) (ie := 20) (ls' := [some (vR 0), some (vI x1), some (vI x2), some (vI x3)]) (st' := []) (bc4_61_28 (mcall (d + 5)) x3 132 _ _) (fun q22 => ?_) (fun q22 => ?_)
      · have H := H.1 (cI3t q22 rfl rfl)
        refine rc_b (i' := 62) (ls' := [some (vR 0), some (vI x1), some (vI x2), some (vI x3)]) (st' := [vI x3, vR 23]) (L' := LR z1 (uA f1 23 (upd (f1 23) (ix x3) 0))) 3 (bc4_61_29 (mcall (d + 5)) x1 x2 x3 z1 (uA f1 23 (upd (f1 23) (ix x3) 0))) ?_
        obtain ⟨g1, H⟩ := H
        refine rc_g (i' := 63) (ls' := [some (vR 0), some (vI x1), some (vI x2), some (vI x3)]) (st' := [vI ((upd (f1 23) (ix x3) 0) (ix x3))]) (L' := LR z1 (uA f1 23 (upd (f1 23) (ix x3) 0))) (bc4_61_30 (mcall (d + 5)) x3 _ z1 (uA f1 23 (upd (f1 23) (ix x3) 0))) (pinG g1) ?_
        refine rc_if (it := 78) (ie := 64) (ls' := [some (vR 0), some (vI x1), some (vI x2), some (vI x3)]) (st' := []) (bc4_61_31 (mcall (d + 5)) ((upd (f1 23) (ix x3) 0) (ix x3)) _ _) (fun q23 => ?_) (fun q23 => ?_)
        · have H := H.1 (cI5t q23 rfl rfl)
          refine rc_b (i' := 79) (ls' := [some (vR 0), some (vI x1), some (vI x2), some (vI (x3 + (-1)))]) (st' := []) (L' := LR z1 (uA f1 23 (upd (f1 23) (ix x3) 0))) 1 (bc4_61_32 (mcall (d + 5)) x1 x2 x3 _) ?_
          refine rc_b (i' := 4) (ls' := [some (vR 0), some (vI x1), some (vI x2), some (vI (x3 + (-1)))]) (st' := []) (L' := LR z1 (uA f1 23 (upd (f1 23) (ix x3) 0))) 1 (bc4_61_33 (mcall (d + 5)) x1 x2 (x3 + (-1)) _) ?_
          exact H
        · have H := H.2 (cI5f q23 rfl rfl)
          refine rc_b (i' := 66) (ls' := [some (vR 0), some (vI x1), some (vI x2), some (vI x3)]) (st' := [vI ((-1)), vI x2]) (L' := LR z1 (uA f1 23 (upd (f1 23) (ix x3) 0))) 2 (bc4_61_34 (mcall (d + 5)) x1 x2 x3 _) ?_
          refine rc_if (it := 76) (ie := 67) (ls' := [some (vR 0), some (vI x1), some (vI x2), some (vI x3)]) (st' := []) (bc4_61_35 (mcall (d + 5)) x2 ((-1)) _ _) (fun q24 => ?_) (fun q24 => ?_)
          · have H := H.1 (cI0t q24)
            refine rc_b (i' := 78) (ls' := [some (vR 0), some (vI x1), some (vI x3), some (vI x3)]) (st' := []) (L' := LR z1 (uA f1 23 (upd (f1 23) (ix x3) 0))) 2 (bc4_61_36 (mcall (d + 5)) x1 x2 x3 _) ?_
            refine rc_b (i' := 79) (ls' := [some (vR 0), some (vI x1), some (vI x3), some (vI (x3 + (-1)))]) (st' := []) (L' := LR z1 (uA f1 23 (upd (f1 23) (ix x3) 0))) 1 (bc4_61_32 (mcall (d + 5)) x1 x3 x3 _) ?_
            refine rc_b (i' := 4) (ls' := [some (vR 0), some (vI x1), some (vI x3), some (vI (x3 + (-1)))]) (st' := []) (L' := LR z1 (uA f1 23 (upd (f1 23) (ix x3) 0))) 1 (bc4_61_33 (mcall (d + 5)) x1 x3 (x3 + (-1)) _) ?_
            exact H
          · have H := H.2 (cI0f q24)
            refine rc_b (i' := 70) (ls' := [some (vR 0), some (vI x1), some (vI x2), some (vI x3)]) (st' := [vI x3, vR 23]) (L' := LR z1 (uA f1 23 (upd (f1 23) (ix x3) 0))) 3 (bc4_61_37 (mcall (d + 5)) x1 x2 x3 z1 (uA f1 23 (upd (f1 23) (ix x3) 0))) ?_
            obtain ⟨g1, H⟩ := H
            refine rc_g (i' := 71) (ls' := [some (vR 0), some (vI x1), some (vI x2), some (vI x3)]) (st' := [vI ((upd (f1 23) (ix x3) 0) (ix x3))]) (L' := LR z1 (uA f1 23 (upd (f1 23) (ix x3) 0))) (bc4_61_38 (mcall (d + 5)) x3 _ z1 (uA f1 23 (upd (f1 23) (ix x3) 0))) (pinG g1) ?_
            refine rc_b (i' := 74) (ls' := [some (vR 0), some (vI x1), some (vI x2), some (vI x3)]) (st' := [vI x2, vR 23, vI ((upd (f1 23) (ix x3) 0) (ix x3))]) (L' := LR z1 (uA f1 23 (upd (f1 23) (ix x3) 0))) 3 (bc4_61_39 (mcall (d + 5)) x1 x2 x3 ((upd (f1 23) (ix x3) 0) (ix x3)) z1 (uA f1 23 (upd (f1 23) (ix x3) 0))) ?_
            obtain ⟨g1, H⟩ := H
            refine rc_g (i' := 75) (ls' := [some (vR 0), some (vI x1), some (vI x2), some (vI x3)]) (st' := [vI ((upd (f1 23) (ix x3) 0) (ix x2)), vI ((upd (f1 23) (ix x3) 0) (ix x3))]) (L' := LR z1 (uA f1 23 (upd (f1 23) (ix x3) 0))) (bc4_61_40 (mcall (d + 5)) x2 ((upd (f1 23) (ix x3) 0) (ix x3)) _ z1 (uA f1 23 (upd (f1 23) (ix x3) 0))) (pinG g1) ?_
            refine rc_if (it := 78) (ie := 76) (ls' := [some (vR 0), some (vI x1), some (vI x2), some (vI x3)]) (st' := []) (bc4_61_41 (mcall (d + 5)) ((upd (f1 23) (ix x3) 0) (ix x3)) ((upd (f1 23) (ix x3) 0) (ix x2)) _ _) (fun q25 => ?_) (fun q25 => ?_)
            · have H := H.1 (cI2t q25 rfl rfl)
              refine rc_b (i' := 79) (ls' := [some (vR 0), some (vI x1), some (vI x2), some (vI (x3 + (-1)))]) (st' := []) (L' := LR z1 (uA f1 23 (upd (f1 23) (ix x3) 0))) 1 (bc4_61_32 (mcall (d + 5)) x1 x2 x3 _) ?_
              refine rc_b (i' := 4) (ls' := [some (vR 0), some (vI x1), some (vI x2), some (vI (x3 + (-1)))]) (st' := []) (L' := LR z1 (uA f1 23 (upd (f1 23) (ix x3) 0))) 1 (bc4_61_33 (mcall (d + 5)) x1 x2 (x3 + (-1)) _) ?_
              exact H
            · have H := H.2 (cI2f q25 rfl rfl)
              refine rc_b (i' := 78) (ls' := [some (vR 0), some (vI x1), some (vI x3), some (vI x3)]) (st' := []) (L' := LR z1 (uA f1 23 (upd (f1 23) (ix x3) 0))) 2 (bc4_61_36 (mcall (d + 5)) x1 x2 x3 _) ?_
              refine rc_b (i' := 79) (ls' := [some (vR 0), some (vI x1), some (vI x3), some (vI (x3 + (-1)))]) (st' := []) (L' := LR z1 (uA f1 23 (upd (f1 23) (ix x3) 0))) 1 (bc4_61_32 (mcall (d + 5)) x1 x3 x3 _) ?_
              refine rc_b (i' := 4) (ls' := [some (vR 0), some (vI x1), some (vI x3), some (vI (x3 + (-1)))]) (st' := []) (L' := LR z1 (uA f1 23 (upd (f1 23) (ix x3) 0))) 1 (bc4_61_33 (mcall (d + 5)) x1 x3 (x3 + (-1)) _) ?_
              exact H
      · have H := H.2 (cI3f q22 rfl rfl)
        refine rc_b (i' := 22) (ls' := [some (vR 0), some (vI x1), some (vI x2), some (vI x3)]) (st' := [vI 12, vI x3]) (L' := LR z1 (uA f1 23 (upd (f1 23) (ix x3) 0))) 2 (bc4_61_42 (mcall (d + 5)) x1 x2 x3 _) ?_
        obtain ⟨g1, H⟩ := H
        refine rc_g (i' := 23) (ls' := [some (vR 0), some (vI x1), some (vI x2), some (vI x3)]) (st' := [vI (x3 - x3 / 12 * 12)]) (L' := LR z1 (uA f1 23 (upd (f1 23) (ix x3) 0))) (bc4_61_43 (mcall (d + 5)) x3 12 _ _) (cmp_ne.trans (decide_eq_true g1)) ?_
        refine rc_b (i' := 24) (ls' := [some (vR 0), some (vI x1), some (vI x2), some (vI x3)]) (st' := [vI 11, vI (x3 - x3 / 12 * 12)]) (L' := LR z1 (uA f1 23 (upd (f1 23) (ix x3) 0))) 1 (bc4_61_44 (mcall (d + 5)) x1 x2 x3 (x3 - x3 / 12 * 12) _) ?_
        refine rc_if (it := 59) (ie := 25) (ls' := [some (vR 0), some (vI x1), some (vI x2), some (vI x3)]) (st' := []) (bc4_61_45 (mcall (d + 5)) (x3 - x3 / 12 * 12) 11 _ _) (fun q26 => ?_) (fun q26 => ?_)
        · have H := H.1 (cI3t q26 rfl rfl)
          refine rc_b (i' := 62) (ls' := [some (vR 0), some (vI x1), some (vI x2), some (vI x3)]) (st' := [vI x3, vR 23]) (L' := LR z1 (uA f1 23 (upd (f1 23) (ix x3) 0))) 3 (bc4_61_29 (mcall (d + 5)) x1 x2 x3 z1 (uA f1 23 (upd (f1 23) (ix x3) 0))) ?_
          obtain ⟨g1, H⟩ := H
          refine rc_g (i' := 63) (ls' := [some (vR 0), some (vI x1), some (vI x2), some (vI x3)]) (st' := [vI ((upd (f1 23) (ix x3) 0) (ix x3))]) (L' := LR z1 (uA f1 23 (upd (f1 23) (ix x3) 0))) (bc4_61_30 (mcall (d + 5)) x3 _ z1 (uA f1 23 (upd (f1 23) (ix x3) 0))) (pinG g1) ?_
          refine rc_if (it := 78) (ie := 64) (ls' := [some (vR 0), some (vI x1), some (vI x2), some (vI x3)]) (st' := []) (bc4_61_31 (mcall (d + 5)) ((upd (f1 23) (ix x3) 0) (ix x3)) _ _) (fun q27 => ?_) (fun q27 => ?_)
          · have H := H.1 (cI5t q27 rfl rfl)
            refine rc_b (i' := 79) (ls' := [some (vR 0), some (vI x1), some (vI x2), some (vI (x3 + (-1)))]) (st' := []) (L' := LR z1 (uA f1 23 (upd (f1 23) (ix x3) 0))) 1 (bc4_61_32 (mcall (d + 5)) x1 x2 x3 _) ?_
            refine rc_b (i' := 4) (ls' := [some (vR 0), some (vI x1), some (vI x2), some (vI (x3 + (-1)))]) (st' := []) (L' := LR z1 (uA f1 23 (upd (f1 23) (ix x3) 0))) 1 (bc4_61_33 (mcall (d + 5)) x1 x2 (x3 + (-1)) _) ?_
            exact H
          · have H := H.2 (cI5f q27 rfl rfl)
            refine rc_b (i' := 66) (ls' := [some (vR 0), some (vI x1), some (vI x2), some (vI x3)]) (st' := [vI ((-1)), vI x2]) (L' := LR z1 (uA f1 23 (upd (f1 23) (ix x3) 0))) 2 (bc4_61_34 (mcall (d + 5)) x1 x2 x3 _) ?_
            refine rc_if (it := 76) (ie := 67) (ls' := [some (vR 0), some (vI x1), some (vI x2), some (vI x3)]) (st' := []) (bc4_61_35 (mcall (d + 5)) x2 ((-1)) _ _) (fun q28 => ?_) (fun q28 => ?_)
            · have H := H.1 (cI0t q28)
              refine rc_b (i' := 78) (ls' := [some (vR 0), some (vI x1), some (vI x3), some (vI x3)]) (st' := []) (L' := LR z1 (uA f1 23 (upd (f1 23) (ix x3) 0))) 2 (bc4_61_36 (mcall (d + 5)) x1 x2 x3 _) ?_
              refine rc_b (i' := 79) (ls' := [some (vR 0), some (vI x1), some (vI x3), some (vI (x3 + (-1)))]) (st' := []) (L' := LR z1 (uA f1 23 (upd (f1 23) (ix x3) 0))) 1 (bc4_61_32 (mcall (d + 5)) x1 x3 x3 _) ?_
              refine rc_b (i' := 4) (ls' := [some (vR 0), some (vI x1), some (vI x3), some (vI (x3 + (-1)))]) (st' := []) (L' := LR z1 (uA f1 23 (upd (f1 23) (ix x3) 0))) 1 (bc4_61_33 (mcall (d + 5)) x1 x3 (x3 + (-1)) _) ?_
              exact H
            · have H := H.2 (cI0f q28)
              refine rc_b (i' := 70) (ls' := [some (vR 0), some (vI x1), some (vI x2), some (vI x3)]) (st' := [vI x3, vR 23]) (L' := LR z1 (uA f1 23 (upd (f1 23) (ix x3) 0))) 3 (bc4_61_37 (mcall (d + 5)) x1 x2 x3 z1 (uA f1 23 (upd (f1 23) (ix x3) 0))) ?_
              obtain ⟨g1, H⟩ := H
              refine rc_g (i' := 71) (ls' := [some (vR 0), some (vI x1), some (vI x2), some (vI x3)]) (st' := [vI ((upd (f1 23) (ix x3) 0) (ix x3))]) (L' := LR z1 (uA f1 23 (upd (f1 23) (ix x3) 0))) (bc4_61_38 (mcall (d + 5)) x3 _ z1 (uA f1 23 (upd (f1 23) (ix x3) 0))) (pinG g1) ?_
              refine rc_b (i' := 74) (ls' := [some (vR 0), some (vI x1), some (vI x2), some (vI x3)]) (st' := [vI x2, vR 23, vI ((upd (f1 23) (ix x3) 0) (ix x3))]) (L' := LR z1 (uA f1 23 (upd (f1 23) (ix x3) 0))) 3 (bc4_61_39 (mcall (d + 5)) x1 x2 x3 ((upd (f1 23) (ix x3) 0) (ix x3)) z1 (uA f1 23 (upd (f1 23) (ix x3) 0))) ?_
              obtain ⟨g1, H⟩ := H
              refine rc_g (i' := 75) (ls' := [some (vR 0), some (vI x1), some (vI x2), some (vI x3)]) (st' := [vI ((upd (f1 23) (ix x3) 0) (ix x2)), vI ((upd (f1 23) (ix x3) 0) (ix x3))]) (L' := LR z1 (uA f1 23 (upd (f1 23) (ix x3) 0))) (bc4_61_40 (mcall (d + 5)) x2 ((upd (f1 23) (ix x3) 0) (ix x3)) _ z1 (uA f1 23 (upd (f1 23) (ix x3) 0))) (pinG g1) ?_
              refine rc_if (it := 78) (ie := 76) (ls' := [some (vR 0), some (vI x1), some (vI x2), some (vI x3)]) (st' := []) (bc4_61_41 (mcall (d + 5)) ((upd (f1 23) (ix x3) 0) (ix x3)) ((upd (f1 23) (ix x3) 0) (ix x2)) _ _) (fun q29 => ?_) (fun q29 => ?_)
              · have H := H.1 (cI2t q29 rfl rfl)
                refine rc_b (i' := 79) (ls' := [some (vR 0), some (vI x1), some (vI x2), some (vI (x3 + (-1)))]) (st' := []) (L' := LR z1 (uA f1 23 (upd (f1 23) (ix x3) 0))) 1 (bc4_61_32 (mcall (d + 5)) x1 x2 x3 _) ?_
                refine rc_b (i' := 4) (ls' := [some (vR 0), some (vI x1), some (vI x2), some (vI (x3 + (-1)))]) (st' := []) (L' := LR z1 (uA f1 23 (upd (f1 23) (ix x3) 0))) 1 (bc4_61_33 (mcall (d + 5)) x1 x2 (x3 + (-1)) _) ?_
                exact H
              · have H := H.2 (cI2f q29 rfl rfl)
                refine rc_b (i' := 78) (ls' := [some (vR 0), some (vI x1), some (vI x3), some (vI x3)]) (st' := []) (L' := LR z1 (uA f1 23 (upd (f1 23) (ix x3) 0))) 2 (bc4_61_36 (mcall (d + 5)) x1 x2 x3 _) ?_
                refine rc_b (i' := 79) (ls' := [some (vR 0), some (vI x1), some (vI x3), some (vI (x3 + (-1)))]) (st' := []) (L' := LR z1 (uA f1 23 (upd (f1 23) (ix x3) 0))) 1 (bc4_61_32 (mcall (d + 5)) x1 x3 x3 _) ?_
                refine rc_b (i' := 4) (ls' := [some (vR 0), some (vI x1), some (vI x3), some (vI (x3 + (-1)))]) (st' := []) (L' := LR z1 (uA f1 23 (upd (f1 23) (ix x3) 0))) 1 (bc4_61_33 (mcall (d + 5)) x1 x3 (x3 + (-1)) _) ?_
                exact H
        · have H := H.2 (cI3f q26 rfl rfl)
          refine rc_b (i' := 27) (ls' := [some (vR 0), some (vI x1), some (vI x2), some (vI x3)]) (st' := [vI x3, vR 0]) (L' := LR z1 (uA f1 23 (upd (f1 23) (ix x3) 0))) 2 (bc4_61_46 (mcall (d + 5)) x1 x2 x3 _) ?_
          obtain ⟨r5, z5, f5, hc, H⟩ := H
          refine rc_call (t := 28) (ls' := [some (vR 0), some (vI x1), some (vI x2), some (vI x3)]) (st' := []) (bc4_61_47 (mcall (d + 5)) x3 _ z1 (uA f1 23 (upd (f1 23) (ix x3) 0))) hc ?_
          show RC (mcall (d + 5)) (mP 61) 28 [some (vR 0), some (vI x1), some (vI x2), some (vI x3)] [vI r5] (LR z5 f5) res
          refine rc_if (it := 59) (ie := 29) (ls' := [some (vR 0), some (vI x1), some (vI x2), some (vI x3)]) (st' := []) (bc4_61_48 (mcall (d + 5)) r5 _ _) (fun q30 => ?_) (fun q30 => ?_)
          · have H := H.1 (cI1t q30)
            refine rc_b (i' := 62) (ls' := [some (vR 0), some (vI x1), some (vI x2), some (vI x3)]) (st' := [vI x3, vR 23]) (L' := LR z5 f5) 3 (bc4_61_29 (mcall (d + 5)) x1 x2 x3 z5 f5) ?_
            obtain ⟨g1, H⟩ := H
            refine rc_g (i' := 63) (ls' := [some (vR 0), some (vI x1), some (vI x2), some (vI x3)]) (st' := [vI (f5 23 (ix x3))]) (L' := LR z5 f5) (bc4_61_30 (mcall (d + 5)) x3 _ z5 f5) (pinG g1) ?_
            refine rc_if (it := 78) (ie := 64) (ls' := [some (vR 0), some (vI x1), some (vI x2), some (vI x3)]) (st' := []) (bc4_61_31 (mcall (d + 5)) (f5 23 (ix x3)) _ _) (fun q31 => ?_) (fun q31 => ?_)
            · have H := H.1 (cI5t q31 rfl rfl)
              refine rc_b (i' := 79) (ls' := [some (vR 0), some (vI x1), some (vI x2), some (vI (x3 + (-1)))]) (st' := []) (L' := LR z5 f5) 1 (bc4_61_32 (mcall (d + 5)) x1 x2 x3 _) ?_
              refine rc_b (i' := 4) (ls' := [some (vR 0), some (vI x1), some (vI x2), some (vI (x3 + (-1)))]) (st' := []) (L' := LR z5 f5) 1 (bc4_61_33 (mcall (d + 5)) x1 x2 (x3 + (-1)) _) ?_
              exact H
            · have H := H.2 (cI5f q31 rfl rfl)
              refine rc_b (i' := 66) (ls' := [some (vR 0), some (vI x1), some (vI x2), some (vI x3)]) (st' := [vI ((-1)), vI x2]) (L' := LR z5 f5) 2 (bc4_61_34 (mcall (d + 5)) x1 x2 x3 _) ?_
              refine rc_if (it := 76) (ie := 67) (ls' := [some (vR 0), some (vI x1), some (vI x2), some (vI x3)]) (st' := []) (bc4_61_35 (mcall (d + 5)) x2 ((-1)) _ _) (fun q32 => ?_) (fun q32 => ?_)
              · have H := H.1 (cI0t q32)
                refine rc_b (i' := 78) (ls' := [some (vR 0), some (vI x1), some (vI x3), some (vI x3)]) (st' := []) (L' := LR z5 f5) 2 (bc4_61_36 (mcall (d + 5)) x1 x2 x3 _) ?_
                refine rc_b (i' := 79) (ls' := [some (vR 0), some (vI x1), some (vI x3), some (vI (x3 + (-1)))]) (st' := []) (L' := LR z5 f5) 1 (bc4_61_32 (mcall (d + 5)) x1 x3 x3 _) ?_
                refine rc_b (i' := 4) (ls' := [some (vR 0), some (vI x1), some (vI x3), some (vI (x3 + (-1)))]) (st' := []) (L' := LR z5 f5) 1 (bc4_61_33 (mcall (d + 5)) x1 x3 (x3 + (-1)) _) ?_
                exact H
              · have H := H.2 (cI0f q32)
                refine rc_b (i' := 70) (ls' := [some (vR 0), some (vI x1), some (vI x2), some (vI x3)]) (st' := [vI x3, vR 23]) (L' := LR z5 f5) 3 (bc4_61_37 (mcall (d + 5)) x1 x2 x3 z5 f5) ?_
                obtain ⟨g1, H⟩ := H
                refine rc_g (i' := 71) (ls' := [some (vR 0), some (vI x1), some (vI x2), some (vI x3)]) (st' := [vI (f5 23 (ix x3))]) (L' := LR z5 f5) (bc4_61_38 (mcall (d + 5)) x3 _ z5 f5) (pinG g1) ?_
                refine rc_b (i' := 74) (ls' := [some (vR 0), some (vI x1), some (vI x2), some (vI x3)]) (st' := [vI x2, vR 23, vI (f5 23 (ix x3))]) (L' := LR z5 f5) 3 (bc4_61_39 (mcall (d + 5)) x1 x2 x3 (f5 23 (ix x3)) z5 f5) ?_
                obtain ⟨g1, H⟩ := H
                refine rc_g (i' := 75) (ls' := [some (vR 0), some (vI x1), some (vI x2), some (vI x3)]) (st' := [vI (f5 23 (ix x2)), vI (f5 23 (ix x3))]) (L' := LR z5 f5) (bc4_61_40 (mcall (d + 5)) x2 (f5 23 (ix x3)) _ z5 f5) (pinG g1) ?_
                refine rc_if (it := 78) (ie := 76) (ls' := [some (vR 0), some (vI x1), some (vI x2), some (vI x3)]) (st' := []) (bc4_61_41 (mcall (d + 5)) (f5 23 (ix x3)) (f5 23 (ix x2)) _ _) (fun q33 => ?_) (fun q33 => ?_)
                · have H := H.1 (cI2t q33 rfl rfl)
                  refine rc_b (i' := 79) (ls' := [some (vR 0), some (vI x1), some (vI x2), some (vI (x3 + (-1)))]) (st' := []) (L' := LR z5 f5) 1 (bc4_61_32 (mcall (d + 5)) x1 x2 x3 _) ?_
                  refine rc_b (i' := 4) (ls' := [some (vR 0), some (vI x1), some (vI x2), some (vI (x3 + (-1)))]) (st' := []) (L' := LR z5 f5) 1 (bc4_61_33 (mcall (d + 5)) x1 x2 (x3 + (-1)) _) ?_
                  exact H
                · have H := H.2 (cI2f q33 rfl rfl)
                  refine rc_b (i' := 78) (ls' := [some (vR 0), some (vI x1), some (vI x3), some (vI x3)]) (st' := []) (L' := LR z5 f5) 2 (bc4_61_36 (mcall (d + 5)) x1 x2 x3 _) ?_
                  refine rc_b (i' := 79) (ls' := [some (vR 0), some (vI x1), some (vI x3), some (vI (x3 + (-1)))]) (st' := []) (L' := LR z5 f5) 1 (bc4_61_32 (mcall (d + 5)) x1 x3 x3 _) ?_
                  refine rc_b (i' := 4) (ls' := [some (vR 0), some (vI x1), some (vI x3), some (vI (x3 + (-1)))]) (st' := []) (L' := LR z5 f5) 1 (bc4_61_33 (mcall (d + 5)) x1 x3 (x3 + (-1)) _) ?_
                  exact H
          · have H := H.2 (cI1f q30)
            refine rc_b (i' := 39) (ls' := [some (vR 0), some (vI x1), some (vI x2), some (vI x3)]) (st' := [vI (x3 + 1), vR 23, vR 0, vI 1, vI x3, vR 23]) (L' := LR z5 f5) 10 (bc4_61_49 (mcall (d + 5)) x1 x2 x3 z5 f5) ?_
            obtain ⟨g1, H⟩ := H
            refine rc_g (i' := 40) (ls' := [some (vR 0), some (vI x1), some (vI x2), some (vI x3)]) (st' := [vI (f5 23 (ix (x3 + 1))), vR 0, vI 1, vI x3, vR 23]) (L' := LR z5 f5) (bc4_61_50 (mcall (d + 5)) (x3 + 1) 1 x3 _ z5 f5) (pinG g1) ?_
            refine rc_b (i' := 46) (ls' := [some (vR 0), some (vI x1), some (vI x2), some (vI x3)]) (st' := [vI (x3 + 12), vR 23, vR 0, vI (f5 23 (ix (x3 + 1))), vR 0, vI 1, vI x3, vR 23]) (L' := LR z5 f5) 6 (bc4_61_51 (mcall (d + 5)) x1 x2 x3 (f5 23 (ix (x3 + 1))) 1 x3 z5 f5) ?_
            obtain ⟨g1, H⟩ := H
            refine rc_g (i' := 47) (ls' := [some (vR 0), some (vI x1), some (vI x2), some (vI x3)]) (st' := [vI (f5 23 (ix (x3 + 12))), vR 0, vI (f5 23 (ix (x3 + 1))), vR 0, vI 1, vI x3, vR 23]) (L' := LR z5 f5) (bc4_61_52 (mcall (d + 5)) (x3 + 12) (f5 23 (ix (x3 + 1))) 1 x3 _ z5 f5) (pinG g1) ?_
            refine rc_b (i' := 54) (ls' := [some (vR 0), some (vI x1), some (vI x2), some (vI x3)]) (st' := [vI ((x3 + 12) + 1), vR 23, vI (f5 23 (ix (x3 + 12))), vR 0, vI (f5 23 (ix (x3 + 1))), vR 0, vI 1, vI x3, vR 23]) (L' := LR z5 f5) 7 (bc4_61_53 (mcall (d + 5)) x1 x2 x3 (f5 23 (ix (x3 + 12))) (f5 23 (ix (x3 + 1))) 1 x3 z5 f5) ?_
            obtain ⟨g1, H⟩ := H
            refine rc_g (i' := 55) (ls' := [some (vR 0), some (vI x1), some (vI x2), some (vI x3)]) (st' := [vI (f5 23 (ix ((x3 + 12) + 1))), vI (f5 23 (ix (x3 + 12))), vR 0, vI (f5 23 (ix (x3 + 1))), vR 0, vI 1, vI x3, vR 23]) (L' := LR z5 f5) (bc4_61_54 (mcall (d + 5)) ((x3 + 12) + 1) (f5 23 (ix (x3 + 12))) (f5 23 (ix (x3 + 1))) 1 x3 _ z5 f5) (pinG g1) ?_
            obtain ⟨r6, z6, f6, hc, H⟩ := H
            refine rc_call (t := 56) (ls' := [some (vR 0), some (vI x1), some (vI x2), some (vI x3)]) (st' := [vI (f5 23 (ix (x3 + 1))), vR 0, vI 1, vI x3, vR 23]) (bc4_61_55 (mcall (d + 5)) (f5 23 (ix (x3 + 12))) (f5 23 (ix ((x3 + 12) + 1))) (f5 23 (ix (x3 + 1))) 1 x3 _ z5 f5) hc ?_
            show RC (mcall (d + 5)) (mP 61) 56 [some (vR 0), some (vI x1), some (vI x2), some (vI x3)] [vI r6, vI (f5 23 (ix (x3 + 1))), vR 0, vI 1, vI x3, vR 23] (LR z6 f6) res
            obtain ⟨r7, z7, f7, hc, H⟩ := H
            refine rc_call (t := 57) (ls' := [some (vR 0), some (vI x1), some (vI x2), some (vI x3)]) (st' := [vI 1, vI x3, vR 23]) (bc4_61_56 (mcall (d + 5)) (f5 23 (ix (x3 + 1))) r6 1 x3 _ z6 f6) hc ?_
            show RC (mcall (d + 5)) (mP 61) 57 [some (vR 0), some (vI x1), some (vI x2), some (vI x3)] [vI r7, vI 1, vI x3, vR 23] (LR z7 f7) res
            refine rc_b (i' := 58) (ls' := [some (vR 0), some (vI x1), some (vI x2), some (vI x3)]) (st' := [vI (1 + r7), vI x3, vR 23]) (L' := LR z7 f7) 1 (bc4_61_57 (mcall (d + 5)) x1 x2 x3 r7 1 x3 _) ?_
            obtain ⟨g1, H⟩ := H
            refine rc_g (i' := 59) (ls' := [some (vR 0), some (vI x1), some (vI x2), some (vI x3)]) (st' := []) (L' := LR z7 (uA f7 23 (upd (f7 23) (ix x3) (1 + r7)))) (bc4_61_58 (mcall (d + 5)) x3 (1 + r7) _ z7 f7) (pinG g1) ?_
            refine rc_b (i' := 62) (ls' := [some (vR 0), some (vI x1), some (vI x2), some (vI x3)]) (st' := [vI x3, vR 23]) (L' := LR z7 (uA f7 23 (upd (f7 23) (ix x3) (1 + r7)))) 3 (bc4_61_29 (mcall (d + 5)) x1 x2 x3 z7 (uA f7 23 (upd (f7 23) (ix x3) (1 + r7)))) ?_
            obtain ⟨g1, H⟩ := H
            refine rc_g (i' := 63) (ls' := [some (vR 0), some (vI x1), some (vI x2), some (vI x3)]) (st' := [vI ((upd (f7 23) (ix x3) (1 + r7)) (ix x3))]) (L' := LR z7 (uA f7 23 (upd (f7 23) (ix x3) (1 + r7)))) (bc4_61_30 (mcall (d + 5)) x3 _ z7 (uA f7 23 (upd (f7 23) (ix x3) (1 + r7)))) (pinG g1) ?_
            refine rc_if (it := 78) (ie := 64) (ls' := [some (vR 0), some (vI x1), some (vI x2), some (vI x3)]) (st' := []) (bc4_61_31 (mcall (d + 5)) ((upd (f7 23) (ix x3) (1 + r7)) (ix x3)) _ _) (fun q34 => ?_) (fun q34 => ?_)
            · have H := H.1 (cI5t q34 rfl rfl)
              refine rc_b (i' := 79) (ls' := [some (vR 0), some (vI x1), some (vI x2), some (vI (x3 + (-1)))]) (st' := []) (L' := LR z7 (uA f7 23 (upd (f7 23) (ix x3) (1 + r7)))) 1 (bc4_61_32 (mcall (d + 5)) x1 x2 x3 _) ?_
              refine rc_b (i' := 4) (ls' := [some (vR 0), some (vI x1), some (vI x2), some (vI (x3 + (-1)))]) (st' := []) (L' := LR z7 (uA f7 23 (upd (f7 23) (ix x3) (1 + r7)))) 1 (bc4_61_33 (mcall (d + 5)) x1 x2 (x3 + (-1)) _) ?_
              exact H
            · have H := H.2 (cI5f q34 rfl rfl)
              refine rc_b (i' := 66) (ls' := [some (vR 0), some (vI x1), some (vI x2), some (vI x3)]) (st' := [vI ((-1)), vI x2]) (L' := LR z7 (uA f7 23 (upd (f7 23) (ix x3) (1 + r7)))) 2 (bc4_61_34 (mcall (d + 5)) x1 x2 x3 _) ?_
              refine rc_if (it := 76) (ie := 67) (ls' := [some (vR 0), some (vI x1), some (vI x2), some (vI x3)]) (st' := []) (bc4_61_35 (mcall (d + 5)) x2 ((-1)) _ _) (fun q35 => ?_) (fun q35 => ?_)
              · have H := H.1 (cI0t q35)
                refine rc_b (i' := 78) (ls' := [some (vR 0), some (vI x1), some (vI x3), some (vI x3)]) (st' := []) (L' := LR z7 (uA f7 23 (upd (f7 23) (ix x3) (1 + r7)))) 2 (bc4_61_36 (mcall (d + 5)) x1 x2 x3 _) ?_
                refine rc_b (i' := 79) (ls' := [some (vR 0), some (vI x1), some (vI x3), some (vI (x3 + (-1)))]) (st' := []) (L' := LR z7 (uA f7 23 (upd (f7 23) (ix x3) (1 + r7)))) 1 (bc4_61_32 (mcall (d + 5)) x1 x3 x3 _) ?_
                refine rc_b (i' := 4) (ls' := [some (vR 0), some (vI x1), some (vI x3), some (vI (x3 + (-1)))]) (st' := []) (L' := LR z7 (uA f7 23 (upd (f7 23) (ix x3) (1 + r7)))) 1 (bc4_61_33 (mcall (d + 5)) x1 x3 (x3 + (-1)) _) ?_
                exact H
              · have H := H.2 (cI0f q35)
                refine rc_b (i' := 70) (ls' := [some (vR 0), some (vI x1), some (vI x2), some (vI x3)]) (st' := [vI x3, vR 23]) (L' := LR z7 (uA f7 23 (upd (f7 23) (ix x3) (1 + r7)))) 3 (bc4_61_37 (mcall (d + 5)) x1 x2 x3 z7 (uA f7 23 (upd (f7 23) (ix x3) (1 + r7)))) ?_
                obtain ⟨g1, H⟩ := H
                refine rc_g (i' := 71) (ls' := [some (vR 0), some (vI x1), some (vI x2), some (vI x3)]) (st' := [vI ((upd (f7 23) (ix x3) (1 + r7)) (ix x3))]) (L' := LR z7 (uA f7 23 (upd (f7 23) (ix x3) (1 + r7)))) (bc4_61_38 (mcall (d + 5)) x3 _ z7 (uA f7 23 (upd (f7 23) (ix x3) (1 + r7)))) (pinG g1) ?_
                refine rc_b (i' := 74) (ls' := [some (vR 0), some (vI x1), some (vI x2), some (vI x3)]) (st' := [vI x2, vR 23, vI ((upd (f7 23) (ix x3) (1 + r7)) (ix x3))]) (L' := LR z7 (uA f7 23 (upd (f7 23) (ix x3) (1 + r7)))) 3 (bc4_61_39 (mcall (d + 5)) x1 x2 x3 ((upd (f7 23) (ix x3) (1 + r7)) (ix x3)) z7 (uA f7 23 (upd (f7 23) (ix x3) (1 + r7)))) ?_
                obtain ⟨g1, H⟩ := H
                refine rc_g (i' := 75) (ls' := [some (vR 0), some (vI x1), some (vI x2), some (vI x3)]) (st' := [vI ((upd (f7 23) (ix x3) (1 + r7)) (ix x2)), vI ((upd (f7 23) (ix x3) (1 + r7)) (ix x3))]) (L' := LR z7 (uA f7 23 (upd (f7 23) (ix x3) (1 + r7)))) (bc4_61_40 (mcall (d + 5)) x2 ((upd (f7 23) (ix x3) (1 + r7)) (ix x3)) _ z7 (uA f7 23 (upd (f7 23) (ix x3) (1 + r7)))) (pinG g1) ?_
                refine rc_if (it := 78) (ie := 76) (ls' := [some (vR 0), some (vI x1), some (vI x2), some (vI x3)]) (st' := []) (bc4_61_41 (mcall (d + 5)) ((upd (f7 23) (ix x3) (1 + r7)) (ix x3)) ((upd (f7 23) (ix x3) (1 + r7)) (ix x2)) _ _) (fun q36 => ?_) (fun q36 => ?_)
                · have H := H.1 (cI2t q36 rfl rfl)
                  refine rc_b (i' := 79) (ls' := [some (vR 0), some (vI x1), some (vI x2), some (vI (x3 + (-1)))]) (st' := []) (L' := LR z7 (uA f7 23 (upd (f7 23) (ix x3) (1 + r7)))) 1 (bc4_61_32 (mcall (d + 5)) x1 x2 x3 _) ?_
                  refine rc_b (i' := 4) (ls' := [some (vR 0), some (vI x1), some (vI x2), some (vI (x3 + (-1)))]) (st' := []) (L' := LR z7 (uA f7 23 (upd (f7 23) (ix x3) (1 + r7)))) 1 (bc4_61_33 (mcall (d + 5)) x1 x2 (x3 + (-1)) _) ?_
                  exact H
                · have H := H.2 (cI2f q36 rfl rfl)
                  refine rc_b (i' := 78) (ls' := [some (vR 0), some (vI x1), some (vI x3), some (vI x3)]) (st' := []) (L' := LR z7 (uA f7 23 (upd (f7 23) (ix x3) (1 + r7)))) 2 (bc4_61_36 (mcall (d + 5)) x1 x2 x3 _) ?_
                  refine rc_b (i' := 79) (ls' := [some (vR 0), some (vI x1), some (vI x3), some (vI (x3 + (-1)))]) (st' := []) (L' := LR z7 (uA f7 23 (upd (f7 23) (ix x3) (1 + r7)))) 1 (bc4_61_32 (mcall (d + 5)) x1 x3 x3 _) ?_
                  refine rc_b (i' := 4) (ls' := [some (vR 0), some (vI x1), some (vI x3), some (vI (x3 + (-1)))]) (st' := []) (L' := LR z7 (uA f7 23 (upd (f7 23) (ix x3) (1 + r7)))) 1 (bc4_61_33 (mcall (d + 5)) x1 x3 (x3 + (-1)) _) ?_
                  exact H
