/-! sets of eight bits -/
def bt (s i : Nat) : Bool := decide (s / 2 ^ i % 2 = 1)
def rb (s i : Nat) : Nat := if bt s i = true then s - 2 ^ i else s
theorem rb_code : ∀ s, s < 256 → ∀ i, i < 8 → (nI s &&& ((1 <<< (nI i &&& 31)) ^^^ (-1))) = nI (rb s i) := by decide +kernel
theorem rb_lt : ∀ s, s < 256 → ∀ i, i < 8 → bt s i = true → rb s i < s ∧ pcN s = pcN (rb s i) + 1 ∧ bt (rb s i) i = false := by decide +kernel
theorem rb_ge : ∀ s, s < 256 → ∀ i, i < 8 → bt s i = false → rb s i = s := by decide +kernel
theorem bt_code : ∀ s, s < 256 → ∀ i, i < 8 → (if bt s i = true then (nI s >>> (nI i &&& 31)) &&& 1 = 1 else ¬ (nI s >>> (nI i &&& 31)) &&& 1 = 1) := by decide +kernel
theorem bt_o : ∀ s, s < 256 → ∀ i, i < 8 → ∀ j, j < 8 → j ≠ i → bt (rb s i) j = bt s j := by decide +kernel
theorem sh_code : ∀ n, n < 9 → (1 : Int32) <<< (nI n &&& 31) = nI (2 ^ n) := by decide +kernel
theorem p2_le : ∀ n, n < 9 → 2 ^ n ≤ 256 := by decide
def exB (p : Nat → Bool) : Nat → Bool
  | 0 => false
  | n + 1 => exB p n || p n
theorem exB_cong {p q : Nat → Bool} : ∀ n, (∀ i, i < n → p i = q i) → exB p n = exB q n := by
  intro n
  induction n with
  | zero => intro _; rfl
  | succ n ih =>
    intro h
    show (exB p n || p n) = (exB q n || q n)
    rw [ih (fun i hi => h i (by omega)), h n (by omega)]
def mxs (p : Nat → Bool) : Nat → Nat
  | 0 => 0
  | m + 1 => if p m = true then max (mxs p m) (pcN m) else mxs p m
theorem mxs_le (p : Nat → Bool) : ∀ m, mxs p m ≤ 8 := by
  intro m
  induction m with
  | zero => exact Nat.zero_le _
  | succ m ih =>
    show (if p m = true then max (mxs p m) (pcN m) else mxs p m) ≤ 8
    have := pcN_le m
    split <;> omega
set_option maxRecDepth 100000 in
theorem b245_1 (call : QC FA) (x1 : Int32) (o2 : Option PV) (o3 : Option PV) (L : QH FA) (F : Nat) : rnG call 245 (F + 4) 0 [some (vR 0), some (vI x1), o2, o3] [] L = rnG call 245 F 4 [some (vR 0), some (vI x1), some (vI 0), some (vI x1)] [] L := rfl
theorem vc245_0 (call : QC FA) (x1 : Int32) (o2 : Option PV) (o3 : Option PV) (z : Nat → Int32) (f : Nat → FA) (res : Option PV × QH FA) (H : RC call (mP 245) 4 [some (vR 0), some (vI x1), some (vI 0), some (vI x1)] [] (LR z f) res) : RC call (mP 245) 0 [some (vR 0), some (vI x1), o2, o3] [] (LR z f) res := by
  refine rc_b (i' := 4) (ls' := [some (vR 0), some (vI x1), some (vI 0), some (vI x1)]) (st' := []) (L' := LR z f) 4 (b245_1 call x1 o2 o3 _) ?_
  exact H
set_option maxRecDepth 100000 in
theorem bc4_245_1 (call : QC FA) (o1 : Option PV) (x2 : Int32) (x3 : Int32) (L : QH FA) (F : Nat) : rnG call 245 (F + 1) 4 [some (vR 0), o1, some (vI x2), some (vI x3)] [] L = rnG call 245 F 5 [some (vR 0), o1, some (vI x2), some (vI x3)] [vI x3] L := rfl
set_option maxRecDepth 100000 in
theorem bc4_245_2 (call : QC FA) (x : Int32) (ls : List (Option PV)) (L : QH FA) (F : Nat) : rnG call 245 (F + 1) 5 ls [vI x] L = bif pcmp 0 x 0 then rnG call 245 F 17 ls [] L else rnG call 245 F 6 ls [] L := rfl
set_option maxRecDepth 100000 in
theorem bc4_245_3 (call : QC FA) (o1 : Option PV) (x2 : Int32) (x3 : Int32) (L : QH FA) (F : Nat) : rnG call 245 (F + 1) 17 [some (vR 0), o1, some (vI x2), some (vI x3)] [] L = rnG call 245 F 18 [some (vR 0), o1, some (vI x2), some (vI x3)] [vI x2] L := rfl
set_option maxRecDepth 100000 in
theorem bc4_245_4 (call : QC FA) (x : Int32) (ls : List (Option PV)) (L : QH FA) (F : Nat) : rnG call 245 (F + 1) 18 ls [vI x] L = some (some (vI x), L) := rfl
set_option maxRecDepth 100000 in
theorem bc4_245_5 (call : QC FA) (o1 : Option PV) (x2 : Int32) (x3 : Int32) (L : QH FA) (F : Nat) : rnG call 245 (F + 11) 6 [some (vR 0), o1, some (vI x2), some (vI x3)] [] L = rnG call 245 F 4 [some (vR 0), o1, some (vI (x2 + 1)), some (vI (x3 &&& (x3 - 1)))] [] L := rfl
theorem vcc4_245_4 (call : QC FA) (o1 : Option PV) (x2 : Int32) (x3 : Int32) (z : Nat → Int32) (f : Nat → FA) (res : Option PV × QH FA) (H : ((x3 = 0 → res = (some (vI x2), LR z f)) ∧ (¬ x3 = 0 → RC call (mP 245) 4 [some (vR 0), o1, some (vI (x2 + 1)), some (vI (x3 &&& (x3 - 1)))] [] (LR z f) res))) : RC call (mP 245) 4 [some (vR 0), o1, some (vI x2), some (vI x3)] [] (LR z f) res := by
  refine rc_b (i' := 5) (ls' := [some (vR 0), o1, some (vI x2), some (vI x3)]) (st' := [vI x3]) (L' := LR z f) 1 (bc4_245_1 call o1 x2 x3 _) ?_
  refine rc_if (it := 17) (ie := 6) (ls' := [some (vR 0), o1, some (vI x2), some (vI x3)]) (st' := []) (bc4_245_2 call x3 _ _) (fun q1 => ?_) (fun q1 => ?_)
  · have H := H.1 (cI0t q1)
    refine rc_b (i' := 18) (ls' := [some (vR 0), o1, some (vI x2), some (vI x3)]) (st' := [vI x2]) (L' := LR z f) 1 (bc4_245_3 call o1 x2 x3 _) ?_
    subst H
    exact rc_ret (bc4_245_4 call _ _ _)
  · have H := H.2 (cI0f q1)
    refine rc_b (i' := 4) (ls' := [some (vR 0), o1, some (vI (x2 + 1)), some (vI (x3 &&& (x3 - 1)))]) (st' := []) (L' := LR z f) 11 (bc4_245_5 call o1 x2 x3 _) ?_
    exact H
set_option maxRecDepth 100000 in
theorem b45_1 (call : QC FA) (x1 : Int32) (x2 : Int32) (L : QH FA) (F : Nat) : rnG call 45 (F + 6) 0 [some (vR 0), some (vI x1), some (vI x2)] [] L = rnG call 45 F 6 [some (vR 0), some (vI x1), some (vI x2)] [vI 1, vI ((x1 >>> (x2 &&& 31)) &&& 1)] L := rfl
set_option maxRecDepth 100000 in
theorem b45_2 (call : QC FA) (x y : Int32) (ls : List (Option PV)) (L : QH FA) (F : Nat) : rnG call 45 (F + 1) 6 ls [vI y, vI x] L = bif pcmp 1 x y then rnG call 45 F 9 ls [] L else rnG call 45 F 7 ls [] L := rfl
set_option maxRecDepth 100000 in
theorem b45_3 (call : QC FA) (x1 : Int32) (x2 : Int32) (L : QH FA) (F : Nat) : rnG call 45 (F + 1) 9 [some (vR 0), some (vI x1), some (vI x2)] [] L = rnG call 45 F 10 [some (vR 0), some (vI x1), some (vI x2)] [vI 0] L := rfl
set_option maxRecDepth 100000 in
theorem b45_4 (call : QC FA) (ls : List (Option PV)) (L : QH FA) (F : Nat) : rnG call 45 (F + 1) 10 ls [vI 0] L = some (some (vI 0), L) := rfl
set_option maxRecDepth 100000 in
theorem b45_5 (call : QC FA) (x1 : Int32) (x2 : Int32) (L : QH FA) (F : Nat) : rnG call 45 (F + 2) 7 [some (vR 0), some (vI x1), some (vI x2)] [] L = rnG call 45 F 10 [some (vR 0), some (vI x1), some (vI x2)] [vI 1] L := rfl
set_option maxRecDepth 100000 in
theorem b45_6 (call : QC FA) (ls : List (Option PV)) (L : QH FA) (F : Nat) : rnG call 45 (F + 1) 10 ls [vI 1] L = some (some (vI 1), L) := rfl
theorem vc45_0 (call : QC FA) (x1 : Int32) (x2 : Int32) (z : Nat → Int32) (f : Nat → FA) (res : Option PV × QH FA) (H : ((¬ (x1 >>> (x2 &&& 31)) &&& 1 = 1 → res = (some (vI 0), LR z f)) ∧ ((x1 >>> (x2 &&& 31)) &&& 1 = 1 → res = (some (vI 1), LR z f)))) : RC call (mP 45) 0 [some (vR 0), some (vI x1), some (vI x2)] [] (LR z f) res := by
  refine rc_b (i' := 6) (ls' := [some (vR 0), some (vI x1), some (vI x2)]) (st' := [vI 1, vI ((x1 >>> (x2 &&& 31)) &&& 1)]) (L' := LR z f) 6 (b45_1 call x1 x2 _) ?_
  refine rc_if (it := 9) (ie := 7) (ls' := [some (vR 0), some (vI x1), some (vI x2)]) (st' := []) (b45_2 call ((x1 >>> (x2 &&& 31)) &&& 1) 1 _ _) (fun q1 => ?_) (fun q1 => ?_)
  · have H := H.1 (cI1t q1)
    refine rc_b (i' := 10) (ls' := [some (vR 0), some (vI x1), some (vI x2)]) (st' := [vI 0]) (L' := LR z f) 1 (b45_3 call x1 x2 _) ?_
    subst H
    exact rc_ret (b45_4 call _ _)
  · have H := H.2 (cI1f q1)
    refine rc_b (i' := 10) (ls' := [some (vR 0), some (vI x1), some (vI x2)]) (st' := [vI 1]) (L' := LR z f) 2 (b45_5 call x1 x2 _) ?_
    subst H
    exact rc_ret (b45_6 call _ _)
theorem ones_r (d : Nat) (v : Nat) (hv : v < 256) (z : Nat → Int32) (f : Nat → FA) : mcall (d + 1) 245 [vR 0, vI (nI v)] (LR z f) = some (some (vI (nI (pcN v))), LR z f) := by
  have lp : ∀ m v, v < m → v < 256 → ∀ n o1, RC (mcall d) (mP 245) 4 [some (vR 0), o1, some (vI (nI n)), some (vI (nI v))] [] (LR z f) (some (vI (nI (n + pcN v))), LR z f) := by
    intro m
    induction m with
    | zero => intro v h; omega
    | succ m ih =>
      intro v hv h256 n o1
      by_cases h0 : v = 0
      · subst h0
        exact vcc4_245_4 _ _ _ _ _ _ _ ⟨fun _ => rfl, fun q => absurd rfl q⟩
      · obtain ⟨e1, e2, e3, e4⟩ := pcN_s v h256 h0
        refine vcc4_245_4 _ _ _ _ _ _ _ ⟨fun q => absurd q e4, fun _ => ?_⟩
        rw [e1, show nI n + 1 = nI (n + 1) from nI_add n 1, e3, show n + (pcN (v &&& (v - 1)) + 1) = n + 1 + pcN (v &&& (v - 1)) by omega]
        exact ih (v &&& (v - 1)) (by omega) (by omega) (n + 1) o1
  have h := lp (v + 1) v (by omega) hv 0 (some (vI (nI v)))
  rw [Nat.zero_add] at h
  exact mcall_i (mq245 (cu := [])).2.2 rfl (vc245_0 (mcall d) (nI v) none none z f _ h)
theorem has_r (d s i : Nat) (hs : s < 256) (hi : i < 8) (z : Nat → Int32) (f : Nat → FA) : mcall (d + 1) 45 [vR 0, vI (nI s), vI (nI i)] (LR z f) = some (some (vI (if bt s i = true then 1 else 0)), LR z f) := by
  have h := bt_code s hs i hi
  refine mcall_i (mq45 (cu := [])).2.2 rfl (vc45_0 (mcall d) (nI s) (nI i) z f _ ⟨fun q => ?_, fun q => ?_⟩)
  · cases c : bt s i with
    | true => rw [c, if_pos rfl] at h; exact absurd h q
    | false => rfl
  · cases c : bt s i with
    | true => rfl
    | false => rw [c, if_neg (by decide)] at h; exact absurd q h
