/-! the fewest marks to be lifted: the heaviest first -/
def ctN (p : Nat → Nat) (w : Nat) : Nat → Nat
  | 0 => 0
  | n + 1 => ctN p w n + (if p n = w then 1 else 0)
def ginW (w : Nat) : Nat → Int32 → Nat → Int32 × Nat
  | 0, y, l => (y, l)
  | k + 1, y, l => if 0 < I y then (y, l) else ginW w k (y + nI w) (l + 1)
def gouW (c : Nat → Nat) : Nat → Int32 → Nat → Int32 × Nat
  | 0, y, l => (y, l)
  | w + 1, y, l => gouW c w (ginW (w + 1) (c (w + 1)) y l).1 (ginW (w + 1) (c (w + 1)) y l).2
def ansW (p : Int32 × Nat) : Int32 := if 0 < I p.1 then nI p.2 else -1
theorem ginW_pos {w : Nat} {y : Int32} {l : Nat} (h : 0 < I y) : ∀ k, ginW w k y l = (y, l) := by
  intro k
  cases k with
  | zero => rfl
  | succ k => exact if_pos h
theorem gouW_pos {c : Nat → Nat} {y : Int32} {l : Nat} (h : 0 < I y) : ∀ w, gouW c w y l = (y, l) := by
  intro w
  induction w with
  | zero => rfl
  | succ w ih =>
    show gouW c w (ginW (w + 1) (c (w + 1)) y l).1 (ginW (w + 1) (c (w + 1)) y l).2 = _
    rw [ginW_pos h]
    exact ih
theorem gouW_cong {c c' : Nat → Nat} : ∀ w, (∀ v, 1 ≤ v → v ≤ w → c v = c' v) → ∀ y l, gouW c w y l = gouW c' w y l := by
  intro w
  induction w with
  | zero => intro _ y l; rfl
  | succ w ih =>
    intro h y l
    show gouW c w (ginW (w + 1) (c (w + 1)) y l).1 (ginW (w + 1) (c (w + 1)) y l).2 = gouW c' w (ginW (w + 1) (c' (w + 1)) y l).1 (ginW (w + 1) (c' (w + 1)) y l).2
    rw [h (w + 1) (by omega) (by omega)]
    exact ih (fun v h1 h2 => h v h1 (by omega)) _ _
theorem ctN_le (p : Nat → Nat) (w : Nat) : ∀ n, ctN p w n ≤ n := by
  intro n
  induction n with
  | zero => exact Nat.le_refl _
  | succ n ih =>
    show ctN p w n + (if p n = w then 1 else 0) ≤ n + 1
    split <;> omega
theorem ctN_zero {p : Nat → Nat} {w : Nat} : ∀ n, ctN p w n = 0 → ∀ j, j < n → p j ≠ w := by
  intro n
  induction n with
  | zero => intro _ j hj; exact absurd hj (Nat.not_lt_zero j)
  | succ n ih =>
    intro h j hj
    have h : ctN p w n + (if p n = w then 1 else 0) = 0 := h
    by_cases c : p n = w
    · rw [if_pos c] at h
      omega
    · by_cases e : j = n
      · rw [e]
        exact c
      · exact ih (by omega) j (by omega)
theorem ctN_pos {p : Nat → Nat} {w : Nat} : ∀ n, 0 < ctN p w n → ∃ j, j < n ∧ p j = w := by
  intro n
  induction n with
  | zero => intro h; exact absurd h (Nat.lt_irrefl 0)
  | succ n ih =>
    intro h
    have h : 0 < ctN p w n + (if p n = w then 1 else 0) := h
    by_cases c : p n = w
    · exact ⟨n, by omega, c⟩
    · rw [if_neg c] at h
      obtain ⟨j, j1, j2⟩ := ih (by omega)
      exact ⟨j, by omega, j2⟩
theorem ctN_cong {p q : Nat → Nat} {w : Nat} : ∀ n, (∀ j, j < n → (p j = w ↔ q j = w)) → ctN p w n = ctN q w n := by
  intro n
  induction n with
  | zero => intro _; rfl
  | succ n ih =>
    intro h
    show ctN p w n + (if p n = w then 1 else 0) = ctN q w n + (if q n = w then 1 else 0)
    rw [ih (fun j hj => h j (by omega))]
    by_cases c : p n = w
    · rw [if_pos c, if_pos ((h n (by omega)).mp c)]
    · rw [if_neg c, if_neg (fun e => c ((h n (by omega)).mpr e))]
/-- one of them becomes nothing -/
def updN (p : Nat → Nat) (b x : Nat) : Nat → Nat := fun j => if j = b then x else p j
theorem ctN_upd {p : Nat → Nat} {b w : Nat} (hw : 1 ≤ w) (hb : p b = w) : ∀ n, b < n → ctN p w n = ctN (updN p b 0) w n + 1 := by
  intro n
  induction n with
  | zero => intro h; exact absurd h (Nat.not_lt_zero b)
  | succ n ih =>
    intro h
    show ctN p w n + (if p n = w then 1 else 0) = ctN (updN p b 0) w n + (if updN p b 0 n = w then 1 else 0) + 1
    by_cases e : b = n
    · subst e
      have e0 : updN p b 0 b = 0 := if_pos rfl
      rw [if_pos hb, e0, if_neg (by omega), ctN_cong (p := p) (q := updN p b 0) b (fun j hj => by
        have : updN p b 0 j = p j := if_neg (by omega)
        rw [this])]
    · have e1 : updN p b 0 n = p n := if_neg (fun q => e q.symm)
      rw [e1, ih (by omega)]
      omega
/-- what a mark weighs, over the reference's rows -/
noncomputable def wtV (L : LAW) (n : Nat) (m g w5 w6 : FA) (i : Nat) : Int32 := hld ((lawG L (vl10 (g (211 + i)) (w6 (I (g (67 + i)) - 1).toNat) (w5 (I (g (67 + i)) - 1).toNat) (g (355 + i)) (g 4) (g 1) (nI (i / 12)) (bsd m (nI i)) (g (47 + (I (g (67 + i)) - 1).toNat)) (g 0)) 2 n 0).getD (g (355 + i))) 99
theorem wtV_b (L : LAW) (n : Nat) (m g w5 w6 : FA) (i : Nat) : 0 ≤ I (wtV L n m g w5 w6 i) ∧ I (wtV L n m g w5 w6 i) ≤ 99 := hld_b _ (by decide)
/-- the sum of the first cells -/
def sgS (wy wt : Nat → Int32) : Nat → Int32
  | 0 => 0
  | k + 1 => if wy k = 0 then sgS wy wt k else sgS wy wt k + wy k * wt k
/-- down marks' weights as numbers -/
def dnN (wy wt : Nat → Int32) (i : Nat) : Nat := if wy i = -1 then (I (wt i)).toNat else 0
def hwF (wy wt : Nat → Int32) : Nat → FA
  | 0 => fun _ => 0
  | k + 1 => if wy k = -1 then upd (hwF wy wt k) (I (wt k)).toNat (hwF wy wt k (I (wt k)).toNat + 1) else hwF wy wt k
/-- down marks of a weight, counted -/
def ctD (wy wt : Nat → Int32) (w : Nat) : Nat → Nat
  | 0 => 0
  | n + 1 => ctD wy wt w n + (if wy n = -1 ∧ (I (wt n)).toNat = w then 1 else 0)
theorem hwF_e (wy wt : Nat → Int32) (w : Nat) : ∀ k, hwF wy wt k w = nI (ctD wy wt w k) := by
  intro k
  induction k with
  | zero => rfl
  | succ k ih =>
    show (if wy k = -1 then upd (hwF wy wt k) (I (wt k)).toNat (hwF wy wt k (I (wt k)).toNat + 1) else hwF wy wt k) w = nI (ctD wy wt w k + (if wy k = -1 ∧ (I (wt k)).toNat = w then 1 else 0))
    by_cases c : wy k = -1
    · rw [if_pos c]
      by_cases e : (I (wt k)).toNat = w
      · rw [if_pos ⟨c, e⟩, e, pk_us, ih, nI_s]
      · rw [if_neg (fun q => e q.2), pk_un (fun q => e q.symm), ih]
        rfl
    · rw [if_neg c, if_neg (fun q => c q.1), ih]
      rfl
theorem ctD_e {wy wt : Nat → Int32} {w : Nat} (hw : 1 ≤ w) : ∀ n, ctD wy wt w n = ctN (dnN wy wt) w n := by
  intro n
  induction n with
  | zero => rfl
  | succ n ih =>
    show ctD wy wt w n + (if wy n = -1 ∧ (I (wt n)).toNat = w then 1 else 0) = ctN (dnN wy wt) w n + (if (if wy n = -1 then (I (wt n)).toNat else 0) = w then 1 else 0)
    rw [ih]
    by_cases c : wy n = -1
    · rw [if_pos c]
      by_cases e : (I (wt n)).toNat = w
      · rw [if_pos ⟨c, e⟩, if_pos e]
      · rw [if_neg (fun q => e q.2), if_neg e]
    · rw [if_neg (fun q => c q.1), if_neg c, if_neg (by omega)]
theorem nI_of99 {x : Int32} (h0 : 0 ≤ I x) (h1 : I x ≤ 99) : x = nI (I x).toNat ∧ (I x).toNat ≤ 99 := by
  obtain ⟨m, rfl, m1, m2⟩ := nI_ofI h0
  rw [m2]
  exact ⟨by rw [Int.toNat_natCast], by omega⟩
/-- the first greatest -/
def frB (p : Nat → Nat) : Nat → Nat
  | 0 => 0
  | c + 1 => if p (frB p c) < p c then c else frB p c
theorem frB_1 (p : Nat → Nat) : frB p 1 = 0 := by
  show (if p (frB p 0) < p 0 then 0 else frB p 0) = 0
  split <;> rfl
theorem frB_lt (p : Nat → Nat) : ∀ c, frB p (c + 1) < c + 1 := by
  intro c
  induction c with
  | zero =>
    show (if p (frB p 0) < p 0 then 0 else frB p 0) < 1
    split
    · decide
    · exact Nat.lt_succ_self 0
  | succ c ih =>
    show (if p (frB p (c + 1)) < p (c + 1) then c + 1 else frB p (c + 1)) < c + 1 + 1
    split <;> omega
theorem frB_ge (p : Nat → Nat) : ∀ c j, j < c + 1 → p j ≤ p (frB p (c + 1)) := by
  intro c
  induction c with
  | zero =>
    intro j hj
    obtain rfl : j = 0 := by omega
    show p 0 ≤ p (if p (frB p 0) < p 0 then 0 else frB p 0)
    split
    · exact Nat.le_refl _
    · exact Nat.le_refl _
  | succ c ih =>
    intro j hj
    show p j ≤ p (if p (frB p (c + 1)) < p (c + 1) then c + 1 else frB p (c + 1))
    by_cases e : j = c + 1
    · subst e
      split
      · exact Nat.le_refl _
      · omega
    · have := ih j (by omega)
      split <;> omega
/-! the reference -/
set_option maxRecDepth 100000 in
theorem b59_1 (call : QC FA) (o1 : Option PV) (o2 : Option PV) (o3 : Option PV) (o4 : Option PV) (L : QH FA) (F : Nat) : rnG call 59 (F + 1) 0 [some (vR 0), o1, o2, o3, o4] [] L = rnG call 59 F 1 [some (vR 0), o1, o2, o3, o4] [vR 0] L := rfl
set_option maxRecDepth 100000 in
theorem b59_2 (call : QC FA) (ls : List (Option PV)) (z : Nat → Int32) (f : Nat → FA) (F : Nat) : rnG call 59 (F + 1) 1 ls [vR 0] (LR z f) = cbd (call 48 [vR 0] (LR z f)) (fun r L' => rnG call 59 F 2 ls (r.toList ++ []) L') := pcY (ih := rnG call 59 F) (call := call) (a := 48) (b := 0) (v := 12) (t := 2) (x := 0) (ls := ls) (As := []) (st' := []) (L := LR z f) rfl rfl rfl
set_option maxRecDepth 100000 in
theorem b59_3 (call : QC FA) (o1 : Option PV) (o2 : Option PV) (o3 : Option PV) (o4 : Option PV) (s0 : Int32) (L : QH FA) (F : Nat) : rnG call 59 (F + 5) 2 [some (vR 0), o1, o2, o3, o4] [vI s0] L = rnG call 59 F 7 [some (vR 0), some (vI s0), some (vI 0), some (vI 0), o4] [] L := rfl
theorem vc59_0 (d : Nat) (o1 : Option PV) (o2 : Option PV) (o3 : Option PV) (o4 : Option PV) (z : Nat → Int32) (f : Nat → FA) (res : Option PV × QH FA) (H : (∃ (r1 : Int32) (z1 : Nat → Int32) (f1 : Nat → FA), (mcall (d + 5)) 48 [vR 0] (LR z f) = some (some (vI r1), LR z1 f1) ∧ RC (mcall (d + 5)) (mP 59) 7 [some (vR 0), some (vI r1), some (vI 0), some (vI 0), o4] [] (LR z1 f1) res)) : RC (mcall (d + 5)) (mP 59) 0 [some (vR 0), o1, o2, o3, o4] [] (LR z f) res := by
  refine rc_b (i' := 1) (ls' := [some (vR 0), o1, o2, o3, o4]) (st' := [vR 0]) (L' := LR z f) 1 (b59_1 (mcall (d + 5)) o1 o2 o3 o4 _) ?_
  obtain ⟨r1, z1, f1, hc, H⟩ := H
  refine rc_call (t := 2) (ls' := [some (vR 0), o1, o2, o3, o4]) (st' := []) (b59_2 (mcall (d + 5)) _ z f) hc ?_
  show RC (mcall (d + 5)) (mP 59) 2 [some (vR 0), o1, o2, o3, o4] [vI r1] (LR z1 f1) res
  refine rc_b (i' := 7) (ls' := [some (vR 0), some (vI r1), some (vI 0), some (vI 0), o4]) (st' := []) (L' := LR z1 f1) 5 (b59_3 (mcall (d + 5)) o1 o2 o3 o4 r1 _) ?_
  exact H
set_option maxRecDepth 100000 in
theorem bc7_59_1 (call : QC FA) (x1 : Int32) (x2 : Int32) (x3 : Int32) (o4 : Option PV) (L : QH FA) (F : Nat) : rnG call 59 (F + 2) 7 [some (vR 0), some (vI x1), some (vI x2), some (vI x3), o4] [] L = rnG call 59 F 9 [some (vR 0), some (vI x1), some (vI x2), some (vI x3), o4] [vI 144, vI x3] L := rfl
set_option maxRecDepth 100000 in
theorem bc7_59_2 (call : QC FA) (x y : Int32) (ls : List (Option PV)) (L : QH FA) (F : Nat) : rnG call 59 (F + 1) 9 ls [vI y, vI x] L = bif pcmp 3 x y then rnG call 59 F 29 ls [] L else rnG call 59 F 10 ls [] L := rfl
set_option maxRecDepth 100000 in
theorem bc7_59_3 (call : QC FA) (x1 : Int32) (x2 : Int32) (x3 : Int32) (o4 : Option PV) (z : Nat → Int32) (f : Nat → FA) (F : Nat) : rnG call 59 (F + 8) 10 [some (vR 0), some (vI x1), some (vI x2), some (vI x3), o4] [] (LR z f) = rnG call 59 F 18 [some (vR 0), some (vI x1), some (vI x2), some (vI x3), o4] [vI (211 + x3), vR 1, vI x3, vR 23] (LR z f) := rfl
set_option maxRecDepth 100000 in
theorem bc7_59_4 (call : QC FA) (x : Int32) (s0 : Int32) (ls : List (Option PV)) (z : Nat → Int32) (f : Nat → FA) (F : Nat) : rnG call 59 (F + 1) 18 ls [vI x, vR 1, vI s0, vR 23] (LR z f) = bif (Nat.beq 0 0 && pin x 499) then rnG call 59 F 19 ls [vI (f 1 (ix x)), vI s0, vR 23] (LR z f) else none := rfl
set_option maxRecDepth 100000 in
theorem bc7_59_5 (call : QC FA) (x1 : Int32) (x2 : Int32) (x3 : Int32) (o4 : Option PV) (s0 : Int32) (s1 : Int32) (L : QH FA) (F : Nat) : rnG call 59 (F + 1) 19 [some (vR 0), some (vI x1), some (vI x2), some (vI x3), o4] [vI s0, vI s1, vR 23] L = rnG call 59 F 20 [some (vR 0), some (vI x1), some (vI x2), some (vI x3), o4] [vI ((-1)), vI s0, vI s1, vR 23] L := rfl
set_option maxRecDepth 100000 in
theorem bc7_59_6 (call : QC FA) (x y : Int32) (s0 : Int32) (ls : List (Option PV)) (L : QH FA) (F : Nat) : rnG call 59 (F + 1) 20 ls [vI y, vI x, vI s0, vR 23] L = bif pcmp 1 x y then rnG call 59 F 25 ls [vI s0, vR 23] L else rnG call 59 F 21 ls [vI s0, vR 23] L := rfl
set_option maxRecDepth 100000 in
theorem bc7_59_7 (call : QC FA) (x1 : Int32) (x2 : Int32) (x3 : Int32) (o4 : Option PV) (s0 : Int32) (L : QH FA) (F : Nat) : rnG call 59 (F + 1) 25 [some (vR 0), some (vI x1), some (vI x2), some (vI x3), o4] [vI s0, vR 23] L = rnG call 59 F 26 [some (vR 0), some (vI x1), some (vI x2), some (vI x3), o4] [vI 0, vI s0, vR 23] L := rfl
set_option maxRecDepth 100000 in
theorem bc7_59_8 (call : QC FA) (x y : Int32) (ls : List (Option PV)) (z : Nat → Int32) (f : Nat → FA) (F : Nat) : rnG call 59 (F + 1) 26 ls [vI y, vI x, vR 23] (LR z f) = bif (Nat.beq 0 0 && pin x 144) then rnG call 59 F 27 ls [] (LR z (uA f 23 (upd (f 23) (ix x) y))) else none := rfl
set_option maxRecDepth 100000 in
theorem bc7_59_9 (call : QC FA) (x1 : Int32) (x2 : Int32) (x3 : Int32) (o4 : Option PV) (L : QH FA) (F : Nat) : rnG call 59 (F + 1) 27 [some (vR 0), some (vI x1), some (vI x2), some (vI x3), o4] [] L = rnG call 59 F 28 [some (vR 0), some (vI x1), some (vI x2), some (vI (x3 + 1)), o4] [] L := rfl
set_option maxRecDepth 100000 in
theorem bc7_59_10 (call : QC FA) (x1 : Int32) (x2 : Int32) (x3 : Int32) (o4 : Option PV) (L : QH FA) (F : Nat) : rnG call 59 (F + 1) 28 [some (vR 0), some (vI x1), some (vI x2), some (vI x3), o4] [] L = rnG call 59 F 7 [some (vR 0), some (vI x1), some (vI x2), some (vI x3), o4] [] L := rfl
set_option maxRecDepth 100000 in
theorem bc7_59_11 (call : QC FA) (x1 : Int32) (x2 : Int32) (x3 : Int32) (o4 : Option PV) (s0 : Int32) (L : QH FA) (F : Nat) : rnG call 59 (F + 2) 21 [some (vR 0), some (vI x1), some (vI x2), some (vI x3), o4] [vI s0, vR 23] L = rnG call 59 F 23 [some (vR 0), some (vI x1), some (vI x2), some (vI x3), o4] [vI x3, vR 0, vI s0, vR 23] L := rfl
set_option maxRecDepth 100000 in
theorem bc7_59_12 (call : QC FA) (a0 : Int32) (s0 : Int32) (ls : List (Option PV)) (z : Nat → Int32) (f : Nat → FA) (F : Nat) : rnG call 59 (F + 1) 23 ls [vI a0, vR 0, vI s0, vR 23] (LR z f) = cbd (call 50 [vR 0, vI a0] (LR z f)) (fun r L' => rnG call 59 F 24 ls (r.toList ++ [vI s0, vR 23]) L') := pcY (ih := rnG call 59 F) (call := call) (a := 50) (b := 1) (v := 12) (t := 24) (x := 0) (ls := ls) (As := [vI a0]) (st' := [vI s0, vR 23]) (L := LR z f) rfl rfl rfl
set_option maxRecDepth 100000 in
theorem bc7_59_13 (call : QC FA) (x1 : Int32) (x2 : Int32) (x3 : Int32) (o4 : Option PV) (s0 : Int32) (s1 : Int32) (L : QH FA) (F : Nat) : rnG call 59 (F + 1) 24 [some (vR 0), some (vI x1), some (vI x2), some (vI x3), o4] [vI s0, vI s1, vR 23] L = rnG call 59 F 26 [some (vR 0), some (vI x1), some (vI x2), some (vI x3), o4] [vI s0, vI s1, vR 23] L := rfl
theorem vcc7_59_7 (d : Nat) (x1 : Int32) (x2 : Int32) (x3 : Int32) (o4 : Option PV) (z : Nat → Int32) (f : Nat → FA) (res : Option PV × QH FA) (H : ((144 ≤ I x3 → RC (mcall (d + 5)) (mP 59) 29 [some (vR 0), some (vI x1), some (vI x2), some (vI x3), o4] [] (LR z f) res) ∧ (I x3 < 144 → (pin (211 + x3) 499 = true ∧ ((¬ f 1 (ix (211 + x3)) = (-1) → (pin x3 144 = true ∧ RC (mcall (d + 5)) (mP 59) 7 [some (vR 0), some (vI x1), some (vI x2), some (vI (x3 + 1)), o4] [] (LR z (uA f 23 (upd (f 23) (ix x3) 0))) res)) ∧ (f 1 (ix (211 + x3)) = (-1) → (∃ (r1 : Int32) (z1 : Nat → Int32) (f1 : Nat → FA), (mcall (d + 5)) 50 [vR 0, vI x3] (LR z f) = some (some (vI r1), LR z1 f1) ∧ (pin x3 144 = true ∧ RC (mcall (d + 5)) (mP 59) 7 [some (vR 0), some (vI x1), some (vI x2), some (vI (x3 + 1)), o4] [] (LR z1 (uA f1 23 (upd (f1 23) (ix x3) r1))) res)))))))) : RC (mcall (d + 5)) (mP 59) 7 [some (vR 0), some (vI x1), some (vI x2), some (vI x3), o4] [] (LR z f) res := by
  refine rc_b (i' := 9) (ls' := [some (vR 0), some (vI x1), some (vI x2), some (vI x3), o4]) (st' := [vI 144, vI x3]) (L' := LR z f) 2 (bc7_59_1 (mcall (d + 5)) x1 x2 x3 o4 _) ?_
  refine rc_if (it := 29) (ie := 10) (ls' := [some (vR 0), some (vI x1), some (vI x2), some (vI x3), o4]) (st' := []) (bc7_59_2 (mcall (d + 5)) x3 144 _ _) (fun q1 => ?_) (fun q1 => ?_)
  · have H := H.1 (cI3t q1 rfl rfl)
    exact H
  · have H := H.2 (cI3f q1 rfl rfl)
    refine rc_b (i' := 18) (ls' := [some (vR 0), some (vI x1), some (vI x2), some (vI x3), o4]) (st' := [vI (211 + x3), vR 1, vI x3, vR 23]) (L' := LR z f) 8 (bc7_59_3 (mcall (d + 5)) x1 x2 x3 o4 z f) ?_
    obtain ⟨g1, H⟩ := H
    refine rc_g (i' := 19) (ls' := [some (vR 0), some (vI x1), some (vI x2), some (vI x3), o4]) (st' := [vI (f 1 (ix (211 + x3))), vI x3, vR 23]) (L' := LR z f) (bc7_59_4 (mcall (d + 5)) (211 + x3) x3 _ z f) (pinG g1) ?_
    refine rc_b (i' := 20) (ls' := [some (vR 0), some (vI x1), some (vI x2), some (vI x3), o4]) (st' := [vI ((-1)), vI (f 1 (ix (211 + x3))), vI x3, vR 23]) (L' := LR z f) 1 (bc7_59_5 (mcall (d + 5)) x1 x2 x3 o4 (f 1 (ix (211 + x3))) x3 _) ?_
    refine rc_if (it := 25) (ie := 21) (ls' := [some (vR 0), some (vI x1), some (vI x2), some (vI x3), o4]) (st' := [vI x3, vR 23]) (bc7_59_6 (mcall (d + 5)) (f 1 (ix (211 + x3))) ((-1)) x3 _ _) (fun q2 => ?_) (fun q2 => ?_)
    · have H := H.1 (cI1t q2)
      refine rc_b (i' := 26) (ls' := [some (vR 0), some (vI x1), some (vI x2), some (vI x3), o4]) (st' := [vI 0, vI x3, vR 23]) (L' := LR z f) 1 (bc7_59_7 (mcall (d + 5)) x1 x2 x3 o4 x3 _) ?_
      obtain ⟨g1, H⟩ := H
      refine rc_g (i' := 27) (ls' := [some (vR 0), some (vI x1), some (vI x2), some (vI x3), o4]) (st' := []) (L' := LR z (uA f 23 (upd (f 23) (ix x3) 0))) (bc7_59_8 (mcall (d + 5)) x3 0 _ z f) (pinG g1) ?_
      refine rc_b (i' := 28) (ls' := [some (vR 0), some (vI x1), some (vI x2), some (vI (x3 + 1)), o4]) (st' := []) (L' := LR z (uA f 23 (upd (f 23) (ix x3) 0))) 1 (bc7_59_9 (mcall (d + 5)) x1 x2 x3 o4 _) ?_
      refine rc_b (i' := 7) (ls' := [some (vR 0), some (vI x1), some (vI x2), some (vI (x3 + 1)), o4]) (st' := []) (L' := LR z (uA f 23 (upd (f 23) (ix x3) 0))) 1 (bc7_59_10 (mcall (d + 5)) x1 x2 (x3 + 1) o4 _) ?_
      exact H
    · have H := H.2 (cI1f q2)
      refine rc_b (i' := 23) (ls' := [some (vR 0), some (vI x1), some (vI x2), some (vI x3), o4]) (st' := [vI x3, vR 0, vI x3, vR 23]) (L' := LR z f) 2 (bc7_59_11 (mcall (d + 5)) x1 x2 x3 o4 x3 _) ?_
      obtain ⟨r1, z1, f1, hc, H⟩ := H
      refine rc_call (t := 24) (ls' := [some (vR 0), some (vI x1), some (vI x2), some (vI x3), o4]) (st' := [vI x3, vR 23]) (bc7_59_12 (mcall (d + 5)) x3 x3 _ z f) hc ?_
      show RC (mcall (d + 5)) (mP 59) 24 [some (vR 0), some (vI x1), some (vI x2), some (vI x3), o4] [vI r1, vI x3, vR 23] (LR z1 f1) res
      refine rc_b (i' := 26) (ls' := [some (vR 0), some (vI x1), some (vI x2), some (vI x3), o4]) (st' := [vI r1, vI x3, vR 23]) (L' := LR z1 f1) 1 (bc7_59_13 (mcall (d + 5)) x1 x2 x3 o4 r1 x3 _) ?_
      obtain ⟨g1, H⟩ := H
      refine rc_g (i' := 27) (ls' := [some (vR 0), some (vI x1), some (vI x2), some (vI x3), o4]) (st' := []) (L' := LR z1 (uA f1 23 (upd (f1 23) (ix x3) r1))) (bc7_59_8 (mcall (d + 5)) x3 r1 _ z1 f1) (pinG g1) ?_
      refine rc_b (i' := 28) (ls' := [some (vR 0), some (vI x1), some (vI x2), some (vI (x3 + 1)), o4]) (st' := []) (L' := LR z1 (uA f1 23 (upd (f1 23) (ix x3) r1))) 1 (bc7_59_9 (mcall (d + 5)) x1 x2 x3 o4 _) ?_
      refine rc_b (i' := 7) (ls' := [some (vR 0), some (vI x1), some (vI x2), some (vI (x3 + 1)), o4]) (st' := []) (L' := LR z1 (uA f1 23 (upd (f1 23) (ix x3) r1))) 1 (bc7_59_10 (mcall (d + 5)) x1 x2 (x3 + 1) o4 _) ?_
      exact H
set_option maxRecDepth 100000 in
theorem bc29_59_1 (call : QC FA) (x1 : Int32) (x2 : Int32) (o3 : Option PV) (o4 : Option PV) (L : QH FA) (F : Nat) : rnG call 59 (F + 1) 29 [some (vR 0), some (vI x1), some (vI x2), o3, o4] [] L = rnG call 59 F 30 [some (vR 0), some (vI x1), some (vI x2), o3, o4] [vI x1] L := rfl
set_option maxRecDepth 100000 in
theorem bc29_59_2 (call : QC FA) (x : Int32) (ls : List (Option PV)) (L : QH FA) (F : Nat) : rnG call 59 (F + 1) 30 ls [vI x] L = bif pcmp 4 x 0 then rnG call 59 F 75 ls [] L else rnG call 59 F 31 ls [] L := rfl
set_option maxRecDepth 100000 in
theorem bc29_59_3 (call : QC FA) (x1 : Int32) (x2 : Int32) (o3 : Option PV) (o4 : Option PV) (L : QH FA) (F : Nat) : rnG call 59 (F + 1) 75 [some (vR 0), some (vI x1), some (vI x2), o3, o4] [] L = rnG call 59 F 76 [some (vR 0), some (vI x1), some (vI x2), o3, o4] [vI x2] L := rfl
set_option maxRecDepth 100000 in
theorem bc29_59_4 (call : QC FA) (x : Int32) (ls : List (Option PV)) (L : QH FA) (F : Nat) : rnG call 59 (F + 1) 76 ls [vI x] L = some (some (vI x), L) := rfl
set_option maxRecDepth 100000 in
theorem bc29_59_5 (call : QC FA) (x1 : Int32) (x2 : Int32) (o3 : Option PV) (o4 : Option PV) (L : QH FA) (F : Nat) : rnG call 59 (F + 4) 31 [some (vR 0), some (vI x1), some (vI x2), o3, o4] [] L = rnG call 59 F 35 [some (vR 0), some (vI x1), some (vI x2), some (vI 0), some (vI 1)] [] L := rfl
theorem vcc29_59_29 (d : Nat) (x1 : Int32) (x2 : Int32) (o3 : Option PV) (o4 : Option PV) (z : Nat → Int32) (f : Nat → FA) (res : Option PV × QH FA) (H : ((0 < I x1 → res = (some (vI x2), LR z f)) ∧ (I x1 ≤ 0 → RC (mcall (d + 5)) (mP 59) 35 [some (vR 0), some (vI x1), some (vI x2), some (vI 0), some (vI 1)] [] (LR z f) res))) : RC (mcall (d + 5)) (mP 59) 29 [some (vR 0), some (vI x1), some (vI x2), o3, o4] [] (LR z f) res := by
  refine rc_b (i' := 30) (ls' := [some (vR 0), some (vI x1), some (vI x2), o3, o4]) (st' := [vI x1]) (L' := LR z f) 1 (bc29_59_1 (mcall (d + 5)) x1 x2 o3 o4 _) ?_
  refine rc_if (it := 75) (ie := 31) (ls' := [some (vR 0), some (vI x1), some (vI x2), o3, o4]) (st' := []) (bc29_59_2 (mcall (d + 5)) x1 _ _) (fun q1 => ?_) (fun q1 => ?_)
  · have H := H.1 (cI4t q1 rfl rfl)
    refine rc_b (i' := 76) (ls' := [some (vR 0), some (vI x1), some (vI x2), o3, o4]) (st' := [vI x2]) (L' := LR z f) 1 (bc29_59_3 (mcall (d + 5)) x1 x2 o3 o4 _) ?_
    subst H
    exact rc_ret (bc29_59_4 (mcall (d + 5)) _ _ _)
  · have H := H.2 (cI4f q1 rfl rfl)
    refine rc_b (i' := 35) (ls' := [some (vR 0), some (vI x1), some (vI x2), some (vI 0), some (vI 1)]) (st' := []) (L' := LR z f) 4 (bc29_59_5 (mcall (d + 5)) x1 x2 o3 o4 _) ?_
    exact H
set_option maxRecDepth 100000 in
theorem bc35_59_1 (call : QC FA) (x1 : Int32) (x2 : Int32) (x3 : Int32) (x4 : Int32) (L : QH FA) (F : Nat) : rnG call 59 (F + 2) 35 [some (vR 0), some (vI x1), some (vI x2), some (vI x3), some (vI x4)] [] L = rnG call 59 F 37 [some (vR 0), some (vI x1), some (vI x2), some (vI x3), some (vI x4)] [vI 144, vI x4] L := rfl
set_option maxRecDepth 100000 in
theorem bc35_59_2 (call : QC FA) (x y : Int32) (ls : List (Option PV)) (L : QH FA) (F : Nat) : rnG call 59 (F + 1) 37 ls [vI y, vI x] L = bif pcmp 3 x y then rnG call 59 F 51 ls [] L else rnG call 59 F 38 ls [] L := rfl
set_option maxRecDepth 100000 in
theorem bc35_59_3 (call : QC FA) (x1 : Int32) (x2 : Int32) (x3 : Int32) (x4 : Int32) (z : Nat → Int32) (f : Nat → FA) (F : Nat) : rnG call 59 (F + 3) 51 [some (vR 0), some (vI x1), some (vI x2), some (vI x3), some (vI x4)] [] (LR z f) = rnG call 59 F 54 [some (vR 0), some (vI x1), some (vI x2), some (vI x3), some (vI x4)] [vI x3, vR 23] (LR z f) := rfl
set_option maxRecDepth 100000 in
theorem bc35_59_4 (call : QC FA) (x : Int32) (ls : List (Option PV)) (z : Nat → Int32) (f : Nat → FA) (F : Nat) : rnG call 59 (F + 1) 54 ls [vI x, vR 23] (LR z f) = bif (Nat.beq 0 0 && pin x 144) then rnG call 59 F 55 ls [vI (f 23 (ix x))] (LR z f) else none := rfl
set_option maxRecDepth 100000 in
theorem bc35_59_5 (call : QC FA) (x : Int32) (ls : List (Option PV)) (L : QH FA) (F : Nat) : rnG call 59 (F + 1) 55 ls [vI x] L = bif pcmp 1 x 0 then rnG call 59 F 58 ls [] L else rnG call 59 F 56 ls [] L := rfl
set_option maxRecDepth 100000 in
theorem bc35_59_6 (call : QC FA) (x1 : Int32) (x2 : Int32) (x3 : Int32) (x4 : Int32) (z : Nat → Int32) (f : Nat → FA) (F : Nat) : rnG call 59 (F + 4) 58 [some (vR 0), some (vI x1), some (vI x2), some (vI x3), some (vI x4)] [] (LR z f) = rnG call 59 F 62 [some (vR 0), some (vI x1), some (vI x2), some (vI x3), some (vI x4)] [vI x3, vR 23, vI x1] (LR z f) := rfl
set_option maxRecDepth 100000 in
theorem bc35_59_7 (call : QC FA) (x : Int32) (s0 : Int32) (ls : List (Option PV)) (z : Nat → Int32) (f : Nat → FA) (F : Nat) : rnG call 59 (F + 1) 62 ls [vI x, vR 23, vI s0] (LR z f) = bif (Nat.beq 0 0 && pin x 144) then rnG call 59 F 63 ls [vI (f 23 (ix x)), vI s0] (LR z f) else none := rfl
set_option maxRecDepth 100000 in
theorem bc35_59_8 (call : QC FA) (x1 : Int32) (x2 : Int32) (x3 : Int32) (x4 : Int32) (s0 : Int32) (s1 : Int32) (z : Nat → Int32) (f : Nat → FA) (F : Nat) : rnG call 59 (F + 6) 63 [some (vR 0), some (vI x1), some (vI x2), some (vI x3), some (vI x4)] [vI s0, vI s1] (LR z f) = rnG call 59 F 69 [some (vR 0), some (vI (s1 + s0)), some (vI x2), some (vI x3), some (vI x4)] [vI 0, vI x3, vR 23] (LR z f) := rfl
set_option maxRecDepth 100000 in
theorem bc35_59_9 (call : QC FA) (x y : Int32) (ls : List (Option PV)) (z : Nat → Int32) (f : Nat → FA) (F : Nat) : rnG call 59 (F + 1) 69 ls [vI y, vI x, vR 23] (LR z f) = bif (Nat.beq 0 0 && pin x 144) then rnG call 59 F 70 ls [] (LR z (uA f 23 (upd (f 23) (ix x) y))) else none := rfl
set_option maxRecDepth 100000 in
theorem bc35_59_10 (call : QC FA) (x1 : Int32) (x2 : Int32) (x3 : Int32) (x4 : Int32) (L : QH FA) (F : Nat) : rnG call 59 (F + 5) 70 [some (vR 0), some (vI x1), some (vI x2), some (vI x3), some (vI x4)] [] L = rnG call 59 F 29 [some (vR 0), some (vI x1), some (vI (x2 + 1)), some (vI x3), some (vI x4)] [] L := rfl
set_option maxRecDepth 100000 in
theorem bc35_59_11 (call : QC FA) (x1 : Int32) (x2 : Int32) (x3 : Int32) (x4 : Int32) (L : QH FA) (F : Nat) : rnG call 59 (F + 1) 56 [some (vR 0), some (vI x1), some (vI x2), some (vI x3), some (vI x4)] [] L = rnG call 59 F 57 [some (vR 0), some (vI x1), some (vI x2), some (vI x3), some (vI x4)] [vI ((-1))] L := rfl
set_option maxRecDepth 100000 in
theorem bc35_59_12 (call : QC FA) (x : Int32) (ls : List (Option PV)) (L : QH FA) (F : Nat) : rnG call 59 (F + 1) 57 ls [vI x] L = some (some (vI x), L) := rfl
set_option maxRecDepth 100000 in
theorem bc35_59_13 (call : QC FA) (x1 : Int32) (x2 : Int32) (x3 : Int32) (x4 : Int32) (z : Nat → Int32) (f : Nat → FA) (F : Nat) : rnG call 59 (F + 3) 38 [some (vR 0), some (vI x1), some (vI x2), some (vI x3), some (vI x4)] [] (LR z f) = rnG call 59 F 41 [some (vR 0), some (vI x1), some (vI x2), some (vI x3), some (vI x4)] [vI x4, vR 23] (LR z f) := rfl
set_option maxRecDepth 100000 in
theorem bc35_59_14 (call : QC FA) (x : Int32) (ls : List (Option PV)) (z : Nat → Int32) (f : Nat → FA) (F : Nat) : rnG call 59 (F + 1) 41 ls [vI x, vR 23] (LR z f) = bif (Nat.beq 0 0 && pin x 144) then rnG call 59 F 42 ls [vI (f 23 (ix x))] (LR z f) else none := rfl
set_option maxRecDepth 100000 in
theorem bc35_59_15 (call : QC FA) (x1 : Int32) (x2 : Int32) (x3 : Int32) (x4 : Int32) (s0 : Int32) (z : Nat → Int32) (f : Nat → FA) (F : Nat) : rnG call 59 (F + 3) 42 [some (vR 0), some (vI x1), some (vI x2), some (vI x3), some (vI x4)] [vI s0] (LR z f) = rnG call 59 F 45 [some (vR 0), some (vI x1), some (vI x2), some (vI x3), some (vI x4)] [vI x3, vR 23, vI s0] (LR z f) := rfl
set_option maxRecDepth 100000 in
theorem bc35_59_16 (call : QC FA) (x : Int32) (s0 : Int32) (ls : List (Option PV)) (z : Nat → Int32) (f : Nat → FA) (F : Nat) : rnG call 59 (F + 1) 45 ls [vI x, vR 23, vI s0] (LR z f) = bif (Nat.beq 0 0 && pin x 144) then rnG call 59 F 46 ls [vI (f 23 (ix x)), vI s0] (LR z f) else none := rfl
set_option maxRecDepth 100000 in
theorem bc35_59_17 (call : QC FA) (x y : Int32) (ls : List (Option PV)) (L : QH FA) (F : Nat) : rnG call 59 (F + 1) 46 ls [vI y, vI x] L = bif pcmp 5 x y then rnG call 59 F 49 ls [] L else rnG call 59 F 47 ls [] L := rfl
set_option maxRecDepth 100000 in
theorem bc35_59_18 (call : QC FA) (x1 : Int32) (x2 : Int32) (x3 : Int32) (x4 : Int32) (L : QH FA) (F : Nat) : rnG call 59 (F + 1) 49 [some (vR 0), some (vI x1), some (vI x2), some (vI x3), some (vI x4)] [] L = rnG call 59 F 50 [some (vR 0), some (vI x1), some (vI x2), some (vI x3), some (vI (x4 + 1))] [] L := rfl
set_option maxRecDepth 100000 in
theorem bc35_59_19 (call : QC FA) (x1 : Int32) (x2 : Int32) (x3 : Int32) (x4 : Int32) (L : QH FA) (F : Nat) : rnG call 59 (F + 1) 50 [some (vR 0), some (vI x1), some (vI x2), some (vI x3), some (vI x4)] [] L = rnG call 59 F 35 [some (vR 0), some (vI x1), some (vI x2), some (vI x3), some (vI x4)] [] L := rfl
set_option maxRecDepth 100000 in
theorem bc35_59_20 (call : QC FA) (x1 : Int32) (x2 : Int32) (x3 : Int32) (x4 : Int32) (L : QH FA) (F : Nat) : rnG call 59 (F + 2) 47 [some (vR 0), some (vI x1), some (vI x2), some (vI x3), some (vI x4)] [] L = rnG call 59 F 49 [some (vR 0), some (vI x1), some (vI x2), some (vI x4), some (vI x4)] [] L := rfl
theorem vcc35_59_35 (d : Nat) (x1 : Int32) (x2 : Int32) (x3 : Int32) (x4 : Int32) (z : Nat → Int32) (f : Nat → FA) (res : Option PV × QH FA) (H : ((144 ≤ I x4 → (pin x3 144 = true ∧ ((¬ f 23 (ix x3) = 0 → (pin x3 144 = true ∧ (pin x3 144 = true ∧ RC (mcall (d + 5)) (mP 59) 29 [some (vR 0), some (vI (x1 + (f 23 (ix x3)))), some (vI (x2 + 1)), some (vI x3), some (vI x4)] [] (LR z (uA f 23 (upd (f 23) (ix x3) 0))) res))) ∧ (f 23 (ix x3) = 0 → res = (some (vI ((-1))), LR z f))))) ∧ (I x4 < 144 → (pin x4 144 = true ∧ (pin x3 144 = true ∧ ((I (f 23 (ix x4)) ≤ I (f 23 (ix x3)) → RC (mcall (d + 5)) (mP 59) 35 [some (vR 0), some (vI x1), some (vI x2), some (vI x3), some (vI (x4 + 1))] [] (LR z f) res) ∧ (I (f 23 (ix x3)) < I (f 23 (ix x4)) → RC (mcall (d + 5)) (mP 59) 35 [some (vR 0), some (vI x1), some (vI x2), some (vI x4), some (vI (x4 + 1))] [] (LR z f) res))))))) : RC (mcall (d + 5)) (mP 59) 35 [some (vR 0), some (vI x1), some (vI x2), some (vI x3), some (vI x4)] [] (LR z f) res := by
  refine rc_b (i' := 37) (ls' := [some (vR 0), some (vI x1), some (vI x2), some (vI x3), some (vI x4)]) (st' := [vI 144, vI x4]) (L' := LR z f) 2 (bc35_59_1 (mcall (d + 5)) x1 x2 x3 x4 _) ?_
  refine rc_if (it := 51) (ie := 38) (ls' := [some (vR 0), some (vI x1), some (vI x2), some (vI x3), some (vI x4)]) (st' := []) (bc35_59_2 (mcall (d + 5)) x4 144 _ _) (fun q1 => ?_) (fun q1 => ?_)
  · have H := H.1 (cI3t q1 rfl rfl)
    refine rc_b (i' := 54) (ls' := [some (vR 0), some (vI x1), some (vI x2), some (vI x3), some (vI x4)]) (st' := [vI x3, vR 23]) (L' := LR z f) 3 (bc35_59_3 (mcall (d + 5)) x1 x2 x3 x4 z f) ?_
    obtain ⟨g1, H⟩ := H
    refine rc_g (i' := 55) (ls' := [some (vR 0), some (vI x1), some (vI x2), some (vI x3), some (vI x4)]) (st' := [vI (f 23 (ix x3))]) (L' := LR z f) (bc35_59_4 (mcall (d + 5)) x3 _ z f) (pinG g1) ?_
    refine rc_if (it := 58) (ie := 56) (ls' := [some (vR 0), some (vI x1), some (vI x2), some (vI x3), some (vI x4)]) (st' := []) (bc35_59_5 (mcall (d + 5)) (f 23 (ix x3)) _ _) (fun q2 => ?_) (fun q2 => ?_)
    · have H := H.1 (cI1t q2)
      refine rc_b (i' := 62) (ls' := [some (vR 0), some (vI x1), some (vI x2), some (vI x3), some (vI x4)]) (st' := [vI x3, vR 23, vI x1]) (L' := LR z f) 4 (bc35_59_6 (mcall (d + 5)) x1 x2 x3 x4 z f) ?_
      obtain ⟨g1, H⟩ := H
      refine rc_g (i' := 63) (ls' := [some (vR 0), some (vI x1), some (vI x2), some (vI x3), some (vI x4)]) (st' := [vI (f 23 (ix x3)), vI x1]) (L' := LR z f) (bc35_59_7 (mcall (d + 5)) x3 x1 _ z f) (pinG g1) ?_
      refine rc_b (i' := 69) (ls' := [some (vR 0), some (vI (x1 + (f 23 (ix x3)))), some (vI x2), some (vI x3), some (vI x4)]) (st' := [vI 0, vI x3, vR 23]) (L' := LR z f) 6 (bc35_59_8 (mcall (d + 5)) x1 x2 x3 x4 (f 23 (ix x3)) x1 z f) ?_
      obtain ⟨g1, H⟩ := H
      refine rc_g (i' := 70) (ls' := [some (vR 0), some (vI (x1 + (f 23 (ix x3)))), some (vI x2), some (vI x3), some (vI x4)]) (st' := []) (L' := LR z (uA f 23 (upd (f 23) (ix x3) 0))) (bc35_59_9 (mcall (d + 5)) x3 0 _ z f) (pinG g1) ?_
      refine rc_b (i' := 29) (ls' := [some (vR 0), some (vI (x1 + (f 23 (ix x3)))), some (vI (x2 + 1)), some (vI x3), some (vI x4)]) (st' := []) (L' := LR z (uA f 23 (upd (f 23) (ix x3) 0))) 5 (bc35_59_10 (mcall (d + 5)) (x1 + (f 23 (ix x3))) x2 x3 x4 _) ?_
      exact H
    · have H := H.2 (cI1f q2)
      refine rc_b (i' := 57) (ls' := [some (vR 0), some (vI x1), some (vI x2), some (vI x3), some (vI x4)]) (st' := [vI ((-1))]) (L' := LR z f) 1 (bc35_59_11 (mcall (d + 5)) x1 x2 x3 x4 _) ?_
      subst H
      exact rc_ret (bc35_59_12 (mcall (d + 5)) _ _ _)
  · have H := H.2 (cI3f q1 rfl rfl)
    refine rc_b (i' := 41) (ls' := [some (vR 0), some (vI x1), some (vI x2), some (vI x3), some (vI x4)]) (st' := [vI x4, vR 23]) (L' := LR z f) 3 (bc35_59_13 (mcall (d + 5)) x1 x2 x3 x4 z f) ?_
    obtain ⟨g1, H⟩ := H
    refine rc_g (i' := 42) (ls' := [some (vR 0), some (vI x1), some (vI x2), some (vI x3), some (vI x4)]) (st' := [vI (f 23 (ix x4))]) (L' := LR z f) (bc35_59_14 (mcall (d + 5)) x4 _ z f) (pinG g1) ?_
    refine rc_b (i' := 45) (ls' := [some (vR 0), some (vI x1), some (vI x2), some (vI x3), some (vI x4)]) (st' := [vI x3, vR 23, vI (f 23 (ix x4))]) (L' := LR z f) 3 (bc35_59_15 (mcall (d + 5)) x1 x2 x3 x4 (f 23 (ix x4)) z f) ?_
    obtain ⟨g1, H⟩ := H
    refine rc_g (i' := 46) (ls' := [some (vR 0), some (vI x1), some (vI x2), some (vI x3), some (vI x4)]) (st' := [vI (f 23 (ix x3)), vI (f 23 (ix x4))]) (L' := LR z f) (bc35_59_16 (mcall (d + 5)) x3 (f 23 (ix x4)) _ z f) (pinG g1) ?_
    refine rc_if (it := 49) (ie := 47) (ls' := [some (vR 0), some (vI x1), some (vI x2), some (vI x3), some (vI x4)]) (st' := []) (bc35_59_17 (mcall (d + 5)) (f 23 (ix x4)) (f 23 (ix x3)) _ _) (fun q3 => ?_) (fun q3 => ?_)
    · have H := H.1 (cI5t q3 rfl rfl)
      refine rc_b (i' := 50) (ls' := [some (vR 0), some (vI x1), some (vI x2), some (vI x3), some (vI (x4 + 1))]) (st' := []) (L' := LR z f) 1 (bc35_59_18 (mcall (d + 5)) x1 x2 x3 x4 _) ?_
      refine rc_b (i' := 35) (ls' := [some (vR 0), some (vI x1), some (vI x2), some (vI x3), some (vI (x4 + 1))]) (st' := []) (L' := LR z f) 1 (bc35_59_19 (mcall (d + 5)) x1 x2 x3 (x4 + 1) _) ?_
      exact H
    · have H := H.2 (cI5f q3 rfl rfl)
      refine rc_b (i' := 49) (ls' := [some (vR 0), some (vI x1), some (vI x2), some (vI x4), some (vI x4)]) (st' := []) (L' := LR z f) 2 (bc35_59_20 (mcall (d + 5)) x1 x2 x3 x4 _) ?_
      refine rc_b (i' := 50) (ls' := [some (vR 0), some (vI x1), some (vI x2), some (vI x4), some (vI (x4 + 1))]) (st' := []) (L' := LR z f) 1 (bc35_59_18 (mcall (d + 5)) x1 x2 x4 x4 _) ?_
      refine rc_b (i' := 35) (ls' := [some (vR 0), some (vI x1), some (vI x2), some (vI x4), some (vI (x4 + 1))]) (st' := []) (L' := LR z f) 1 (bc35_59_19 (mcall (d + 5)) x1 x2 x4 (x4 + 1) _) ?_
      exact H
