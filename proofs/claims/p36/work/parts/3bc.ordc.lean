/-! order: in how many rows, told by sums over what stands last -/
theorem or_code : ∀ s, s < 256 → ∀ i, i < 8 → bt s i = false → ((nI s ||| (1 <<< (nI i &&& 31))) = nI (s + 2 ^ i) ∧ s + 2 ^ i < 256 ∧ bt (s + 2 ^ i) i = true ∧ rb (s + 2 ^ i) i = s) := by decide +kernel
theorem rb_add : ∀ s, s < 256 → ∀ i, i < 8 → bt s i = true → s = rb s i + 2 ^ i := by decide +kernel
theorem bt_code0 : ∀ s, s < 256 → ∀ i, i < 8 → (if bt s i = true then ¬ (nI s >>> (nI i &&& 31)) &&& 1 = 0 else (nI s >>> (nI i &&& 31)) &&& 1 = 0) := by decide +kernel
theorem one_0 : ∀ b, b < 256 → ∀ i, i < 8 → bt b i = false → nI b &&& ((1 : Int32) <<< (nI i &&& 31)) = 0 := by decide +kernel
theorem cmp_n (b s m : Int32) : b &&& ((s &&& (m ^^^ (-1))) ^^^ (-1)) = (b &&& (s ^^^ (-1))) ||| (b &&& m) := by
  rw [← Int32.toBitVec_inj]
  show b.toBitVec &&& ((s.toBitVec &&& (m.toBitVec ^^^ (-1 : Int32).toBitVec)) ^^^ (-1 : Int32).toBitVec) = (b.toBitVec &&& (s.toBitVec ^^^ (-1 : Int32).toBitVec)) ||| (b.toBitVec &&& m.toBitVec)
  have e : (-1 : Int32).toBitVec = BitVec.allOnes 32 := by decide
  rw [e]
  ext i hi
  simp only [BitVec.getElem_and, BitVec.getElem_or, BitVec.getElem_xor, BitVec.getElem_allOnes]
  cases b.toBitVec[i] <;> cases s.toBitVec[i] <;> cases m.toBitVec[i] <;> rfl
/-- whether all that stand before k are among s -/
def okOr (B : FA) (s k : Nat) : Bool := decide (B k &&& (nI s ^^^ (-1)) = 0)
def BOr (B : FA) : Prop := ∀ k, k < 8 → ∃ b, b < 256 ∧ bt b k = false ∧ B k = nI b
theorem ok_rb {B : FA} (hB : BOr B) {s i : Nat} (hs : s < 256) (hi : i < 8) : okOr B (rb s i) i = okOr B s i := by
  obtain ⟨b, h1, h2, h3⟩ := hB i hi
  unfold okOr
  rw [h3, ← rb_code s hs i hi, cmp_n, one_0 b h1 i hi h2, Int32.or_zero]
def osg (p : Nat → Bool) (v : Nat → Int32) : Nat → Int32
  | 0 => 0
  | n + 1 => osg p v n + (if p n = true then v n else 0)
theorem osg_cong {p q : Nat → Bool} {v w : Nat → Int32} : ∀ n, (∀ k, k < n → q k = p k) → (∀ k, k < n → p k = true → w k = v k) → osg q w n = osg p v n := by
  intro n
  induction n with
  | zero => intro _ _; rfl
  | succ n ih =>
    intro h1 h2
    show osg q w n + (if q n = true then w n else 0) = osg p v n + (if p n = true then v n else 0)
    rw [ih (fun k hk => h1 k (by omega)) (fun k hk => h2 k (by omega)), h1 n (by omega)]
    by_cases c : p n = true
    · rw [if_pos c, if_pos c, h2 n (by omega) c]
    · rw [if_neg c, if_neg c]
theorem osg_z {p : Nat → Bool} {v : Nat → Int32} : ∀ n, (∀ k, k < n → p k = false) → osg p v n = 0 := by
  intro n
  induction n with
  | zero => intro _; rfl
  | succ n ih =>
    intro h
    show osg p v n + (if p n = true then v n else 0) = 0
    rw [ih (fun k hk => h k (by omega)), h n (by omega), if_neg (by decide)]
    rfl
theorem osg_add {p q : Nat → Bool} {v : Nat → Int32} {i : Nat} (hp : p i = false) (hq : q i = true) : ∀ n, i < n → (∀ k, k < n → k ≠ i → q k = p k) → osg q v n = osg p v n + v i := by
  intro n
  induction n with
  | zero => intro h; omega
  | succ n ih =>
    intro hi h
    show osg q v n + (if q n = true then v n else 0) = osg p v n + (if p n = true then v n else 0) + v i
    by_cases c : i = n
    · subst c
      rw [hp, hq, if_pos rfl, if_neg (by decide), osg_cong (p := p) (v := v) i (fun k hk => h k (by omega) (by omega)) (fun _ _ _ => rfl), Int32.add_zero]
    · rw [ih (by omega) (fun k hk => h k (by omega)), h n (by omega) (fun e => c e.symm), Int32.add_assoc, Int32.add_assoc, Int32.add_comm (v i)]
def base0 (s : Nat) : Int32 := if s = 0 then 1 else 0
def HW (B : FA) (W : Nat → Int32) (m : Nat) : Prop := ∀ s, s < m → W s = base0 s + osg (fun k => bt s k && okOr B (rb s k) k) (fun k => W (rb s k)) 8
/-- the ways to T of which the last step went out from before (s, i) -/
def POr (B : FA) (s i T k : Nat) : Bool := bt T k && (decide (rb T k < s ∨ (rb T k = s ∧ k < i)) && okOr B (rb T k) k)
def InvO (B : FA) (W : Nat → Int32) (s i : Nat) (F : FA) : Prop := ∀ T, T < 256 → F T = base0 T + osg (POr B s i T) (fun k => W (rb T k)) 8
theorem InvO_W {B : FA} {W : Nat → Int32} (hW : HW B W 256) {s i : Nat} {F : FA} (h : InvO B W s i F) (hs : s < 256) : F s = W s := by
  rw [h s hs, hW s hs, osg_cong (p := fun k => bt s k && okOr B (rb s k) k) (v := fun k => W (rb s k)) 8 (fun k hk => ?_) (fun _ _ _ => rfl)]
  show (bt s k && (decide (rb s k < s ∨ (rb s k = s ∧ k < i)) && okOr B (rb s k) k)) = (bt s k && okOr B (rb s k) k)
  cases c : bt s k with
  | false => rw [Bool.false_and, Bool.false_and]
  | true => rw [decide_eq_true (Or.inl (rb_lt s hs k hk c).1), Bool.true_and]
theorem InvO_n {B : FA} {W : Nat → Int32} {s i : Nat} {F : FA} (h : InvO B W s i F) (hi : i < 8) (hc : bt s i = true ∨ okOr B s i = false) : InvO B W s (i + 1) F := by
  intro T hT
  rw [h T hT, osg_cong (p := POr B s (i + 1) T) (v := fun k => W (rb T k)) 8 (fun k hk => ?_) (fun _ _ _ => rfl)]
  show (bt T k && (decide (rb T k < s ∨ (rb T k = s ∧ k < i)) && okOr B (rb T k) k)) = (bt T k && (decide (rb T k < s ∨ (rb T k = s ∧ k < i + 1)) && okOr B (rb T k) k))
  cases c : bt T k with
  | false => rw [Bool.false_and, Bool.false_and]
  | true =>
    by_cases q : rb T k = s ∧ k = i
    · obtain ⟨q1, q2⟩ := q
      subst q2
      have r3 := (rb_lt T hT k hk c).2.2
      rw [q1] at r3
      have ho : okOr B s k = false := by
        rcases hc with hc | hc
        · rw [r3] at hc
          cases hc
        · exact hc
      rw [q1, ho]
      simp only [Bool.and_false]
    · rw [show decide (rb T k < s ∨ (rb T k = s ∧ k < i)) = decide (rb T k < s ∨ (rb T k = s ∧ k < i + 1)) from decide_eq_decide.mpr (by omega)]
theorem InvO_a {B : FA} {W : Nat → Int32} {s i : Nat} {F : FA} (h : InvO B W s i F) (hs : s < 256) (hi : i < 8) (hb : bt s i = false) (ho : okOr B s i = true) (hF : F s = W s) : InvO B W s (i + 1) (upd F (s + 2 ^ i) (F (s + 2 ^ i) + F s)) := by
  obtain ⟨-, t2, t3, t4⟩ := or_code s hs i hi hb
  intro T hT
  by_cases e : T = s + 2 ^ i
  · subst e
    rw [pk_us, h _ hT, hF, osg_add (p := POr B s i (s + 2 ^ i)) (q := POr B s (i + 1) (s + 2 ^ i)) (v := fun k => W (rb (s + 2 ^ i) k)) (i := i) (by
      show (bt (s + 2 ^ i) i && (decide (rb (s + 2 ^ i) i < s ∨ (rb (s + 2 ^ i) i = s ∧ i < i)) && okOr B (rb (s + 2 ^ i) i) i)) = false
      rw [t4, decide_eq_false (by omega), Bool.false_and, Bool.and_false]) (by
      show (bt (s + 2 ^ i) i && (decide (rb (s + 2 ^ i) i < s ∨ (rb (s + 2 ^ i) i = s ∧ i < i + 1)) && okOr B (rb (s + 2 ^ i) i) i)) = true
      rw [t3, t4, ho, decide_eq_true (by omega)]
      rfl) 8 hi (fun k hk q => by
      show (bt (s + 2 ^ i) k && (decide (rb (s + 2 ^ i) k < s ∨ (rb (s + 2 ^ i) k = s ∧ k < i + 1)) && okOr B (rb (s + 2 ^ i) k) k)) = (bt (s + 2 ^ i) k && (decide (rb (s + 2 ^ i) k < s ∨ (rb (s + 2 ^ i) k = s ∧ k < i)) && okOr B (rb (s + 2 ^ i) k) k))
      rw [show decide (rb (s + 2 ^ i) k < s ∨ (rb (s + 2 ^ i) k = s ∧ k < i + 1)) = decide (rb (s + 2 ^ i) k < s ∨ (rb (s + 2 ^ i) k = s ∧ k < i)) from decide_eq_decide.mpr (by omega)]), t4, Int32.add_assoc]
  · rw [pk_un e, h T hT, osg_cong (p := POr B s (i + 1) T) (v := fun k => W (rb T k)) 8 (fun k hk => ?_) (fun _ _ _ => rfl)]
    show (bt T k && (decide (rb T k < s ∨ (rb T k = s ∧ k < i)) && okOr B (rb T k) k)) = (bt T k && (decide (rb T k < s ∨ (rb T k = s ∧ k < i + 1)) && okOr B (rb T k) k))
    cases c : bt T k with
    | false => rw [Bool.false_and, Bool.false_and]
    | true =>
      have hr := rb_add T hT k hk c
      have q : ¬ (rb T k = s ∧ k = i) := fun q => e (by rw [hr, q.1, q.2])
      rw [show decide (rb T k < s ∨ (rb T k = s ∧ k < i)) = decide (rb T k < s ∨ (rb T k = s ∧ k < i + 1)) from decide_eq_decide.mpr (by omega)]
theorem InvO_8 {B : FA} {W : Nat → Int32} {s : Nat} {F : FA} (h : InvO B W s 8 F) : InvO B W (s + 1) 0 F := by
  intro T hT
  rw [h T hT, osg_cong (p := POr B (s + 1) 0 T) (v := fun k => W (rb T k)) 8 (fun k hk => ?_) (fun _ _ _ => rfl)]
  show (bt T k && (decide (rb T k < s ∨ (rb T k = s ∧ k < 8)) && okOr B (rb T k) k)) = (bt T k && (decide (rb T k < s + 1 ∨ (rb T k = s + 1 ∧ k < 0)) && okOr B (rb T k) k))
  rw [show decide (rb T k < s ∨ (rb T k = s ∧ k < 8)) = decide (rb T k < s + 1 ∨ (rb T k = s + 1 ∧ k < 0)) from decide_eq_decide.mpr (by omega)]
theorem InvO_0 {B : FA} {W : Nat → Int32} {F : FA} (h : ∀ T, T < 256 → F T = base0 T) : InvO B W 0 0 F := by
  intro T hT
  rw [h T hT, osg_z 8 (fun k hk => by
    show (bt T k && (decide (rb T k < 0 ∨ (rb T k = 0 ∧ k < 0)) && okOr B (rb T k) k)) = false
    rw [decide_eq_false (by omega), Bool.false_and, Bool.and_false]), Int32.add_zero]
/-- what is told for order -/
def CPo (n : Nat) (a b : Nat → Nat) (g : FA) : Prop := ∀ j, j < n → a j < 8 ∧ b j < 8 ∧ a j ≠ b j ∧ g j = nI (a j * 256 + b j)
theorem dec_o {a b : Nat} (ha : a < 8) (hb : b < 8) : nI (a * 256 + b) / 256 = nI a ∧ nI (a * 256 + b) - nI (a * 256 + b) / 256 * 256 = nI b := by
  constructor
  · rw [ndiv (a := a * 256 + b) (b := 256) rfl (by omega) (by omega) (by omega)]
    congr 1
    omega
  · rw [nrem (a := a * 256 + b) (b := 256) rfl (by omega) (by omega) (by omega)]
    congr 1
    omega
theorem or_any : ∀ v, v < 256 → ∀ a, a < 8 → ∃ w, w < 256 ∧ (nI v ||| (1 <<< (nI a &&& 31))) = nI w ∧ ∀ k, k < 8 → k ≠ a → bt w k = bt v k := by
  have h : ∀ v, v < 256 → ∀ a, a < 8 → ((nI v ||| (1 <<< (nI a &&& 31))) = nI (if bt v a = true then v else v + 2 ^ a) ∧ (if bt v a = true then v else v + 2 ^ a) < 256 ∧ ∀ k, k < 8 → k ≠ a → bt (if bt v a = true then v else v + 2 ^ a) k = bt v k) := by decide +kernel
  intro v hv a ha
  obtain ⟨h1, h2, h3⟩ := h v hv a ha
  exact ⟨_, h2, h1, h3⟩
theorem bef_BOr {a b : Nat → Nat} : ∀ n, (∀ j, j < n → a j < 8 ∧ b j < 8 ∧ a j ≠ b j) → BOr (bef a b n) := by
  intro n
  induction n with
  | zero => intro _ k hk; exact ⟨0, by omega, by unfold bt; simp, rfl⟩
  | succ n ih =>
    intro h k hk
    obtain ⟨v, v1, v2, v3⟩ := ih (fun j hj => h j (by omega)) k hk
    obtain ⟨a8, b8, ab⟩ := h n (by omega)
    show ∃ w, w < 256 ∧ bt w k = false ∧ b1u (bef a b n) (b n) (a n) k = nI w
    unfold b1u
    by_cases q : k = b n
    · subst q
      rw [pk_us, v3]
      obtain ⟨w, w1, w2, w3⟩ := or_any v v1 (a n) a8
      exact ⟨w, w1, by rw [w3 _ hk (fun e => ab e.symm)]; exact v2, w2⟩
    · rw [pk_un q]
      exact ⟨v, v1, v2, v3⟩
section TLs
variable {u : Nat → Option Nat}
set_option maxRecDepth 100000 in
theorem bf_2_1 (call : QC FA) (x1 : Int32) (o2 : Option PV) (o3 : Option PV) (z : Nat → Int32) (f : Nat → FA) (F : Nat) : rnG call 2 (F + 5) 0 [some (vR 22), some (vI x1), o2, o3] [] (LT u z f) = rnG call 2 F 5 [some (vR 22), some (vI x1), some (vI 0), some (vI (nI 401))] [] (LT u z f) := rfl
theorem vcf_2_0 (call : QC FA) (x1 : Int32) (o2 : Option PV) (o3 : Option PV) (z : Nat → Int32) (f : Nat → FA) (res : Option PV × QH FA) (H : RC call (mP 2) 5 [some (vR 22), some (vI x1), some (vI 0), some (vI (nI 401))] [] (LT u z f) res) : RC call (mP 2) 0 [some (vR 22), some (vI x1), o2, o3] [] (LT u z f) res := by
  refine rc_b (i' := 5) (ls' := [some (vR 22), some (vI x1), some (vI 0), some (vI (nI 401))]) (st' := []) (L' := LT u z f) 5 (bf_2_1 call x1 o2 o3 z f) ?_
  exact H
set_option maxRecDepth 100000 in
theorem bfc_2_1 (call : QC FA) (x1 : Int32) (x2 : Int32) (x3 : Int32) (L : QH FA) (F : Nat) : rnG call 2 (F + 2) 5 [some (vR 22), some (vI x1), some (vI x2), some (vI x3)] [] L = rnG call 2 F 7 [some (vR 22), some (vI x1), some (vI x2), some (vI x3)] [vI x3, vI x2] L := rfl
set_option maxRecDepth 100000 in
theorem bfc_2_2 (call : QC FA) (x y : Int32) (ls : List (Option PV)) (L : QH FA) (F : Nat) : rnG call 2 (F + 1) 7 ls [vI y, vI x] L = bif pcmp 3 x y then rnG call 2 F 14 ls [] L else rnG call 2 F 8 ls [] L := rfl
set_option maxRecDepth 100000 in
theorem bfc_2_3 (call : QC FA) (ls : List (Option PV)) (L : QH FA) (F : Nat) : rnG call 2 (F + 1) 14 ls [] L = some (none, L) := rfl
set_option maxRecDepth 100000 in
theorem bfc_2_4 (call : QC FA) (x1 : Int32) (x2 : Int32) (x3 : Int32) (L : QH FA) (F : Nat) : rnG call 2 (F + 3) 8 [some (vR 22), some (vI x1), some (vI x2), some (vI x3)] [] L = rnG call 2 F 11 [some (vR 22), some (vI x1), some (vI x2), some (vI x3)] [vI x1, vI x2, vR 22] L := rfl
set_option maxRecDepth 100000 in
theorem bfc_2_5 (call : QC FA) (x y : Int32) (ls : List (Option PV)) (z : Nat → Int32) (f : Nat → FA) (F : Nat) : rnG call 2 (F + 1) 11 ls [vI y, vI x, vR 22] (LT u z f) = bif (Nat.beq 0 0 && pin x 401) then rnG call 2 F 12 ls [] (LT u z (uA f 22 (upd (f 22) (ix x) y))) else none := rfl
set_option maxRecDepth 100000 in
theorem bfc_2_6 (call : QC FA) (x1 : Int32) (x2 : Int32) (x3 : Int32) (L : QH FA) (F : Nat) : rnG call 2 (F + 1) 12 [some (vR 22), some (vI x1), some (vI x2), some (vI x3)] [] L = rnG call 2 F 13 [some (vR 22), some (vI x1), some (vI (x2 + 1)), some (vI x3)] [] L := rfl
set_option maxRecDepth 100000 in
theorem bfc_2_7 (call : QC FA) (x1 : Int32) (x2 : Int32) (x3 : Int32) (L : QH FA) (F : Nat) : rnG call 2 (F + 1) 13 [some (vR 22), some (vI x1), some (vI x2), some (vI x3)] [] L = rnG call 2 F 5 [some (vR 22), some (vI x1), some (vI x2), some (vI x3)] [] L := rfl
theorem vcfc_2_5 (call : QC FA) (x1 : Int32) (x2 : Int32) (x3 : Int32) (z : Nat → Int32) (f : Nat → FA) (res : Option PV × QH FA) (H : ((I x3 ≤ I x2 → res = (none, LT u z f)) ∧ (I x2 < I x3 → (pin x2 401 = true ∧ RC call (mP 2) 5 [some (vR 22), some (vI x1), some (vI (x2 + 1)), some (vI x3)] [] (LT u z (uA f 22 (upd (f 22) (ix x2) x1))) res)))) : RC call (mP 2) 5 [some (vR 22), some (vI x1), some (vI x2), some (vI x3)] [] (LT u z f) res := by
  refine rc_b (i' := 7) (ls' := [some (vR 22), some (vI x1), some (vI x2), some (vI x3)]) (st' := [vI x3, vI x2]) (L' := LT u z f) 2 (bfc_2_1 call x1 x2 x3 _) ?_
  refine rc_if (it := 14) (ie := 8) (ls' := [some (vR 22), some (vI x1), some (vI x2), some (vI x3)]) (st' := []) (bfc_2_2 call x2 x3 _ _) (fun q1 => ?_) (fun q1 => ?_)
  · have H := H.1 (cI3t q1 rfl rfl)
    subst H
    exact rc_ret (bfc_2_3 call _ _)
  · have H := H.2 (cI3f q1 rfl rfl)
    refine rc_b (i' := 11) (ls' := [some (vR 22), some (vI x1), some (vI x2), some (vI x3)]) (st' := [vI x1, vI x2, vR 22]) (L' := LT u z f) 3 (bfc_2_4 call x1 x2 x3 _) ?_
    obtain ⟨g1, H⟩ := H
    refine rc_g (i' := 12) (ls' := [some (vR 22), some (vI x1), some (vI x2), some (vI x3)]) (st' := []) (L' := LT u z (uA f 22 (upd (f 22) (ix x2) x1))) (bfc_2_5 call x2 x1 _ z f) (pinG g1) ?_
    refine rc_b (i' := 13) (ls' := [some (vR 22), some (vI x1), some (vI (x2 + 1)), some (vI x3)]) (st' := []) (L' := LT u z (uA f 22 (upd (f 22) (ix x2) x1))) 1 (bfc_2_6 call x1 x2 x3 _) ?_
    refine rc_b (i' := 5) (ls' := [some (vR 22), some (vI x1), some (vI (x2 + 1)), some (vI x3)]) (st' := []) (L' := LT u z (uA f 22 (upd (f 22) (ix x2) x1))) 1 (bfc_2_7 call x1 (x2 + 1) x3 _) ?_
    exact H
set_option maxRecDepth 100000 in
theorem bg_2_1 (call : QC FA) (x1 : Int32) (o2 : Option PV) (o3 : Option PV) (z : Nat → Int32) (f : Nat → FA) (F : Nat) : rnG call 2 (F + 5) 0 [some (vR 23), some (vI x1), o2, o3] [] (LT u z f) = rnG call 2 F 5 [some (vR 23), some (vI x1), some (vI 0), some (vI (nI 401))] [] (LT u z f) := rfl
theorem vcg_2_0 (call : QC FA) (x1 : Int32) (o2 : Option PV) (o3 : Option PV) (z : Nat → Int32) (f : Nat → FA) (res : Option PV × QH FA) (H : RC call (mP 2) 5 [some (vR 23), some (vI x1), some (vI 0), some (vI (nI 401))] [] (LT u z f) res) : RC call (mP 2) 0 [some (vR 23), some (vI x1), o2, o3] [] (LT u z f) res := by
  refine rc_b (i' := 5) (ls' := [some (vR 23), some (vI x1), some (vI 0), some (vI (nI 401))]) (st' := []) (L' := LT u z f) 5 (bg_2_1 call x1 o2 o3 z f) ?_
  exact H
set_option maxRecDepth 100000 in
theorem bgc_2_1 (call : QC FA) (x1 : Int32) (x2 : Int32) (x3 : Int32) (L : QH FA) (F : Nat) : rnG call 2 (F + 2) 5 [some (vR 23), some (vI x1), some (vI x2), some (vI x3)] [] L = rnG call 2 F 7 [some (vR 23), some (vI x1), some (vI x2), some (vI x3)] [vI x3, vI x2] L := rfl
set_option maxRecDepth 100000 in
theorem bgc_2_2 (call : QC FA) (x y : Int32) (ls : List (Option PV)) (L : QH FA) (F : Nat) : rnG call 2 (F + 1) 7 ls [vI y, vI x] L = bif pcmp 3 x y then rnG call 2 F 14 ls [] L else rnG call 2 F 8 ls [] L := rfl
set_option maxRecDepth 100000 in
theorem bgc_2_3 (call : QC FA) (ls : List (Option PV)) (L : QH FA) (F : Nat) : rnG call 2 (F + 1) 14 ls [] L = some (none, L) := rfl
set_option maxRecDepth 100000 in
theorem bgc_2_4 (call : QC FA) (x1 : Int32) (x2 : Int32) (x3 : Int32) (L : QH FA) (F : Nat) : rnG call 2 (F + 3) 8 [some (vR 23), some (vI x1), some (vI x2), some (vI x3)] [] L = rnG call 2 F 11 [some (vR 23), some (vI x1), some (vI x2), some (vI x3)] [vI x1, vI x2, vR 23] L := rfl
set_option maxRecDepth 100000 in
theorem bgc_2_5 (call : QC FA) (x y : Int32) (ls : List (Option PV)) (z : Nat → Int32) (f : Nat → FA) (F : Nat) : rnG call 2 (F + 1) 11 ls [vI y, vI x, vR 23] (LT u z f) = bif (Nat.beq 0 0 && pin x 401) then rnG call 2 F 12 ls [] (LT u z (uA f 23 (upd (f 23) (ix x) y))) else none := rfl
set_option maxRecDepth 100000 in
theorem bgc_2_6 (call : QC FA) (x1 : Int32) (x2 : Int32) (x3 : Int32) (L : QH FA) (F : Nat) : rnG call 2 (F + 1) 12 [some (vR 23), some (vI x1), some (vI x2), some (vI x3)] [] L = rnG call 2 F 13 [some (vR 23), some (vI x1), some (vI (x2 + 1)), some (vI x3)] [] L := rfl
set_option maxRecDepth 100000 in
theorem bgc_2_7 (call : QC FA) (x1 : Int32) (x2 : Int32) (x3 : Int32) (L : QH FA) (F : Nat) : rnG call 2 (F + 1) 13 [some (vR 23), some (vI x1), some (vI x2), some (vI x3)] [] L = rnG call 2 F 5 [some (vR 23), some (vI x1), some (vI x2), some (vI x3)] [] L := rfl
theorem vcgc_2_5 (call : QC FA) (x1 : Int32) (x2 : Int32) (x3 : Int32) (z : Nat → Int32) (f : Nat → FA) (res : Option PV × QH FA) (H : ((I x3 ≤ I x2 → res = (none, LT u z f)) ∧ (I x2 < I x3 → (pin x2 401 = true ∧ RC call (mP 2) 5 [some (vR 23), some (vI x1), some (vI (x2 + 1)), some (vI x3)] [] (LT u z (uA f 23 (upd (f 23) (ix x2) x1))) res)))) : RC call (mP 2) 5 [some (vR 23), some (vI x1), some (vI x2), some (vI x3)] [] (LT u z f) res := by
  refine rc_b (i' := 7) (ls' := [some (vR 23), some (vI x1), some (vI x2), some (vI x3)]) (st' := [vI x3, vI x2]) (L' := LT u z f) 2 (bgc_2_1 call x1 x2 x3 _) ?_
  refine rc_if (it := 14) (ie := 8) (ls' := [some (vR 23), some (vI x1), some (vI x2), some (vI x3)]) (st' := []) (bgc_2_2 call x2 x3 _ _) (fun q1 => ?_) (fun q1 => ?_)
  · have H := H.1 (cI3t q1 rfl rfl)
    subst H
    exact rc_ret (bgc_2_3 call _ _)
  · have H := H.2 (cI3f q1 rfl rfl)
    refine rc_b (i' := 11) (ls' := [some (vR 23), some (vI x1), some (vI x2), some (vI x3)]) (st' := [vI x1, vI x2, vR 23]) (L' := LT u z f) 3 (bgc_2_4 call x1 x2 x3 _) ?_
    obtain ⟨g1, H⟩ := H
    refine rc_g (i' := 12) (ls' := [some (vR 23), some (vI x1), some (vI x2), some (vI x3)]) (st' := []) (L' := LT u z (uA f 23 (upd (f 23) (ix x2) x1))) (bgc_2_5 call x2 x1 _ z f) (pinG g1) ?_
    refine rc_b (i' := 13) (ls' := [some (vR 23), some (vI x1), some (vI (x2 + 1)), some (vI x3)]) (st' := []) (L' := LT u z (uA f 23 (upd (f 23) (ix x2) x1))) 1 (bgc_2_6 call x1 x2 x3 _) ?_
    refine rc_b (i' := 5) (ls' := [some (vR 23), some (vI x1), some (vI (x2 + 1)), some (vI x3)]) (st' := []) (L' := LT u z (uA f 23 (upd (f 23) (ix x2) x1))) 1 (bgc_2_7 call x1 (x2 + 1) x3 _) ?_
    exact H
set_option maxRecDepth 100000 in
theorem b1_1 (call : QC FA) (o2 : Option PV) (o3 : Option PV) (o4 : Option PV) (z : Nat → Int32) (f : Nat → FA) (F : Nat) : rnG call 1 (F + 3) 0 [some (vR 21), some (vR 19), o2, o3, o4] [] (LT u z f) = rnG call 1 F 3 [some (vR 21), some (vR 19), o2, o3, o4] [vI 0, vR 23] (LT u z f) := rfl
set_option maxRecDepth 100000 in
theorem b1_2 (call : QC FA) (a1 : Int32) (ls : List (Option PV)) (z : Nat → Int32) (f : Nat → FA) (F : Nat) : rnG call 1 (F + 1) 3 ls [vI a1, vR 23] (LT u z f) = cbd (call 2 [vR 23, vI a1] (LT u z f)) (fun r L' => rnG call 1 F 4 ls (r.toList ++ []) L') := pcZ (ih := rnG call 1 F) (call := call) (a := 2) (b := 2) (t := 4) (ls := ls) (As := [vR 23, vI a1]) (st' := []) (L := LT u z f) rfl rfl
set_option maxRecDepth 100000 in
theorem b1_3 (call : QC FA) (o2 : Option PV) (o3 : Option PV) (o4 : Option PV) (L : QH FA) (F : Nat) : rnG call 1 (F + 2) 4 [some (vR 21), some (vR 19), o2, o3, o4] [] L = rnG call 1 F 6 [some (vR 21), some (vR 19), some (vI 0), o3, o4] [] L := rfl
theorem vc1_0 (call : QC FA) (o2 : Option PV) (o3 : Option PV) (o4 : Option PV) (z : Nat → Int32) (f : Nat → FA) (res : Option PV × QH FA) (H : (∃ (z1 : Nat → Int32) (f1 : Nat → FA), call 2 [vR 23, vI 0] (LT u z f) = some (none, LT u z1 f1) ∧ RC call (mP 1) 6 [some (vR 21), some (vR 19), some (vI 0), o3, o4] [] (LT u z1 f1) res)) : RC call (mP 1) 0 [some (vR 21), some (vR 19), o2, o3, o4] [] (LT u z f) res := by
  refine rc_b (i' := 3) (ls' := [some (vR 21), some (vR 19), o2, o3, o4]) (st' := [vI 0, vR 23]) (L' := LT u z f) 3 (b1_1 call o2 o3 o4 z f) ?_
  obtain ⟨z1, f1, hc, H⟩ := H
  refine rc_call (t := 4) (ls' := [some (vR 21), some (vR 19), o2, o3, o4]) (st' := []) (b1_2 call 0 _ z f) hc ?_
  show RC call (mP 1) 4 [some (vR 21), some (vR 19), o2, o3, o4] [] (LT u z1 f1) res
  refine rc_b (i' := 6) (ls' := [some (vR 21), some (vR 19), some (vI 0), o3, o4]) (st' := []) (L' := LT u z1 f1) 2 (b1_3 call o2 o3 o4 _) ?_
  exact H
set_option maxRecDepth 100000 in
theorem bc6_1_1 (call : QC FA) (x2 : Int32) (o3 : Option PV) (o4 : Option PV) (z : Nat → Int32) (f : Nat → FA) (F : Nat) : rnG call 1 (F + 3) 6 [some (vR 21), some (vR 19), some (vI x2), o3, o4] [] (LT u z f) = rnG call 1 F 9 [some (vR 21), some (vR 19), some (vI x2), o3, o4] [vI (z 19), vI x2] (LT u z f) := rfl
set_option maxRecDepth 100000 in
theorem bc6_1_2 (call : QC FA) (x y : Int32) (ls : List (Option PV)) (L : QH FA) (F : Nat) : rnG call 1 (F + 1) 9 ls [vI y, vI x] L = bif pcmp 3 x y then rnG call 1 F 37 ls [] L else rnG call 1 F 10 ls [] L := rfl
set_option maxRecDepth 100000 in
theorem bc6_1_3 (call : QC FA) (x2 : Int32) (o3 : Option PV) (o4 : Option PV) (z : Nat → Int32) (f : Nat → FA) (F : Nat) : rnG call 1 (F + 3) 37 [some (vR 21), some (vR 19), some (vI x2), o3, o4] [] (LT u z f) = rnG call 1 F 40 [some (vR 21), some (vR 19), some (vI x2), o3, o4] [vI 0, vR 22] (LT u z f) := rfl
set_option maxRecDepth 100000 in
theorem bc6_1_4 (call : QC FA) (a1 : Int32) (ls : List (Option PV)) (z : Nat → Int32) (f : Nat → FA) (F : Nat) : rnG call 1 (F + 1) 40 ls [vI a1, vR 22] (LT u z f) = cbd (call 2 [vR 22, vI a1] (LT u z f)) (fun r L' => rnG call 1 F 41 ls (r.toList ++ []) L') := pcZ (ih := rnG call 1 F) (call := call) (a := 2) (b := 2) (t := 41) (ls := ls) (As := [vR 22, vI a1]) (st' := []) (L := LT u z f) rfl rfl
set_option maxRecDepth 100000 in
theorem bc6_1_5 (call : QC FA) (x2 : Int32) (o3 : Option PV) (o4 : Option PV) (z : Nat → Int32) (f : Nat → FA) (F : Nat) : rnG call 1 (F + 4) 41 [some (vR 21), some (vR 19), some (vI x2), o3, o4] [] (LT u z f) = rnG call 1 F 45 [some (vR 21), some (vR 19), some (vI x2), o3, o4] [vI 1, vI 0, vR 22] (LT u z f) := rfl
set_option maxRecDepth 100000 in
theorem bc6_1_6 (call : QC FA) (x y : Int32) (ls : List (Option PV)) (z : Nat → Int32) (f : Nat → FA) (F : Nat) : rnG call 1 (F + 1) 45 ls [vI y, vI x, vR 22] (LT u z f) = bif (Nat.beq 0 0 && pin x 401) then rnG call 1 F 46 ls [] (LT u z (uA f 22 (upd (f 22) (ix x) y))) else none := rfl
set_option maxRecDepth 100000 in
theorem bc6_1_7 (call : QC FA) (x2 : Int32) (o3 : Option PV) (o4 : Option PV) (L : QH FA) (F : Nat) : rnG call 1 (F + 4) 46 [some (vR 21), some (vR 19), some (vI x2), o3, o4] [] L = rnG call 1 F 50 [some (vR 21), some (vR 19), some (vI 255), some (vI 0), o4] [] L := rfl
set_option maxRecDepth 100000 in
theorem bc6_1_8 (call : QC FA) (x2 : Int32) (o3 : Option PV) (o4 : Option PV) (L : QH FA) (F : Nat) : rnG call 1 (F + 2) 10 [some (vR 21), some (vR 19), some (vI x2), o3, o4] [] L = rnG call 1 F 12 [some (vR 21), some (vR 19), some (vI x2), o3, o4] [vI x2, vR 19] L := rfl
set_option maxRecDepth 100000 in
theorem bc6_1_9 (call : QC FA) (a0 : Int32) (ls : List (Option PV)) (z : Nat → Int32) (f : Nat → FA) (F : Nat) : rnG call 1 (F + 1) 12 ls [vI a0, vR 19] (LT u z f) = cbd (call 3 [vR 19, vI a0] (LT u z f)) (fun r L' => rnG call 1 F 13 ls (r.toList ++ []) L') := pcY (ih := rnG call 1 F) (call := call) (a := 3) (b := 1) (v := 9) (t := 13) (x := 19) (ls := ls) (As := [vI a0]) (st' := []) (L := LT u z f) rfl rfl rfl
set_option maxRecDepth 100000 in
theorem bc6_1_10 (call : QC FA) (x2 : Int32) (o3 : Option PV) (o4 : Option PV) (s0 : Int32) (L : QH FA) (F : Nat) : rnG call 1 (F + 1) 13 [some (vR 21), some (vR 19), some (vI x2), o3, o4] [vI s0] L = rnG call 1 F 14 [some (vR 21), some (vR 19), some (vI x2), o3, o4] [vI 256, vI s0] L := rfl
set_option maxRecDepth 100000 in
theorem bc6_1_11 (call : QC FA) (x y : Int32) (ls : List (Option PV)) (L : QH FA) (F : Nat) : rnG call 1 (F + 1) 14 ls [vI y, vI x] L = bif pcmp 1 y 0 then rnG call 1 F 15 ls [vI (x - x / y * y)] L else none := rfl
set_option maxRecDepth 100000 in
theorem bc6_1_12 (call : QC FA) (x2 : Int32) (o3 : Option PV) (o4 : Option PV) (s0 : Int32) (L : QH FA) (F : Nat) : rnG call 1 (F + 2) 15 [some (vR 21), some (vR 19), some (vI x2), o3, o4] [vI s0] L = rnG call 1 F 17 [some (vR 21), some (vR 19), some (vI x2), some (vI s0), o4] [vI s0] L := rfl
set_option maxRecDepth 100000 in
theorem bc6_1_13 (call : QC FA) (x : Int32) (ls : List (Option PV)) (L : QH FA) (F : Nat) : rnG call 1 (F + 1) 17 ls [vI x] L = bif pcmp 2 x 0 then rnG call 1 F 35 ls [] L else rnG call 1 F 18 ls [] L := rfl
set_option maxRecDepth 100000 in
theorem bc6_1_14 (call : QC FA) (x2 : Int32) (x3 : Int32) (o4 : Option PV) (L : QH FA) (F : Nat) : rnG call 1 (F + 1) 35 [some (vR 21), some (vR 19), some (vI x2), some (vI x3), o4] [] L = rnG call 1 F 36 [some (vR 21), some (vR 19), some (vI (x2 + 1)), some (vI x3), o4] [] L := rfl
set_option maxRecDepth 100000 in
theorem bc6_1_15 (call : QC FA) (x2 : Int32) (x3 : Int32) (o4 : Option PV) (L : QH FA) (F : Nat) : rnG call 1 (F + 1) 36 [some (vR 21), some (vR 19), some (vI x2), some (vI x3), o4] [] L = rnG call 1 F 6 [some (vR 21), some (vR 19), some (vI x2), some (vI x3), o4] [] L := rfl
set_option maxRecDepth 100000 in
theorem bc6_1_16 (call : QC FA) (x2 : Int32) (x3 : Int32) (o4 : Option PV) (L : QH FA) (F : Nat) : rnG call 1 (F + 2) 18 [some (vR 21), some (vR 19), some (vI x2), some (vI x3), o4] [] L = rnG call 1 F 20 [some (vR 21), some (vR 19), some (vI x2), some (vI x3), o4] [vI 8, vI x3] L := rfl
set_option maxRecDepth 100000 in
theorem bc6_1_17 (call : QC FA) (x y : Int32) (ls : List (Option PV)) (L : QH FA) (F : Nat) : rnG call 1 (F + 1) 20 ls [vI y, vI x] L = bif pcmp 3 x y then rnG call 1 F 35 ls [] L else rnG call 1 F 21 ls [] L := rfl
set_option maxRecDepth 100000 in
theorem bc6_1_18 (call : QC FA) (x2 : Int32) (x3 : Int32) (o4 : Option PV) (z : Nat → Int32) (f : Nat → FA) (F : Nat) : rnG call 1 (F + 4) 21 [some (vR 21), some (vR 19), some (vI x2), some (vI x3), o4] [] (LT u z f) = rnG call 1 F 25 [some (vR 21), some (vR 19), some (vI x2), some (vI x3), o4] [vI x3, vR 23, vI x3, vR 23] (LT u z f) := rfl
set_option maxRecDepth 100000 in
theorem bc6_1_19 (call : QC FA) (x : Int32) (s0 : Int32) (ls : List (Option PV)) (z : Nat → Int32) (f : Nat → FA) (F : Nat) : rnG call 1 (F + 1) 25 ls [vI x, vR 23, vI s0, vR 23] (LT u z f) = bif (Nat.beq 0 0 && pin x 401) then rnG call 1 F 26 ls [vI (f 23 (ix x)), vI s0, vR 23] (LT u z f) else none := rfl
set_option maxRecDepth 100000 in
theorem bc6_1_20 (call : QC FA) (x2 : Int32) (x3 : Int32) (o4 : Option PV) (s0 : Int32) (s1 : Int32) (L : QH FA) (F : Nat) : rnG call 1 (F + 3) 26 [some (vR 21), some (vR 19), some (vI x2), some (vI x3), o4] [vI s0, vI s1, vR 23] L = rnG call 1 F 29 [some (vR 21), some (vR 19), some (vI x2), some (vI x3), o4] [vI x2, vR 19, vI 1, vI s0, vI s1, vR 23] L := rfl
set_option maxRecDepth 100000 in
theorem bc6_1_21 (call : QC FA) (a0 : Int32) (s0 : Int32) (s1 : Int32) (s2 : Int32) (ls : List (Option PV)) (z : Nat → Int32) (f : Nat → FA) (F : Nat) : rnG call 1 (F + 1) 29 ls [vI a0, vR 19, vI s0, vI s1, vI s2, vR 23] (LT u z f) = cbd (call 3 [vR 19, vI a0] (LT u z f)) (fun r L' => rnG call 1 F 30 ls (r.toList ++ [vI s0, vI s1, vI s2, vR 23]) L') := pcY (ih := rnG call 1 F) (call := call) (a := 3) (b := 1) (v := 9) (t := 30) (x := 19) (ls := ls) (As := [vI a0]) (st' := [vI s0, vI s1, vI s2, vR 23]) (L := LT u z f) rfl rfl rfl
set_option maxRecDepth 100000 in
theorem bc6_1_22 (call : QC FA) (x2 : Int32) (x3 : Int32) (o4 : Option PV) (s0 : Int32) (s1 : Int32) (s2 : Int32) (s3 : Int32) (L : QH FA) (F : Nat) : rnG call 1 (F + 1) 30 [some (vR 21), some (vR 19), some (vI x2), some (vI x3), o4] [vI s0, vI s1, vI s2, vI s3, vR 23] L = rnG call 1 F 31 [some (vR 21), some (vR 19), some (vI x2), some (vI x3), o4] [vI 256, vI s0, vI s1, vI s2, vI s3, vR 23] L := rfl
set_option maxRecDepth 100000 in
theorem bc6_1_23 (call : QC FA) (x y : Int32) (s0 : Int32) (s1 : Int32) (s2 : Int32) (ls : List (Option PV)) (L : QH FA) (F : Nat) : rnG call 1 (F + 1) 31 ls [vI y, vI x, vI s0, vI s1, vI s2, vR 23] L = bif pcmp 1 y 0 then rnG call 1 F 32 ls [vI (x / y), vI s0, vI s1, vI s2, vR 23] L else none := rfl
set_option maxRecDepth 100000 in
theorem bc6_1_24 (call : QC FA) (x2 : Int32) (x3 : Int32) (o4 : Option PV) (s0 : Int32) (s1 : Int32) (s2 : Int32) (s3 : Int32) (L : QH FA) (F : Nat) : rnG call 1 (F + 2) 32 [some (vR 21), some (vR 19), some (vI x2), some (vI x3), o4] [vI s0, vI s1, vI s2, vI s3, vR 23] L = rnG call 1 F 34 [some (vR 21), some (vR 19), some (vI x2), some (vI x3), o4] [vI (s2 ||| (s1 <<< (s0 &&& 31))), vI s3, vR 23] L := rfl
set_option maxRecDepth 100000 in
theorem bc6_1_25 (call : QC FA) (x y : Int32) (ls : List (Option PV)) (z : Nat → Int32) (f : Nat → FA) (F : Nat) : rnG call 1 (F + 1) 34 ls [vI y, vI x, vR 23] (LT u z f) = bif (Nat.beq 0 0 && pin x 401) then rnG call 1 F 35 ls [] (LT u z (uA f 23 (upd (f 23) (ix x) y))) else none := rfl
theorem vcc6_1_6 (call : QC FA) (x2 : Int32) (o3 : Option PV) (o4 : Option PV) (z : Nat → Int32) (f : Nat → FA) (res : Option PV × QH FA) (H : ((I (z 19) ≤ I x2 → (∃ (z1 : Nat → Int32) (f1 : Nat → FA), call 2 [vR 22, vI 0] (LT u z f) = some (none, LT u z1 f1) ∧ (pin 0 401 = true ∧ RC call (mP 1) 50 [some (vR 21), some (vR 19), some (vI 255), some (vI 0), o4] [] (LT u z1 (uA f1 22 (upd (f1 22) (ix 0) 1))) res))) ∧ (I x2 < I (z 19) → (∃ (r2 : Int32) (z2 : Nat → Int32) (f2 : Nat → FA), call 3 [vR 19, vI x2] (LT u z f) = some (some (vI r2), LT u z2 f2) ∧ (¬ (256 : Int32) = 0 ∧ ((I (r2 - r2 / 256 * 256) < 0 → RC call (mP 1) 6 [some (vR 21), some (vR 19), some (vI (x2 + 1)), some (vI (r2 - r2 / 256 * 256)), o4] [] (LT u z2 f2) res) ∧ (0 ≤ I (r2 - r2 / 256 * 256) → ((8 ≤ I (r2 - r2 / 256 * 256) → RC call (mP 1) 6 [some (vR 21), some (vR 19), some (vI (x2 + 1)), some (vI (r2 - r2 / 256 * 256)), o4] [] (LT u z2 f2) res) ∧ (I (r2 - r2 / 256 * 256) < 8 → (pin (r2 - r2 / 256 * 256) 401 = true ∧ (∃ (r3 : Int32) (z3 : Nat → Int32) (f3 : Nat → FA), call 3 [vR 19, vI x2] (LT u z2 f2) = some (some (vI r3), LT u z3 f3) ∧ (¬ (256 : Int32) = 0 ∧ (pin (r2 - r2 / 256 * 256) 401 = true ∧ RC call (mP 1) 6 [some (vR 21), some (vR 19), some (vI (x2 + 1)), some (vI (r2 - r2 / 256 * 256)), o4] [] (LT u z3 (uA f3 23 (upd (f3 23) (ix (r2 - r2 / 256 * 256)) ((f2 23 (ix (r2 - r2 / 256 * 256))) ||| (1 <<< ((r3 / 256) &&& 31)))))) res))))))))))))) : RC call (mP 1) 6 [some (vR 21), some (vR 19), some (vI x2), o3, o4] [] (LT u z f) res := by
  refine rc_b (i' := 9) (ls' := [some (vR 21), some (vR 19), some (vI x2), o3, o4]) (st' := [vI (z 19), vI x2]) (L' := LT u z f) 3 (bc6_1_1 call x2 o3 o4 z f) ?_
  refine rc_if (it := 37) (ie := 10) (ls' := [some (vR 21), some (vR 19), some (vI x2), o3, o4]) (st' := []) (bc6_1_2 call x2 (z 19) _ _) (fun q1 => ?_) (fun q1 => ?_)
  · have H := H.1 (cI3t q1 rfl rfl)
    refine rc_b (i' := 40) (ls' := [some (vR 21), some (vR 19), some (vI x2), o3, o4]) (st' := [vI 0, vR 22]) (L' := LT u z f) 3 (bc6_1_3 call x2 o3 o4 z f) ?_
    obtain ⟨z1, f1, hc, H⟩ := H
    refine rc_call (t := 41) (ls' := [some (vR 21), some (vR 19), some (vI x2), o3, o4]) (st' := []) (bc6_1_4 call 0 _ z f) hc ?_
    show RC call (mP 1) 41 [some (vR 21), some (vR 19), some (vI x2), o3, o4] [] (LT u z1 f1) res
    refine rc_b (i' := 45) (ls' := [some (vR 21), some (vR 19), some (vI x2), o3, o4]) (st' := [vI 1, vI 0, vR 22]) (L' := LT u z1 f1) 4 (bc6_1_5 call x2 o3 o4 z1 f1) ?_
    obtain ⟨g1, H⟩ := H
    refine rc_g (i' := 46) (ls' := [some (vR 21), some (vR 19), some (vI x2), o3, o4]) (st' := []) (L' := LT u z1 (uA f1 22 (upd (f1 22) (ix 0) 1))) (bc6_1_6 call 0 1 _ z1 f1) (pinG g1) ?_
    refine rc_b (i' := 50) (ls' := [some (vR 21), some (vR 19), some (vI 255), some (vI 0), o4]) (st' := []) (L' := LT u z1 (uA f1 22 (upd (f1 22) (ix 0) 1))) 4 (bc6_1_7 call x2 o3 o4 _) ?_
    exact H
  · have H := H.2 (cI3f q1 rfl rfl)
    refine rc_b (i' := 12) (ls' := [some (vR 21), some (vR 19), some (vI x2), o3, o4]) (st' := [vI x2, vR 19]) (L' := LT u z f) 2 (bc6_1_8 call x2 o3 o4 _) ?_
    obtain ⟨r2, z2, f2, hc, H⟩ := H
    refine rc_call (t := 13) (ls' := [some (vR 21), some (vR 19), some (vI x2), o3, o4]) (st' := []) (bc6_1_9 call x2 _ z f) hc ?_
    show RC call (mP 1) 13 [some (vR 21), some (vR 19), some (vI x2), o3, o4] [vI r2] (LT u z2 f2) res
    refine rc_b (i' := 14) (ls' := [some (vR 21), some (vR 19), some (vI x2), o3, o4]) (st' := [vI 256, vI r2]) (L' := LT u z2 f2) 1 (bc6_1_10 call x2 o3 o4 r2 _) ?_
    obtain ⟨g1, H⟩ := H
    refine rc_g (i' := 15) (ls' := [some (vR 21), some (vR 19), some (vI x2), o3, o4]) (st' := [vI (r2 - r2 / 256 * 256)]) (L' := LT u z2 f2) (bc6_1_11 call r2 256 _ _) (cmp_ne.trans (decide_eq_true g1)) ?_
    refine rc_b (i' := 17) (ls' := [some (vR 21), some (vR 19), some (vI x2), some (vI (r2 - r2 / 256 * 256)), o4]) (st' := [vI (r2 - r2 / 256 * 256)]) (L' := LT u z2 f2) 2 (bc6_1_12 call x2 o3 o4 (r2 - r2 / 256 * 256) _) ?_
    refine rc_if (it := 35) (ie := 18) (ls' := [some (vR 21), some (vR 19), some (vI x2), some (vI (r2 - r2 / 256 * 256)), o4]) (st' := []) (bc6_1_13 call (r2 - r2 / 256 * 256) _ _) (fun q2 => ?_) (fun q2 => ?_)
    · have H := H.1 (cI2t q2 rfl rfl)
      refine rc_b (i' := 36) (ls' := [some (vR 21), some (vR 19), some (vI (x2 + 1)), some (vI (r2 - r2 / 256 * 256)), o4]) (st' := []) (L' := LT u z2 f2) 1 (bc6_1_14 call x2 (r2 - r2 / 256 * 256) o4 _) ?_
      refine rc_b (i' := 6) (ls' := [some (vR 21), some (vR 19), some (vI (x2 + 1)), some (vI (r2 - r2 / 256 * 256)), o4]) (st' := []) (L' := LT u z2 f2) 1 (bc6_1_15 call (x2 + 1) (r2 - r2 / 256 * 256) o4 _) ?_
      exact H
    · have H := H.2 (cI2f q2 rfl rfl)
      refine rc_b (i' := 20) (ls' := [some (vR 21), some (vR 19), some (vI x2), some (vI (r2 - r2 / 256 * 256)), o4]) (st' := [vI 8, vI (r2 - r2 / 256 * 256)]) (L' := LT u z2 f2) 2 (bc6_1_16 call x2 (r2 - r2 / 256 * 256) o4 _) ?_
      refine rc_if (it := 35) (ie := 21) (ls' := [some (vR 21), some (vR 19), some (vI x2), some (vI (r2 - r2 / 256 * 256)), o4]) (st' := []) (bc6_1_17 call (r2 - r2 / 256 * 256) 8 _ _) (fun q3 => ?_) (fun q3 => ?_)
      · have H := H.1 (cI3t q3 rfl rfl)
        refine rc_b (i' := 36) (ls' := [some (vR 21), some (vR 19), some (vI (x2 + 1)), some (vI (r2 - r2 / 256 * 256)), o4]) (st' := []) (L' := LT u z2 f2) 1 (bc6_1_14 call x2 (r2 - r2 / 256 * 256) o4 _) ?_
        refine rc_b (i' := 6) (ls' := [some (vR 21), some (vR 19), some (vI (x2 + 1)), some (vI (r2 - r2 / 256 * 256)), o4]) (st' := []) (L' := LT u z2 f2) 1 (bc6_1_15 call (x2 + 1) (r2 - r2 / 256 * 256) o4 _) ?_
        exact H
      · have H := H.2 (cI3f q3 rfl rfl)
        refine rc_b (i' := 25) (ls' := [some (vR 21), some (vR 19), some (vI x2), some (vI (r2 - r2 / 256 * 256)), o4]) (st' := [vI (r2 - r2 / 256 * 256), vR 23, vI (r2 - r2 / 256 * 256), vR 23]) (L' := LT u z2 f2) 4 (bc6_1_18 call x2 (r2 - r2 / 256 * 256) o4 z2 f2) ?_
        obtain ⟨g1, H⟩ := H
        refine rc_g (i' := 26) (ls' := [some (vR 21), some (vR 19), some (vI x2), some (vI (r2 - r2 / 256 * 256)), o4]) (st' := [vI (f2 23 (ix (r2 - r2 / 256 * 256))), vI (r2 - r2 / 256 * 256), vR 23]) (L' := LT u z2 f2) (bc6_1_19 call (r2 - r2 / 256 * 256) (r2 - r2 / 256 * 256) _ z2 f2) (pinG g1) ?_
        refine rc_b (i' := 29) (ls' := [some (vR 21), some (vR 19), some (vI x2), some (vI (r2 - r2 / 256 * 256)), o4]) (st' := [vI x2, vR 19, vI 1, vI (f2 23 (ix (r2 - r2 / 256 * 256))), vI (r2 - r2 / 256 * 256), vR 23]) (L' := LT u z2 f2) 3 (bc6_1_20 call x2 (r2 - r2 / 256 * 256) o4 (f2 23 (ix (r2 - r2 / 256 * 256))) (r2 - r2 / 256 * 256) _) ?_
        obtain ⟨r3, z3, f3, hc, H⟩ := H
        refine rc_call (t := 30) (ls' := [some (vR 21), some (vR 19), some (vI x2), some (vI (r2 - r2 / 256 * 256)), o4]) (st' := [vI 1, vI (f2 23 (ix (r2 - r2 / 256 * 256))), vI (r2 - r2 / 256 * 256), vR 23]) (bc6_1_21 call x2 1 (f2 23 (ix (r2 - r2 / 256 * 256))) (r2 - r2 / 256 * 256) _ z2 f2) hc ?_
        show RC call (mP 1) 30 [some (vR 21), some (vR 19), some (vI x2), some (vI (r2 - r2 / 256 * 256)), o4] [vI r3, vI 1, vI (f2 23 (ix (r2 - r2 / 256 * 256))), vI (r2 - r2 / 256 * 256), vR 23] (LT u z3 f3) res
        refine rc_b (i' := 31) (ls' := [some (vR 21), some (vR 19), some (vI x2), some (vI (r2 - r2 / 256 * 256)), o4]) (st' := [vI 256, vI r3, vI 1, vI (f2 23 (ix (r2 - r2 / 256 * 256))), vI (r2 - r2 / 256 * 256), vR 23]) (L' := LT u z3 f3) 1 (bc6_1_22 call x2 (r2 - r2 / 256 * 256) o4 r3 1 (f2 23 (ix (r2 - r2 / 256 * 256))) (r2 - r2 / 256 * 256) _) ?_
        obtain ⟨g1, H⟩ := H
        refine rc_g (i' := 32) (ls' := [some (vR 21), some (vR 19), some (vI x2), some (vI (r2 - r2 / 256 * 256)), o4]) (st' := [vI (r3 / 256), vI 1, vI (f2 23 (ix (r2 - r2 / 256 * 256))), vI (r2 - r2 / 256 * 256), vR 23]) (L' := LT u z3 f3) (bc6_1_23 call r3 256 1 (f2 23 (ix (r2 - r2 / 256 * 256))) (r2 - r2 / 256 * 256) _ _) (cmp_ne.trans (decide_eq_true g1)) ?_
        refine rc_b (i' := 34) (ls' := [some (vR 21), some (vR 19), some (vI x2), some (vI (r2 - r2 / 256 * 256)), o4]) (st' := [vI ((f2 23 (ix (r2 - r2 / 256 * 256))) ||| (1 <<< ((r3 / 256) &&& 31))), vI (r2 - r2 / 256 * 256), vR 23]) (L' := LT u z3 f3) 2 (bc6_1_24 call x2 (r2 - r2 / 256 * 256) o4 (r3 / 256) 1 (f2 23 (ix (r2 - r2 / 256 * 256))) (r2 - r2 / 256 * 256) _) ?_
        obtain ⟨g1, H⟩ := H
        refine rc_g (i' := 35) (ls' := [some (vR 21), some (vR 19), some (vI x2), some (vI (r2 - r2 / 256 * 256)), o4]) (st' := []) (L' := LT u z3 (uA f3 23 (upd (f3 23) (ix (r2 - r2 / 256 * 256)) ((f2 23 (ix (r2 - r2 / 256 * 256))) ||| (1 <<< ((r3 / 256) &&& 31)))))) (bc6_1_25 call (r2 - r2 / 256 * 256) ((f2 23 (ix (r2 - r2 / 256 * 256))) ||| (1 <<< ((r3 / 256) &&& 31))) _ z3 f3) (pinG g1) ?_
        refine rc_b (i' := 36) (ls' := [some (vR 21), some (vR 19), some (vI (x2 + 1)), some (vI (r2 - r2 / 256 * 256)), o4]) (st' := []) (L' := LT u z3 (uA f3 23 (upd (f3 23) (ix (r2 - r2 / 256 * 256)) ((f2 23 (ix (r2 - r2 / 256 * 256))) ||| (1 <<< ((r3 / 256) &&& 31)))))) 1 (bc6_1_14 call x2 (r2 - r2 / 256 * 256) o4 _) ?_
        refine rc_b (i' := 6) (ls' := [some (vR 21), some (vR 19), some (vI (x2 + 1)), some (vI (r2 - r2 / 256 * 256)), o4]) (st' := []) (L' := LT u z3 (uA f3 23 (upd (f3 23) (ix (r2 - r2 / 256 * 256)) ((f2 23 (ix (r2 - r2 / 256 * 256))) ||| (1 <<< ((r3 / 256) &&& 31)))))) 1 (bc6_1_15 call (x2 + 1) (r2 - r2 / 256 * 256) o4 _) ?_
        exact H
set_option maxRecDepth 100000 in
theorem bc50_1_1 (call : QC FA) (x2 : Int32) (x3 : Int32) (o4 : Option PV) (L : QH FA) (F : Nat) : rnG call 1 (F + 2) 50 [some (vR 21), some (vR 19), some (vI x2), some (vI x3), o4] [] L = rnG call 1 F 52 [some (vR 21), some (vR 19), some (vI x2), some (vI x3), o4] [vI x2, vI x3] L := rfl
set_option maxRecDepth 100000 in
theorem bc50_1_2 (call : QC FA) (x y : Int32) (ls : List (Option PV)) (L : QH FA) (F : Nat) : rnG call 1 (F + 1) 52 ls [vI y, vI x] L = bif pcmp 3 x y then rnG call 1 F 92 ls [] L else rnG call 1 F 53 ls [] L := rfl
set_option maxRecDepth 100000 in
theorem bc50_1_3 (call : QC FA) (x2 : Int32) (x3 : Int32) (o4 : Option PV) (z : Nat → Int32) (f : Nat → FA) (F : Nat) : rnG call 1 (F + 3) 92 [some (vR 21), some (vR 19), some (vI x2), some (vI x3), o4] [] (LT u z f) = rnG call 1 F 95 [some (vR 21), some (vR 19), some (vI x2), some (vI x3), o4] [vI x2, vR 22] (LT u z f) := rfl
set_option maxRecDepth 100000 in
theorem bc50_1_4 (call : QC FA) (x : Int32) (ls : List (Option PV)) (z : Nat → Int32) (f : Nat → FA) (F : Nat) : rnG call 1 (F + 1) 95 ls [vI x, vR 22] (LT u z f) = bif (Nat.beq 0 0 && pin x 401) then rnG call 1 F 96 ls [vI (f 22 (ix x))] (LT u z f) else none := rfl
set_option maxRecDepth 100000 in
theorem bc50_1_5 (call : QC FA) (x : Int32) (ls : List (Option PV)) (L : QH FA) (F : Nat) : rnG call 1 (F + 1) 96 ls [vI x] L = some (some (vI x), L) := rfl
set_option maxRecDepth 100000 in
theorem bc50_1_6 (call : QC FA) (x2 : Int32) (x3 : Int32) (o4 : Option PV) (L : QH FA) (F : Nat) : rnG call 1 (F + 2) 53 [some (vR 21), some (vR 19), some (vI x2), some (vI x3), o4] [] L = rnG call 1 F 55 [some (vR 21), some (vR 19), some (vI x2), some (vI x3), some (vI 0)] [] L := rfl
theorem vcc50_1_50 (call : QC FA) (x2 : Int32) (x3 : Int32) (o4 : Option PV) (z : Nat → Int32) (f : Nat → FA) (res : Option PV × QH FA) (H : ((I x2 ≤ I x3 → (pin x2 401 = true ∧ res = (some (vI (f 22 (ix x2))), LT u z f))) ∧ (I x3 < I x2 → RC call (mP 1) 55 [some (vR 21), some (vR 19), some (vI x2), some (vI x3), some (vI 0)] [] (LT u z f) res))) : RC call (mP 1) 50 [some (vR 21), some (vR 19), some (vI x2), some (vI x3), o4] [] (LT u z f) res := by
  refine rc_b (i' := 52) (ls' := [some (vR 21), some (vR 19), some (vI x2), some (vI x3), o4]) (st' := [vI x2, vI x3]) (L' := LT u z f) 2 (bc50_1_1 call x2 x3 o4 _) ?_
  refine rc_if (it := 92) (ie := 53) (ls' := [some (vR 21), some (vR 19), some (vI x2), some (vI x3), o4]) (st' := []) (bc50_1_2 call x3 x2 _ _) (fun q1 => ?_) (fun q1 => ?_)
  · have H := H.1 (cI3t q1 rfl rfl)
    refine rc_b (i' := 95) (ls' := [some (vR 21), some (vR 19), some (vI x2), some (vI x3), o4]) (st' := [vI x2, vR 22]) (L' := LT u z f) 3 (bc50_1_3 call x2 x3 o4 z f) ?_
    obtain ⟨g1, H⟩ := H
    refine rc_g (i' := 96) (ls' := [some (vR 21), some (vR 19), some (vI x2), some (vI x3), o4]) (st' := [vI (f 22 (ix x2))]) (L' := LT u z f) (bc50_1_4 call x2 _ z f) (pinG g1) ?_
    subst H
    exact rc_ret (bc50_1_5 call _ _ _)
  · have H := H.2 (cI3f q1 rfl rfl)
    refine rc_b (i' := 55) (ls' := [some (vR 21), some (vR 19), some (vI x2), some (vI x3), some (vI 0)]) (st' := []) (L' := LT u z f) 2 (bc50_1_6 call x2 x3 o4 _) ?_
    exact H
set_option maxRecDepth 100000 in
theorem bc55_1_1 (call : QC FA) (x2 : Int32) (x3 : Int32) (x4 : Int32) (L : QH FA) (F : Nat) : rnG call 1 (F + 2) 55 [some (vR 21), some (vR 19), some (vI x2), some (vI x3), some (vI x4)] [] L = rnG call 1 F 57 [some (vR 21), some (vR 19), some (vI x2), some (vI x3), some (vI x4)] [vI 8, vI x4] L := rfl
set_option maxRecDepth 100000 in
theorem bc55_1_2 (call : QC FA) (x y : Int32) (ls : List (Option PV)) (L : QH FA) (F : Nat) : rnG call 1 (F + 1) 57 ls [vI y, vI x] L = bif pcmp 3 x y then rnG call 1 F 90 ls [] L else rnG call 1 F 58 ls [] L := rfl
set_option maxRecDepth 100000 in
theorem bc55_1_3 (call : QC FA) (x2 : Int32) (x3 : Int32) (x4 : Int32) (L : QH FA) (F : Nat) : rnG call 1 (F + 1) 90 [some (vR 21), some (vR 19), some (vI x2), some (vI x3), some (vI x4)] [] L = rnG call 1 F 91 [some (vR 21), some (vR 19), some (vI x2), some (vI (x3 + 1)), some (vI x4)] [] L := rfl
set_option maxRecDepth 100000 in
theorem bc55_1_4 (call : QC FA) (x2 : Int32) (x3 : Int32) (x4 : Int32) (L : QH FA) (F : Nat) : rnG call 1 (F + 1) 91 [some (vR 21), some (vR 19), some (vI x2), some (vI x3), some (vI x4)] [] L = rnG call 1 F 50 [some (vR 21), some (vR 19), some (vI x2), some (vI x3), some (vI x4)] [] L := rfl
set_option maxRecDepth 100000 in
theorem bc55_1_5 (call : QC FA) (x2 : Int32) (x3 : Int32) (x4 : Int32) (L : QH FA) (F : Nat) : rnG call 1 (F + 5) 58 [some (vR 21), some (vR 19), some (vI x2), some (vI x3), some (vI x4)] [] L = rnG call 1 F 63 [some (vR 21), some (vR 19), some (vI x2), some (vI x3), some (vI x4)] [vI ((x3 >>> (x4 &&& 31)) &&& 1)] L := rfl
set_option maxRecDepth 100000 in
theorem bc55_1_6 (call : QC FA) (x : Int32) (ls : List (Option PV)) (L : QH FA) (F : Nat) : rnG call 1 (F + 1) 63 ls [vI x] L = bif pcmp 1 x 0 then rnG call 1 F 88 ls [] L else rnG call 1 F 64 ls [] L := rfl
set_option maxRecDepth 100000 in
theorem bc55_1_7 (call : QC FA) (x2 : Int32) (x3 : Int32) (x4 : Int32) (L : QH FA) (F : Nat) : rnG call 1 (F + 1) 88 [some (vR 21), some (vR 19), some (vI x2), some (vI x3), some (vI x4)] [] L = rnG call 1 F 89 [some (vR 21), some (vR 19), some (vI x2), some (vI x3), some (vI (x4 + 1))] [] L := rfl
set_option maxRecDepth 100000 in
theorem bc55_1_8 (call : QC FA) (x2 : Int32) (x3 : Int32) (x4 : Int32) (L : QH FA) (F : Nat) : rnG call 1 (F + 1) 89 [some (vR 21), some (vR 19), some (vI x2), some (vI x3), some (vI x4)] [] L = rnG call 1 F 55 [some (vR 21), some (vR 19), some (vI x2), some (vI x3), some (vI x4)] [] L := rfl
set_option maxRecDepth 100000 in
theorem bc55_1_9 (call : QC FA) (x2 : Int32) (x3 : Int32) (x4 : Int32) (z : Nat → Int32) (f : Nat → FA) (F : Nat) : rnG call 1 (F + 3) 64 [some (vR 21), some (vR 19), some (vI x2), some (vI x3), some (vI x4)] [] (LT u z f) = rnG call 1 F 67 [some (vR 21), some (vR 19), some (vI x2), some (vI x3), some (vI x4)] [vI x4, vR 23] (LT u z f) := rfl
set_option maxRecDepth 100000 in
theorem bc55_1_10 (call : QC FA) (x : Int32) (ls : List (Option PV)) (z : Nat → Int32) (f : Nat → FA) (F : Nat) : rnG call 1 (F + 1) 67 ls [vI x, vR 23] (LT u z f) = bif (Nat.beq 0 0 && pin x 401) then rnG call 1 F 68 ls [vI (f 23 (ix x))] (LT u z f) else none := rfl
set_option maxRecDepth 100000 in
theorem bc55_1_11 (call : QC FA) (x2 : Int32) (x3 : Int32) (x4 : Int32) (s0 : Int32) (L : QH FA) (F : Nat) : rnG call 1 (F + 4) 68 [some (vR 21), some (vR 19), some (vI x2), some (vI x3), some (vI x4)] [vI s0] L = rnG call 1 F 72 [some (vR 21), some (vR 19), some (vI x2), some (vI x3), some (vI x4)] [vI (s0 &&& (x3 ^^^ ((-1))))] L := rfl
set_option maxRecDepth 100000 in
theorem bc55_1_12 (call : QC FA) (x : Int32) (ls : List (Option PV)) (L : QH FA) (F : Nat) : rnG call 1 (F + 1) 72 ls [vI x] L = bif pcmp 1 x 0 then rnG call 1 F 88 ls [] L else rnG call 1 F 73 ls [] L := rfl
set_option maxRecDepth 100000 in
theorem bc55_1_13 (call : QC FA) (x2 : Int32) (x3 : Int32) (x4 : Int32) (z : Nat → Int32) (f : Nat → FA) (F : Nat) : rnG call 1 (F + 8) 73 [some (vR 21), some (vR 19), some (vI x2), some (vI x3), some (vI x4)] [] (LT u z f) = rnG call 1 F 81 [some (vR 21), some (vR 19), some (vI x2), some (vI x3), some (vI x4)] [vI (x3 ||| (1 <<< (x4 &&& 31))), vR 22, vI (x3 ||| (1 <<< (x4 &&& 31))), vR 22] (LT u z f) := rfl
set_option maxRecDepth 100000 in
theorem bc55_1_14 (call : QC FA) (x : Int32) (s0 : Int32) (ls : List (Option PV)) (z : Nat → Int32) (f : Nat → FA) (F : Nat) : rnG call 1 (F + 1) 81 ls [vI x, vR 22, vI s0, vR 22] (LT u z f) = bif (Nat.beq 0 0 && pin x 401) then rnG call 1 F 82 ls [vI (f 22 (ix x)), vI s0, vR 22] (LT u z f) else none := rfl
set_option maxRecDepth 100000 in
theorem bc55_1_15 (call : QC FA) (x2 : Int32) (x3 : Int32) (x4 : Int32) (s0 : Int32) (s1 : Int32) (z : Nat → Int32) (f : Nat → FA) (F : Nat) : rnG call 1 (F + 3) 82 [some (vR 21), some (vR 19), some (vI x2), some (vI x3), some (vI x4)] [vI s0, vI s1, vR 22] (LT u z f) = rnG call 1 F 85 [some (vR 21), some (vR 19), some (vI x2), some (vI x3), some (vI x4)] [vI x3, vR 22, vI s0, vI s1, vR 22] (LT u z f) := rfl
set_option maxRecDepth 100000 in
theorem bc55_1_16 (call : QC FA) (x : Int32) (s0 : Int32) (s1 : Int32) (ls : List (Option PV)) (z : Nat → Int32) (f : Nat → FA) (F : Nat) : rnG call 1 (F + 1) 85 ls [vI x, vR 22, vI s0, vI s1, vR 22] (LT u z f) = bif (Nat.beq 0 0 && pin x 401) then rnG call 1 F 86 ls [vI (f 22 (ix x)), vI s0, vI s1, vR 22] (LT u z f) else none := rfl
set_option maxRecDepth 100000 in
theorem bc55_1_17 (call : QC FA) (x2 : Int32) (x3 : Int32) (x4 : Int32) (s0 : Int32) (s1 : Int32) (s2 : Int32) (L : QH FA) (F : Nat) : rnG call 1 (F + 1) 86 [some (vR 21), some (vR 19), some (vI x2), some (vI x3), some (vI x4)] [vI s0, vI s1, vI s2, vR 22] L = rnG call 1 F 87 [some (vR 21), some (vR 19), some (vI x2), some (vI x3), some (vI x4)] [vI (s1 + s0), vI s2, vR 22] L := rfl
set_option maxRecDepth 100000 in
theorem bc55_1_18 (call : QC FA) (x y : Int32) (ls : List (Option PV)) (z : Nat → Int32) (f : Nat → FA) (F : Nat) : rnG call 1 (F + 1) 87 ls [vI y, vI x, vR 22] (LT u z f) = bif (Nat.beq 0 0 && pin x 401) then rnG call 1 F 88 ls [] (LT u z (uA f 22 (upd (f 22) (ix x) y))) else none := rfl
theorem vcc55_1_55 (call : QC FA) (x2 : Int32) (x3 : Int32) (x4 : Int32) (z : Nat → Int32) (f : Nat → FA) (res : Option PV × QH FA) (H : ((8 ≤ I x4 → RC call (mP 1) 50 [some (vR 21), some (vR 19), some (vI x2), some (vI (x3 + 1)), some (vI x4)] [] (LT u z f) res) ∧ (I x4 < 8 → ((¬ (x3 >>> (x4 &&& 31)) &&& 1 = 0 → RC call (mP 1) 55 [some (vR 21), some (vR 19), some (vI x2), some (vI x3), some (vI (x4 + 1))] [] (LT u z f) res) ∧ ((x3 >>> (x4 &&& 31)) &&& 1 = 0 → (pin x4 401 = true ∧ ((¬ (f 23 (ix x4)) &&& (x3 ^^^ ((-1))) = 0 → RC call (mP 1) 55 [some (vR 21), some (vR 19), some (vI x2), some (vI x3), some (vI (x4 + 1))] [] (LT u z f) res) ∧ ((f 23 (ix x4)) &&& (x3 ^^^ ((-1))) = 0 → (pin (x3 ||| (1 <<< (x4 &&& 31))) 401 = true ∧ (pin x3 401 = true ∧ (pin (x3 ||| (1 <<< (x4 &&& 31))) 401 = true ∧ RC call (mP 1) 55 [some (vR 21), some (vR 19), some (vI x2), some (vI x3), some (vI (x4 + 1))] [] (LT u z (uA f 22 (upd (f 22) (ix (x3 ||| (1 <<< (x4 &&& 31)))) ((f 22 (ix (x3 ||| (1 <<< (x4 &&& 31))))) + (f 22 (ix x3)))))) res))))))))))) : RC call (mP 1) 55 [some (vR 21), some (vR 19), some (vI x2), some (vI x3), some (vI x4)] [] (LT u z f) res := by
  refine rc_b (i' := 57) (ls' := [some (vR 21), some (vR 19), some (vI x2), some (vI x3), some (vI x4)]) (st' := [vI 8, vI x4]) (L' := LT u z f) 2 (bc55_1_1 call x2 x3 x4 _) ?_
  refine rc_if (it := 90) (ie := 58) (ls' := [some (vR 21), some (vR 19), some (vI x2), some (vI x3), some (vI x4)]) (st' := []) (bc55_1_2 call x4 8 _ _) (fun q1 => ?_) (fun q1 => ?_)
  · have H := H.1 (cI3t q1 rfl rfl)
    refine rc_b (i' := 91) (ls' := [some (vR 21), some (vR 19), some (vI x2), some (vI (x3 + 1)), some (vI x4)]) (st' := []) (L' := LT u z f) 1 (bc55_1_3 call x2 x3 x4 _) ?_
    refine rc_b (i' := 50) (ls' := [some (vR 21), some (vR 19), some (vI x2), some (vI (x3 + 1)), some (vI x4)]) (st' := []) (L' := LT u z f) 1 (bc55_1_4 call x2 (x3 + 1) x4 _) ?_
    exact H
  · have H := H.2 (cI3f q1 rfl rfl)
    refine rc_b (i' := 63) (ls' := [some (vR 21), some (vR 19), some (vI x2), some (vI x3), some (vI x4)]) (st' := [vI ((x3 >>> (x4 &&& 31)) &&& 1)]) (L' := LT u z f) 5 (bc55_1_5 call x2 x3 x4 _) ?_
    refine rc_if (it := 88) (ie := 64) (ls' := [some (vR 21), some (vR 19), some (vI x2), some (vI x3), some (vI x4)]) (st' := []) (bc55_1_6 call ((x3 >>> (x4 &&& 31)) &&& 1) _ _) (fun q2 => ?_) (fun q2 => ?_)
    · have H := H.1 (cI1t q2)
      refine rc_b (i' := 89) (ls' := [some (vR 21), some (vR 19), some (vI x2), some (vI x3), some (vI (x4 + 1))]) (st' := []) (L' := LT u z f) 1 (bc55_1_7 call x2 x3 x4 _) ?_
      refine rc_b (i' := 55) (ls' := [some (vR 21), some (vR 19), some (vI x2), some (vI x3), some (vI (x4 + 1))]) (st' := []) (L' := LT u z f) 1 (bc55_1_8 call x2 x3 (x4 + 1) _) ?_
      exact H
    · have H := H.2 (cI1f q2)
      refine rc_b (i' := 67) (ls' := [some (vR 21), some (vR 19), some (vI x2), some (vI x3), some (vI x4)]) (st' := [vI x4, vR 23]) (L' := LT u z f) 3 (bc55_1_9 call x2 x3 x4 z f) ?_
      obtain ⟨g1, H⟩ := H
      refine rc_g (i' := 68) (ls' := [some (vR 21), some (vR 19), some (vI x2), some (vI x3), some (vI x4)]) (st' := [vI (f 23 (ix x4))]) (L' := LT u z f) (bc55_1_10 call x4 _ z f) (pinG g1) ?_
      refine rc_b (i' := 72) (ls' := [some (vR 21), some (vR 19), some (vI x2), some (vI x3), some (vI x4)]) (st' := [vI ((f 23 (ix x4)) &&& (x3 ^^^ ((-1))))]) (L' := LT u z f) 4 (bc55_1_11 call x2 x3 x4 (f 23 (ix x4)) _) ?_
      refine rc_if (it := 88) (ie := 73) (ls' := [some (vR 21), some (vR 19), some (vI x2), some (vI x3), some (vI x4)]) (st' := []) (bc55_1_12 call ((f 23 (ix x4)) &&& (x3 ^^^ ((-1)))) _ _) (fun q3 => ?_) (fun q3 => ?_)
      · have H := H.1 (cI1t q3)
        refine rc_b (i' := 89) (ls' := [some (vR 21), some (vR 19), some (vI x2), some (vI x3), some (vI (x4 + 1))]) (st' := []) (L' := LT u z f) 1 (bc55_1_7 call x2 x3 x4 _) ?_
        refine rc_b (i' := 55) (ls' := [some (vR 21), some (vR 19), some (vI x2), some (vI x3), some (vI (x4 + 1))]) (st' := []) (L' := LT u z f) 1 (bc55_1_8 call x2 x3 (x4 + 1) _) ?_
        exact H
      · have H := H.2 (cI1f q3)
        refine rc_b (i' := 81) (ls' := [some (vR 21), some (vR 19), some (vI x2), some (vI x3), some (vI x4)]) (st' := [vI (x3 ||| (1 <<< (x4 &&& 31))), vR 22, vI (x3 ||| (1 <<< (x4 &&& 31))), vR 22]) (L' := LT u z f) 8 (bc55_1_13 call x2 x3 x4 z f) ?_
        obtain ⟨g1, H⟩ := H
        refine rc_g (i' := 82) (ls' := [some (vR 21), some (vR 19), some (vI x2), some (vI x3), some (vI x4)]) (st' := [vI (f 22 (ix (x3 ||| (1 <<< (x4 &&& 31))))), vI (x3 ||| (1 <<< (x4 &&& 31))), vR 22]) (L' := LT u z f) (bc55_1_14 call (x3 ||| (1 <<< (x4 &&& 31))) (x3 ||| (1 <<< (x4 &&& 31))) _ z f) (pinG g1) ?_
        refine rc_b (i' := 85) (ls' := [some (vR 21), some (vR 19), some (vI x2), some (vI x3), some (vI x4)]) (st' := [vI x3, vR 22, vI (f 22 (ix (x3 ||| (1 <<< (x4 &&& 31))))), vI (x3 ||| (1 <<< (x4 &&& 31))), vR 22]) (L' := LT u z f) 3 (bc55_1_15 call x2 x3 x4 (f 22 (ix (x3 ||| (1 <<< (x4 &&& 31))))) (x3 ||| (1 <<< (x4 &&& 31))) z f) ?_
        obtain ⟨g1, H⟩ := H
        refine rc_g (i' := 86) (ls' := [some (vR 21), some (vR 19), some (vI x2), some (vI x3), some (vI x4)]) (st' := [vI (f 22 (ix x3)), vI (f 22 (ix (x3 ||| (1 <<< (x4 &&& 31))))), vI (x3 ||| (1 <<< (x4 &&& 31))), vR 22]) (L' := LT u z f) (bc55_1_16 call x3 (f 22 (ix (x3 ||| (1 <<< (x4 &&& 31))))) (x3 ||| (1 <<< (x4 &&& 31))) _ z f) (pinG g1) ?_
        refine rc_b (i' := 87) (ls' := [some (vR 21), some (vR 19), some (vI x2), some (vI x3), some (vI x4)]) (st' := [vI ((f 22 (ix (x3 ||| (1 <<< (x4 &&& 31))))) + (f 22 (ix x3))), vI (x3 ||| (1 <<< (x4 &&& 31))), vR 22]) (L' := LT u z f) 1 (bc55_1_17 call x2 x3 x4 (f 22 (ix x3)) (f 22 (ix (x3 ||| (1 <<< (x4 &&& 31))))) (x3 ||| (1 <<< (x4 &&& 31))) _) ?_
        obtain ⟨g1, H⟩ := H
        refine rc_g (i' := 88) (ls' := [some (vR 21), some (vR 19), some (vI x2), some (vI x3), some (vI x4)]) (st' := []) (L' := LT u z (uA f 22 (upd (f 22) (ix (x3 ||| (1 <<< (x4 &&& 31)))) ((f 22 (ix (x3 ||| (1 <<< (x4 &&& 31))))) + (f 22 (ix x3)))))) (bc55_1_18 call (x3 ||| (1 <<< (x4 &&& 31))) ((f 22 (ix (x3 ||| (1 <<< (x4 &&& 31))))) + (f 22 (ix x3))) _ z f) (pinG g1) ?_
        refine rc_b (i' := 89) (ls' := [some (vR 21), some (vR 19), some (vI x2), some (vI x3), some (vI (x4 + 1))]) (st' := []) (L' := LT u z (uA f 22 (upd (f 22) (ix (x3 ||| (1 <<< (x4 &&& 31)))) ((f 22 (ix (x3 ||| (1 <<< (x4 &&& 31))))) + (f 22 (ix x3)))))) 1 (bc55_1_7 call x2 x3 x4 _) ?_
        refine rc_b (i' := 55) (ls' := [some (vR 21), some (vR 19), some (vI x2), some (vI x3), some (vI (x4 + 1))]) (st' := []) (L' := LT u z (uA f 22 (upd (f 22) (ix (x3 ||| (1 <<< (x4 &&& 31)))) ((f 22 (ix (x3 ||| (1 <<< (x4 &&& 31))))) + (f 22 (ix x3)))))) 1 (bc55_1_8 call x2 x3 (x4 + 1) _) ?_
        exact H
set_option maxRecDepth 100000 in
theorem b0_1 (call : QC FA) (z : Nat → Int32) (f : Nat → FA) (F : Nat) : rnG call 0 (F + 6) 0 [some (vR 0)] [] (LT u z f) = rnG call 0 F 6 [some (vR 0)] [vI 8, vR 2, vR 21] (LT u z f) := rfl
set_option maxRecDepth 100000 in
theorem b0_2 (call : QC FA) (x : Int32) (ls : List (Option PV)) (z : Nat → Int32) (f : Nat → FA) (F : Nat) : rnG call 0 (F + 1) 6 ls [vI x, vR 2, vR 21] (LT u z f) = bif ((Nat.beq 3 1 || (Nat.beq 3 2 || Nat.beq 3 3)) && pin x 9) then rnG call 0 F 7 ls [.inr (.inl (wT u (ix x))), vR 21] (LT u z f) else none := rfl
set_option maxRecDepth 100000 in
theorem b0_3 (call : QC FA) (ls : List (Option PV)) (z : Nat → Int32) (f : Nat → FA) (F : Nat) : rnG call 0 (F + 1) 7 ls [vR 19, vR 21] (LT u z f) = cbd (call 1 [vR 21, vR 19] (LT u z f)) (fun r L' => rnG call 0 F 8 ls (r.toList ++ []) L') := pcY (ih := rnG call 0 F) (call := call) (a := 1) (b := 1) (v := 4) (t := 8) (x := 21) (ls := ls) (As := [vR 19]) (st' := []) (L := LT u z f) rfl rfl rfl
set_option maxRecDepth 100000 in
theorem b0_4 (call : QC FA) (x : Int32) (ls : List (Option PV)) (L : QH FA) (F : Nat) : rnG call 0 (F + 1) 8 ls [vI x] L = some (some (vI x), L) := rfl
theorem vc0_0 (call : QC FA) (z : Nat → Int32) (f : Nat → FA) (res : Option PV × QH FA) (H : (∃ (r1 : Int32) (z1 : Nat → Int32) (f1 : Nat → FA), call 1 [vR 21, vR 19] (LT u z f) = some (some (vI r1), LT u z1 f1) ∧ res = (some (vI r1), LT u z1 f1))) : RC call (mP 0) 0 [some (vR 0)] [] (LT u z f) res := by
  refine rc_b (i' := 6) (ls' := [some (vR 0)]) (st' := [vI 8, vR 2, vR 21]) (L' := LT u z f) 6 (b0_1 call z f) ?_
  refine rc_g (i' := 7) (ls' := [some (vR 0)]) (st' := [.inr (.inl (wT u (ix 8))), vR 21]) (L' := LT u z f) (b0_2 call 8 _ z f) (by decide) ?_
  show RC call (mP 0) 7 [some (vR 0)] [vR 19, vR 21] (LT u z f) res
  obtain ⟨r1, z1, f1, hc, H⟩ := H
  refine rc_call (t := 8) (ls' := [some (vR 0)]) (st' := []) (b0_3 call _ z f) hc ?_
  show RC call (mP 0) 8 [some (vR 0)] [vI r1] (LT u z1 f1) res
  subst H
  exact rc_ret (b0_4 call _ _ _)
theorem fil22 (d : Nat) {z : Nat → Int32} {f : Nat → FA} : mcall (d + 1) 2 [vR 22, vI 0] (LT u z f) = some (none, LT u z (uA f 22 (zr0 (f 22) 401))) := by
  have lp : ∀ t n, n + t = 401 → RC (mcall d) (mP 2) 5 [some (vR 22), some (vI 0), some (vI (nI n)), some (vI (nI 401))] [] (LT u z (uA f 22 (zr0 (f 22) n))) (none, LT u z (uA f 22 (zr0 (f 22) 401))) := by
    intro t
    induction t with
    | zero =>
      intro n hn
      obtain rfl : n = 401 := by omega
      exact vcfc_2_5 _ _ _ _ _ _ _ ⟨fun _ => rfl, fun q => by omega⟩
    | succ t ih =>
      intro n hn
      have h := ih (n + 1) (by omega)
      rw [← nI_add n 1, ← zr0_s] at h
      refine vcfc_2_5 _ _ _ _ _ _ _ ⟨fun q => by rw [I_nI (n := n) (by omega), I_nI (n := 401) (by omega)] at q; omega, fun _ => ⟨pin_nI (by omega) (by omega), ?_⟩⟩
      rw [ix_nI (j := n) (by omega), uA_uA, uA_self]
      exact h
  have h := lp 401 0 rfl
  rw [zr0_0, uA_id rfl] at h
  exact mcall_i (mq2 (cu := [])).2.2 rfl (vcf_2_0 (mcall d) 0 none none z f _ h)
theorem fil23 (d : Nat) {z : Nat → Int32} {f : Nat → FA} : mcall (d + 1) 2 [vR 23, vI 0] (LT u z f) = some (none, LT u z (uA f 23 (zr0 (f 23) 401))) := by
  have lp : ∀ t n, n + t = 401 → RC (mcall d) (mP 2) 5 [some (vR 23), some (vI 0), some (vI (nI n)), some (vI (nI 401))] [] (LT u z (uA f 23 (zr0 (f 23) n))) (none, LT u z (uA f 23 (zr0 (f 23) 401))) := by
    intro t
    induction t with
    | zero =>
      intro n hn
      obtain rfl : n = 401 := by omega
      exact vcgc_2_5 _ _ _ _ _ _ _ ⟨fun _ => rfl, fun q => by omega⟩
    | succ t ih =>
      intro n hn
      have h := ih (n + 1) (by omega)
      rw [← nI_add n 1, ← zr0_s] at h
      refine vcgc_2_5 _ _ _ _ _ _ _ ⟨fun q => by rw [I_nI (n := n) (by omega), I_nI (n := 401) (by omega)] at q; omega, fun _ => ⟨pin_nI (by omega) (by omega), ?_⟩⟩
      rw [ix_nI (j := n) (by omega), uA_uA, uA_self]
      exact h
  have h := lp 401 0 rfl
  rw [zr0_0, uA_id rfl] at h
  exact mcall_i (mq2 (cu := [])).2.2 rfl (vcg_2_0 (mcall d) 0 none none z f _ h)
theorem co55 (d : Nat) {z : Nat → Int32} {f : Nat → FA} {s : Nat} {B : FA} {W : Nat → Int32} (hW : HW B W 256) (h23 : ∀ k, k < 8 → f 23 k = B k) (hs : s < 255) : ∀ t i, i + t = 8 → ∀ F, InvO B W s i F → ∃ F', InvO B W (s + 1) 0 F' ∧ ∀ res, RC (mcall (d + 1)) (mP 1) 50 [some (vR 21), some (vR 19), some (vI 255), some (vI (nI (s + 1))), some (vI (nI 8))] [] (LT u z (uA f 22 F')) res → RC (mcall (d + 1)) (mP 1) 55 [some (vR 21), some (vR 19), some (vI 255), some (vI (nI s)), some (vI (nI i))] [] (LT u z (uA f 22 F)) res := by
  intro t
  induction t with
  | zero =>
    intro i hi F hF
    obtain rfl : i = 8 := by omega
    refine ⟨F, InvO_8 hF, fun res h => vcc55_1_55 _ _ _ _ _ _ _ ⟨fun _ => ?_, fun q => by rw [I_nI (n := 8) (by omega)] at q; omega⟩⟩
    rw [show nI s + 1 = nI (s + 1) from nI_add s 1]
    exact h
  | succ t ih =>
    intro i hi F hF
    have i8 : i < 8 := by omega
    have s256 : s < 256 := by omega
    have e1 : nI i + 1 = nI (i + 1) := nI_add i 1
    have hn8 : ¬ 8 ≤ I (nI i) := by rw [I_nI (n := i) (by omega)]; omega
    have b0 := bt_code0 s s256 i i8
    have pi : pin (nI i) 401 = true := pin_nI (by omega) (by omega)
    have xi : ix (nI i) = i := ix_nI (by omega)
    have ps : pin (nI s) 401 = true := pin_nI (by omega) (by omega)
    have xs : ix (nI s) = s := ix_nI (by omega)
    have f23 : uA f 22 F 23 i = B i := by rw [uA_ne (show (23 : Nat) ≠ 22 by decide)]; exact h23 i i8
    cases hb : bt s i with
    | true =>
      rw [hb, if_pos rfl] at b0
      obtain ⟨F', k1, k2⟩ := ih (i + 1) (by omega) F (InvO_n hF i8 (Or.inl hb))
      refine ⟨F', k1, fun res h => vcc55_1_55 _ _ _ _ _ _ _ ⟨fun q => absurd q hn8, fun _ => ⟨fun _ => ?_, fun q => absurd q b0⟩⟩⟩
      rw [e1]
      exact k2 res h
    | false =>
      rw [hb, if_neg (by decide)] at b0
      obtain ⟨t1, t2, t3, t4⟩ := or_code s s256 i i8 hb
      have pt : pin (nI (s + 2 ^ i)) 401 = true := pin_nI (by omega) (by omega)
      have xt : ix (nI (s + 2 ^ i)) = s + 2 ^ i := ix_nI (by omega)
      cases ho : okOr B s i with
      | false =>
        obtain ⟨F', k1, k2⟩ := ih (i + 1) (by omega) F (InvO_n hF i8 (Or.inr ho))
        refine ⟨F', k1, fun res h => vcc55_1_55 _ _ _ _ _ _ _ ⟨fun q => absurd q hn8, fun _ => ⟨fun q => absurd b0 q, fun _ => ⟨pi, fun _ => ?_, fun q => ?_⟩⟩⟩⟩
        · rw [e1]
          exact k2 res h
        · rw [xi, f23] at q
          exact absurd q (of_decide_eq_false ho)
      | true =>
        obtain ⟨F', k1, k2⟩ := ih (i + 1) (by omega) (upd F (s + 2 ^ i) (F (s + 2 ^ i) + F s)) (InvO_a hF s256 i8 hb ho (InvO_W hW hF s256))
        refine ⟨F', k1, fun res h => vcc55_1_55 _ _ _ _ _ _ _ ⟨fun q => absurd q hn8, fun _ => ⟨fun q => absurd b0 q, fun _ => ⟨pi, fun q => ?_, fun _ => ?_⟩⟩⟩⟩
        · rw [xi, f23] at q
          exact absurd (of_decide_eq_true ho) q
        · rw [t1, xt, xs, e1, uA_self, uA_uA]
          exact ⟨pt, ps, pt, k2 res h⟩
theorem co50 (d : Nat) {z : Nat → Int32} {f : Nat → FA} {B : FA} {W : Nat → Int32} (hW : HW B W 256) (h23 : ∀ k, k < 8 → f 23 k = B k) : ∀ t s, s + t = 255 → ∀ F, InvO B W s 0 F → ∃ F', ∀ o4, RC (mcall (d + 1)) (mP 1) 50 [some (vR 21), some (vR 19), some (vI 255), some (vI (nI s)), o4] [] (LT u z (uA f 22 F)) (some (vI (W 255)), LT u z (uA f 22 F')) := by
  have n255 : (255 : Int32) = nI 255 := rfl
  intro t
  induction t with
  | zero =>
    intro s hs F hF
    obtain rfl : s = 255 := by omega
    refine ⟨F, fun o4 => vcc50_1_50 _ _ _ _ _ _ _ ⟨fun _ => ⟨by decide, ?_⟩, fun q => absurd q (Int.lt_irrefl _)⟩⟩
    rw [uA_self, show ix 255 = 255 from by decide, InvO_W hW hF (by omega)]
  | succ t ih =>
    intro s hs F hF
    obtain ⟨F1, k1, k2⟩ := co55 (u := u) d (z := z) (f := f) hW h23 (s := s) (by omega) 8 0 rfl F hF
    obtain ⟨F', k3⟩ := ih (s + 1) (by omega) F1 k1
    refine ⟨F', fun o4 => vcc50_1_50 _ _ _ _ _ _ _ ⟨fun q => ?_, fun _ => k2 _ (k3 _)⟩⟩
    rw [n255, I_nI (n := 255) (by omega), I_nI (n := s) (by omega)] at q
    omega
theorem co6 (d : Nat) {z : Nat → Int32} {f : Nat → FA} {n : Nat} {a b : Nat → Nat} (hz : z 19 = nI n) (hn : n ≤ 12) (hD : CPo n a b (f 20)) : ∀ t i, i + t = n → ∀ g, (∀ k, k < 8 → g k = bef a b i k) → ∀ o3 o4, ∃ g', (∀ k, k < 8 → g' k = bef a b n k) ∧ ∀ res, (∀ o4, RC (mcall (d + 1)) (mP 1) 50 [some (vR 21), some (vR 19), some (vI 255), some (vI (nI 0)), o4] [] (LT u z (uA (uA f 23 g') 22 (upd (zr0 ((uA f 23 g') 22) 401) 0 1))) res) → RC (mcall (d + 1)) (mP 1) 6 [some (vR 21), some (vR 19), some (vI (nI i)), o3, o4] [] (LT u z (uA f 23 g)) res := by
  have e0 : ix 0 = 0 := by decide
  intro t
  induction t with
  | zero =>
    intro i hi g hg o3 o4
    obtain rfl : i = n := by omega
    refine ⟨g, hg, fun res h => vcc6_1_6 _ _ _ _ _ _ _ ⟨fun _ => ⟨_, _, fil22 d, by decide, ?_⟩, fun q => by rw [hz] at q; omega⟩⟩
    rw [uA_uA, uA_self, e0]
    exact h _
  | succ t ih =>
    intro i hi g hg o3 o4
    obtain ⟨a8, b8, ab, e⟩ := hD i (by omega)
    have hit : ∀ g, mcall (d + 1) 3 [vR 19, vI (nI i)] (LT u z (uA f 23 g)) = some (some (vI (nI (a i * 256 + b i))), LT u z (uA f 23 g)) := fun g => by
      have h := c_it8 (u := u) d (f := uA f 23 g) hz hn (k := i) (by omega)
      rw [uA_ne (show (20 : Nat) ≠ 23 by decide), e] at h
      exact h
    obtain ⟨e1, e2⟩ := dec_o a8 b8
    have pb : pin (nI (b i)) 401 = true := pin_nI (by omega) (by omega)
    have xb : ix (nI (b i)) = b i := ix_nI (by omega)
    obtain ⟨g', k1, k2⟩ := ih (i + 1) (by omega) (b1u g (b i) (a i)) (fun k hk => b1u_cong b8 hg k hk) (some (vI (nI (b i)))) o4
    refine ⟨g', k1, fun res h => vcc6_1_6 _ _ _ _ _ _ _ ⟨fun q => ?_, fun _ => ⟨_, _, _, hit g, by decide, ?_⟩⟩⟩
    · rw [hz, I_nI (n := n) (by omega), I_nI (n := i) (by omega)] at q
      omega
    · rw [e2]
      refine ⟨fun q => by rw [I_nI (n := b i) (by omega)] at q; omega, fun _ => ⟨fun q => by rw [I_nI (n := b i) (by omega)] at q; omega, fun _ => ⟨pb, _, _, _, hit g, by decide, pb, ?_⟩⟩⟩
      rw [e1, xb, uA_self, uA_uA, show nI i + 1 = nI (i + 1) from nI_add i 1]
      exact k2 res h
theorem c_order (d : Nat) {z : Nat → Int32} {f : Nat → FA} {n : Nat} {a b : Nat → Nat} {W : Nat → Int32} (hz : z 19 = nI n) (hn : n ≤ 12) (hD : CPo n a b (f 20)) (hW : HW (bef a b n) W 256) : ∃ f1, (∀ k, k ≠ 22 → k ≠ 23 → f1 k = f k) ∧ mcall (d + 3) 0 [vR 0] (LT u z f) = some (some (vI (W 255)), LT u z f1) := by
  obtain ⟨g', k1, k2⟩ := co6 (u := u) d hz hn hD n 0 (by omega) (zr0 (f 23) 401) (fun k hk => by
    show (if k < 401 then (0 : Int32) else f 23 k) = 0
    exact if_pos (by omega)) none none
  have hF : InvO (bef a b n) W 0 0 (upd (zr0 ((uA f 23 g') 22) 401) 0 1) := InvO_0 (fun T hT => by
    by_cases q : T = 0
    · subst q
      rw [pk_us]
      rfl
    · rw [pk_un q]
      show (if T < 401 then (0 : Int32) else _) = if T = 0 then 1 else 0
      rw [if_pos (by omega), if_neg q])
  obtain ⟨F', k3⟩ := co50 (u := u) d (z := z) (f := uA f 23 g') hW (fun k hk => by rw [uA_self]; exact k1 k hk) 255 0 rfl _ hF
  refine ⟨uA (uA f 23 g') 22 F', fun k h1 h2 => by rw [uA_ne h1, uA_ne h2], ?_⟩
  have h1 : mcall (d + 2) 1 [vR 21, vR 19] (LT u z f) = some (some (vI (W 255)), LT u z (uA (uA f 23 g') 22 F')) := mcall_i (mq1 (cu := [])).2.2 rfl (vc1_0 (mcall (d + 1)) none none none z f _ ⟨_, _, fil23 d, k2 _ k3⟩)
  exact mcall_i (mq0 (cu := [])).2.2 rfl (vc0_0 (mcall (d + 2)) z f _ ⟨_, _, _, h1, rfl⟩)
end TLs
