/-! symbolic walks over the interpreter: arrays are functions -/
noncomputable abbrev evF (Fu d : Nat) : QC FA := ev rdF wrF fzF Fu d
noncomputable abbrev rnF (Fu d k F : Nat) : QK FA := run (mK rdF wrF fzF (evF Fu d) k) F
def Rn (d k i : Nat) (ls : List (Option PV)) (st : List PV) (L : QH FA) (res : Option PV × QH FA) : Prop := ∃ N, ∀ Fu, N ≤ Fu → ∀ F, N ≤ F → rnF Fu d k F i ls st L = some res
def MC (d k : Nat) (As : List PV) (L : QH FA) (res : Option PV × QH FA) : Prop := ∃ N, ∀ Fu, N ≤ Fu → evF Fu d k As L = some res
def cbind (o : QT FA) (k : Option PV → QH FA → QT FA) : QT FA := match o with
  | some (r, L') => k r L'
  | none => none
theorem pcV {ih : QK FA} {call : QC FA} {a b v t x : Nat} {ls : List (Option PV)} {As st' : List PV} {L : QH FA} {fs : List PV} (hb : As.length = b) (hx : nth L x = some (.inr (v, fs))) (h8 : Nat.ble st'.length 8 = true) : p_callV ih call a b v t ls (As.reverse ++ vR x :: st') L = cbind (call a (vR x :: As) L) (fun r L' => ih t ls (r.toList ++ st') L') := by
  have hl : As.reverse.length = b := by rw [List.length_reverse]; exact hb
  have h1 : (As.reverse ++ vR x :: st').drop b = vR x :: st' := by rw [← hl]; exact List.drop_left
  have h2 : (As.reverse ++ vR x :: st').take b = As.reverse := by rw [← hl]; exact List.take_left
  have h3 : Nat.ble b (As.reverse ++ vR x :: st').length = true := by rw [Nat.ble_eq, List.length_append, hl]; omega
  have h4 : Nat.beq v v = true := by rw [Nat.beq_eq]
  unfold p_callV
  rw [h1]
  simp only [hx, h2, h3, h4, h8, List.reverse_reverse, Bool.and_self, cond_true]
  cases call a (vR x :: As) L with
  | none => rfl
  | some q => rfl
theorem pcS {ih : QK FA} {call : QC FA} {a b t : Nat} {ls : List (Option PV)} {As st' : List PV} {L : QH FA} (hb : As.length = b) (h8 : Nat.ble st'.length 8 = true) : p_callS ih call a b t ls (As.reverse ++ st') L = cbind (call a As L) (fun r L' => ih t ls (r.toList ++ st') L') := by
  have hl : As.reverse.length = b := by rw [List.length_reverse]; exact hb
  have h1 : (As.reverse ++ st').drop b = st' := by rw [← hl]; exact List.drop_left
  have h2 : (As.reverse ++ st').take b = As.reverse := by rw [← hl]; exact List.take_left
  have h3 : Nat.ble b (As.reverse ++ st').length = true := by rw [Nat.ble_eq, List.length_append, hl]; omega
  unfold p_callS
  simp only [h1, h2, h3, h8, List.reverse_reverse, Bool.and_self, cond_true]
  cases call a As L with
  | none => rfl
  | some q => rfl
section RnS
variable {d k i i' : Nat} {ls ls' : List (Option PV)} {st st' : List PV} {L L' : QH FA} {res : Option PV × QH FA}
theorem mc_of {As : List PV} (hl : Nat.ble As.length (mN k) = true) (h : Rn d k 0 (As.map some ++ List.replicate (mN k - As.length) none) [] L res) : MC (d + 1) k As L res := by
  obtain ⟨N, hN⟩ := h
  refine ⟨N, fun Fu hF => ?_⟩
  show (bif Nat.ble As.length (mN k) then rnF Fu d k Fu 0 (As.map some ++ List.replicate (mN k - As.length) none) [] L else none) = some res
  rw [hl]
  exact hN Fu hF Fu hF
theorem rb (n : Nat) (hs : ∀ Fu F, rnF Fu d k (F + n) i ls st L = rnF Fu d k F i' ls' st' L') (h : Rn d k i' ls' st' L' res) : Rn d k i ls st L res := by
  obtain ⟨N, hN⟩ := h
  refine ⟨N + n, fun Fu hF F hF2 => ?_⟩
  obtain ⟨F', rfl⟩ : ∃ F', F = F' + n := ⟨F - n, by omega⟩
  rw [hs]
  exact hN Fu (by omega) F' (by omega)
theorem rn_ret (hs : ∀ Fu F, rnF Fu d k (F + 1) i ls st L = some res) : Rn d k i ls st L res := by
  refine ⟨1, fun Fu hF F hF2 => ?_⟩
  obtain ⟨F', rfl⟩ : ∃ F', F = F' + 1 := ⟨F - 1, by omega⟩
  exact hs Fu F'
theorem rn_if {b it ie : Nat} {x y : Int32} (hs : ∀ Fu F, rnF Fu d k (F + 1) i ls st L = bif pcmp b x y then rnF Fu d k F it ls' st' L else rnF Fu d k F ie ls' st' L) (kt : pcmp b x y = true → Rn d k it ls' st' L res) (kf : pcmp b x y = false → Rn d k ie ls' st' L res) : Rn d k i ls st L res := by
  cases hb : pcmp b x y with
  | true => exact rb 1 (fun Fu F => by rw [hs, hb]; rfl) (kt hb)
  | false => exact rb 1 (fun Fu F => by rw [hs, hb]; rfl) (kf hb)
theorem rn_g {g : Bool} (hs : ∀ Fu F, rnF Fu d k (F + 1) i ls st L = bif g then rnF Fu d k F i' ls' st' L' else none) (hg : g = true) (h : Rn d k i' ls' st' L' res) : Rn d k i ls st L res := rb 1 (fun Fu F => by rw [hs, hg]; rfl) h
theorem rn_call {a t : Nat} {As : List PV} {r1 : Option PV} {L1 : QH FA} (hs : ∀ Fu F, rnF Fu d k (F + 1) i ls st L = cbind (evF Fu d a As L) (fun r L' => rnF Fu d k F t ls' (r.toList ++ st') L')) (hM : MC d a As L (r1, L1)) (h : Rn d k t ls' (r1.toList ++ st') L1 res) : Rn d k i ls st L res := by
  obtain ⟨N, hN⟩ := h
  obtain ⟨N2, hN2⟩ := hM
  refine ⟨N + N2 + 1, fun Fu hF F hF2 => ?_⟩
  obtain ⟨F', rfl⟩ : ∃ F', F = F' + 1 := ⟨F - 1, by omega⟩
  rw [hs, hN2 Fu (by omega)]
  exact hN Fu (by omega) F' (by omega)
theorem rn_top {x y : Int32} (e : x = y) (h : Rn d k i ls (vI y :: st) L res) : Rn d k i ls (vI x :: st) L res := by rw [e]; exact h
theorem rn_eq (e1 : ls = ls') (e2 : st = st') (e3 : L = L') (h : Rn d k i ls' st' L' res) : Rn d k i ls st L res := by rw [e1, e2, e3]; exact h
end RnS
/-! boards as numbers in base three -/
def dg (c j : Nat) : Nat := c / 3 ^ (8 - j) % 3
def tri (c w x y z : Nat) : Bool := Nat.beq (dg c x) w && (Nat.beq (dg c y) w && Nat.beq (dg c z) w)
def three (c w : Nat) : Bool := tri c w 0 1 2 || (tri c w 3 4 5 || (tri c w 6 7 8 || (tri c w 0 3 6 || (tri c w 1 4 7 || (tri c w 2 5 8 || (tri c w 0 4 8 || tri c w 2 4 6))))))
def bzb (b : Bool) : Int32 := bif b then 1 else 0
def gmax (x y : Int32) : Int32 := if x < y then y else x
def gf (V : Nat → Int32) (w c : Nat) : Nat → Int32
  | 0 => -1
  | i + 1 => if dg c i = 0 then gmax (gf V w c i) (-(V (c + w * 3 ^ (8 - i)))) else gf V w c i
def gv : Nat → Nat → Nat → Int32
  | 0, w, c => if three c w = true then 1 else if three c (3 - w) = true then -1 else 0
  | n + 1, w, c => if three c w = true then 1 else if three c (3 - w) = true then -1 else gf (gv n (3 - w)) w c 9
def gnz (x : Nat) : Nat := if x = 0 then 0 else 1
def is (x v : Nat) : Nat := if x = v then 1 else 0
def fl (c : Nat) : Nat := gnz (dg c 0) + gnz (dg c 1) + gnz (dg c 2) + gnz (dg c 3) + gnz (dg c 4) + gnz (dg c 5) + gnz (dg c 6) + gnz (dg c 7) + gnz (dg c 8)
def cnt (c v : Nat) : Nat := is (dg c 0) v + is (dg c 1) v + is (dg c 2) v + is (dg c 3) v + is (dg c 4) v + is (dg c 5) v + is (dg c 6) v + is (dg c 7) v + is (dg c 8) v
def wn (m : Nat) : Nat := if m % 2 = 0 then 1 else 2
def Vc (c : Nat) : Int32 := gv (9 - fl c) (wn (fl c)) c
def Bd (f : FA) (c : Nat) : Prop := ∀ j, j < 9 → f j = nI (dg c j)
theorem dg_lt (c j : Nat) : dg c j < 3 := Nat.mod_lt _ (by decide)
theorem wn_12 (m : Nat) : wn m = 1 ∨ wn m = 2 := by unfold wn; split <;> simp
theorem wn_s (m : Nat) : wn (m + 1) = 3 - wn m := by
  unfold wn
  split <;> split <;> omega
/-- a move -/
theorem mv_dg {c i w : Nat} (hi : i < 9) (h0 : dg c i = 0) (hw : w = 1 ∨ w = 2) : ∀ j, j < 9 → dg (c + w * 3 ^ (8 - i)) j = if j = i then w else dg c j := by
  have h9 : ∀ x : Nat, x < 9 → x = 0 ∨ x = 1 ∨ x = 2 ∨ x = 3 ∨ x = 4 ∨ x = 5 ∨ x = 6 ∨ x = 7 ∨ x = 8 := by omega
  intro j hj
  rcases h9 i hi with rfl | rfl | rfl | rfl | rfl | rfl | rfl | rfl | rfl <;> rcases h9 j hj with rfl | rfl | rfl | rfl | rfl | rfl | rfl | rfl | rfl <;> simp only [dg, Nat.reduceSub, Nat.reducePow, Nat.reduceEqDiff, if_true, if_false, Nat.div_one] at h0 ⊢ <;> rcases hw with rfl | rfl <;> omega
theorem mv_lt {c i w : Nat} (hc : c < 19683) (hi : i < 9) (h0 : dg c i = 0) (hw : w = 1 ∨ w = 2) : c + w * 3 ^ (8 - i) < 19683 := by
  have h9 : ∀ x : Nat, x < 9 → x = 0 ∨ x = 1 ∨ x = 2 ∨ x = 3 ∨ x = 4 ∨ x = 5 ∨ x = 6 ∨ x = 7 ∨ x = 8 := by omega
  rcases h9 i hi with rfl | rfl | rfl | rfl | rfl | rfl | rfl | rfl | rfl <;> simp only [dg, Nat.reduceSub, Nat.reducePow, Nat.div_one] at h0 ⊢ <;> rcases hw with rfl | rfl <;> omega
theorem mv_fl {c i w : Nat} (hi : i < 9) (h0 : dg c i = 0) (hw : w = 1 ∨ w = 2) : fl (c + w * 3 ^ (8 - i)) = fl c + 1 := by
  have hw0 : gnz w = 1 := by rcases hw with rfl | rfl <;> rfl
  have h := mv_dg hi h0 hw
  have h9 : ∀ x : Nat, x < 9 → x = 0 ∨ x = 1 ∨ x = 2 ∨ x = 3 ∨ x = 4 ∨ x = 5 ∨ x = 6 ∨ x = 7 ∨ x = 8 := by omega
  unfold fl
  rw [h 0 (by decide), h 1 (by decide), h 2 (by decide), h 3 (by decide), h 4 (by decide), h 5 (by decide), h 6 (by decide), h 7 (by decide), h 8 (by decide)]
  have hz : gnz (dg c i) = 0 := by rw [h0]; rfl
  rcases h9 i hi with rfl | rfl | rfl | rfl | rfl | rfl | rfl | rfl | rfl <;> simp only [Nat.reduceEqDiff, if_true, if_false, hw0, hz] <;> omega
theorem mv_cnt {c i w v : Nat} (hi : i < 9) (h0 : dg c i = 0) (hw : w = 1 ∨ w = 2) (hv : v ≠ 0) : cnt (c + w * 3 ^ (8 - i)) v = cnt c v + is w v := by
  have h := mv_dg hi h0 hw
  have h9 : ∀ x : Nat, x < 9 → x = 0 ∨ x = 1 ∨ x = 2 ∨ x = 3 ∨ x = 4 ∨ x = 5 ∨ x = 6 ∨ x = 7 ∨ x = 8 := by omega
  unfold cnt
  rw [h 0 (by decide), h 1 (by decide), h 2 (by decide), h 3 (by decide), h 4 (by decide), h 5 (by decide), h 6 (by decide), h 7 (by decide), h 8 (by decide)]
  have hz : is (dg c i) v = 0 := by rw [h0]; unfold is; rw [if_neg (fun q => hv q.symm)]
  rcases h9 i hi with rfl | rfl | rfl | rfl | rfl | rfl | rfl | rfl | rfl <;> simp only [Nat.reduceEqDiff, if_true, if_false, hz] <;> omega
theorem cnt_fl (c : Nat) : fl c = cnt c 1 + cnt c 2 := by
  have h : ∀ j, gnz (dg c j) = is (dg c j) 1 + is (dg c j) 2 := by
    intro j
    have := dg_lt c j
    rcases (show dg c j = 0 ∨ dg c j = 1 ∨ dg c j = 2 by omega) with e | e | e <;> rw [e] <;> rfl
  unfold fl cnt
  simp only [h]
  omega
theorem fl_le (c : Nat) : fl c ≤ 9 := by
  have h : ∀ x, gnz x ≤ 1 := by intro x; unfold gnz; split <;> omega
  unfold fl
  have h0 := h (dg c 0); have h1 := h (dg c 1); have h2 := h (dg c 2); have h3 := h (dg c 3); have h4 := h (dg c 4); have h5 := h (dg c 5); have h6 := h (dg c 6); have h7 := h (dg c 7); have h8 := h (dg c 8)
  omega
theorem Bd_mv {f : FA} {c i w : Nat} (hB : Bd f c) (hi : i < 9) (h0 : dg c i = 0) (hw : w = 1 ∨ w = 2) : Bd (upd f i (nI w)) (c + w * 3 ^ (8 - i)) := by
  intro j hj
  rw [mv_dg hi h0 hw j hj]
  by_cases e : j = i
  · subst e
    rw [pk_us, if_pos rfl]
  · rw [pk_un e, if_neg e, hB j hj]
theorem upd_back {f : FA} {i : Nat} {x : Int32} (h : f i = 0) : upd (upd f i x) i 0 = f := by
  funext j
  by_cases e : j = i
  · subst e
    rw [pk_us, h]
  · rw [pk_un e, pk_un e]
/-! values -/
def rng (x : Int32) : Prop := x = -1 ∨ x = 0 ∨ x = 1
theorem rng_neg {x : Int32} (h : rng x) : rng (-x) := by rcases h with rfl | rfl | rfl <;> unfold rng <;> decide
theorem rng_max {x y : Int32} (h1 : rng x) (h2 : rng y) : rng (gmax x y) := by unfold gmax; split <;> assumption
theorem gf_rng {V : Nat → Int32} {w c : Nat} (hV : ∀ c, rng (V c)) : ∀ i, rng (gf V w c i) := by
  intro i
  induction i with
  | zero => exact Or.inl rfl
  | succ i ih =>
    unfold gf
    split
    · exact rng_max ih (rng_neg (hV _))
    · exact ih
theorem gv_rng : ∀ (n w c : Nat), rng (gv n w c) := by
  intro n
  induction n with
  | zero =>
    intro w c
    unfold gv
    split
    · exact Or.inr (Or.inr rfl)
    · split
      · exact Or.inl rfl
      · exact Or.inr (Or.inl rfl)
  | succ n ih =>
    intro w c
    unfold gv
    split
    · exact Or.inr (Or.inr rfl)
    · split
      · exact Or.inl rfl
      · exact gf_rng (fun c => ih _ c) 9
theorem gf_one {V : Nat → Int32} {w c : Nat} (hV : ∀ c, rng (V c)) {i : Nat} (h : gf V w c i = 1) : ∀ j, i ≤ j → gf V w c j = 1 := by
  intro j hj
  induction j with
  | zero => rw [show i = 0 by omega] at h; exact h
  | succ j ih =>
    by_cases e : i = j + 1
    · rw [← e]; exact h
    · have := ih (by omega)
      unfold gf
      split
      · rw [this]
        rcases rng_neg (hV (c + w * 3 ^ (8 - j))) with q | q | q <;> rw [q] <;> decide
      · exact this
theorem rng_1 {x : Int32} (h : rng x) (h1 : ¬ x < 1) : x = 1 := by
  rcases h with rfl | rfl | rfl
  · exact absurd (by decide) h1
  · exact absurd (by decide) h1
  · rfl
/-! the memory: two bits a board -/
def slotI (K : FA) (c : Nat) : Int32 := (K (c / 16)) >>> (((2 : Int32) * nI (c % 16)) &&& 31) &&& 3
theorem sh_n : ∀ r, r < 16 → ((((2 : Int32) * nI r) &&& 31).toBitVec.smod 32#32).toNat = 2 * r := by decide +kernel
theorem sl_bits (w x : BitVec 32) (r s : Nat) (hr : r < 16) (hs : s < 16) (hx : x.toNat < 4) : ((w ||| x <<< (2 * r)).sshiftRight (2 * s)) &&& 3#32 = if s = r then (w.sshiftRight (2 * r) &&& 3#32) ||| x else w.sshiftRight (2 * s) &&& 3#32 := by
  have hxb : ∀ i, 2 ≤ i → x.getLsbD i = false := by
    intro i hi
    rw [BitVec.getLsbD, Nat.testBit_lt_two_pow (Nat.lt_of_lt_of_le hx (Nat.pow_le_pow_right (n := 2) (by decide) hi))]
  have h3 : ∀ i, (3#32).getLsbD i = decide (i < 2) := by
    intro i
    by_cases hi : i < 32
    · revert i; decide
    · rw [BitVec.getLsbD_of_ge _ _ (by omega)]
      simp; omega
  apply BitVec.eq_of_getLsbD_eq
  intro i hi
  by_cases h2 : i < 2
  · have a1 : decide (32 ≤ i) = false := decide_eq_false (by omega)
    have a2 : 2 * s + i < 32 := by omega
    have a3 : decide (i < 2) = true := decide_eq_true h2
    have a6 : decide (2 * s + i < 32) = true := decide_eq_true a2
    split
    · rename_i e
      subst e
      have a4 : decide (2 * s + i < 2 * s) = false := decide_eq_false (by omega)
      simp only [BitVec.getLsbD_and, BitVec.getLsbD_or, BitVec.getLsbD_sshiftRight, BitVec.getLsbD_shiftLeft, h3, a1, if_pos a2, a3, a4, a6, Bool.not_false, Bool.true_and, Bool.and_true, show 2 * s + i - 2 * s = i by omega]
    · rename_i e
      simp only [BitVec.getLsbD_and, BitVec.getLsbD_or, BitVec.getLsbD_sshiftRight, BitVec.getLsbD_shiftLeft, h3, a1, if_pos a2, a3, a6, Bool.not_false, Bool.true_and, Bool.and_true]
      by_cases hge : 2 * s + i < 2 * r
      · rw [decide_eq_true hge, Bool.not_true, Bool.false_and, Bool.or_false]
      · rw [hxb _ (by omega), Bool.and_false, Bool.or_false]
  · split
    · rename_i e
      simp [BitVec.getLsbD_and, BitVec.getLsbD_or, h3, h2]
      exact hxb i (by omega)
    · simp [BitVec.getLsbD_and, h3, h2]
