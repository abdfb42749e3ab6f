def mGood (k : Nat) : Prop := mP k = [] ∨ (plainName (mY k).cls = true ∧ OKs (eOK (mY k).cls (mC k) (mN k) (mR k) (mP k)) (mP k) ∧ hpc (mP k) = 0)
theorem mOK (k : Nat) : mGood k := match k with
  | 0 => Or.inr ⟨by decide, oX11_order, rfl⟩
  | 1 => Or.inr ⟨by decide, oX4_rowsOfAll, rfl⟩
  | 2 => Or.inr ⟨by decide, oJ7_fill_53178, rfl⟩
  | 3 => Or.inr ⟨by decide, oX9_item, rfl⟩
  | 4 => Or.inr ⟨by decide, oX11_wax, rfl⟩
  | 5 => Or.inr ⟨by decide, oX1_sum, rfl⟩
  | 6 => Or.inr ⟨by decide, oX0_marked, rfl⟩
  | 7 => Or.inr ⟨by decide, oX0_way, rfl⟩
  | 8 => Or.inr ⟨by decide, oX0_mark, rfl⟩
  | 9 => Or.inr ⟨by decide, oJ6_compare_7cf53, rfl⟩
  | 10 => Or.inr ⟨by decide, oX1_weighs, rfl⟩
  | 11 => Or.inr ⟨by decide, oX0_owner, rfl⟩
  | 12 => Or.inr ⟨by decide, oX1_layValues, rfl⟩
  | 13 => Or.inr ⟨by decide, oX0_trait, rfl⟩
  | 14 => Or.inr ⟨by decide, oX0_has, rfl⟩
  | 15 => Or.inr ⟨by decide, oX0_depth, rfl⟩
  | 16 => Or.inr ⟨by decide, oX0_besides, rfl⟩
  | 17 => Or.inr ⟨by decide, oX8_tells, rfl⟩
  | 18 => Or.inr ⟨by decide, oX8_number, rfl⟩
  | 19 => Or.inr ⟨by decide, oX8_run, rfl⟩
  | 20 => Or.inr ⟨by decide, oX8_part, rfl⟩
  | 21 => Or.inr ⟨by decide, oX8_join, rfl⟩
  | 22 => Or.inr ⟨by decide, oX1_held, rfl⟩
  | 23 => Or.inr ⟨by decide, oX1_turned, rfl⟩
  | 24 => Or.inr ⟨by decide, oX6_blobs, rfl⟩
  | 25 => Or.inr ⟨by decide, oX6_pieces, rfl⟩
  | 26 => Or.inr ⟨by decide, oX6_spread, rfl⟩
  | 27 => Or.inr ⟨by decide, oX6_reach, rfl⟩
  | 28 => Or.inr ⟨by decide, oX11_cellAt, rfl⟩
  | 29 => Or.inr ⟨by decide, oX6_greatestBlob, rfl⟩
  | 30 => Or.inr ⟨by decide, oX6_holes, rfl⟩
  | 31 => Or.inr ⟨by decide, oX6_unlike, rfl⟩
  | 32 => Or.inr ⟨by decide, oX6_bareSquare, rfl⟩
  | 33 => Or.inr ⟨by decide, oX6_squareBehind, rfl⟩
  | 34 => Or.inr ⟨by decide, oX11_game, rfl⟩
  | 35 => Or.inr ⟨by decide, oX2_lay, rfl⟩
  | 36 => Or.inr ⟨by decide, oX2_hasThree, rfl⟩
  | 37 => Or.inr ⟨by decide, oX2_valueForNext, rfl⟩
  | 38 => Or.inr ⟨by decide, oX2_value, rfl⟩
  | 39 => Or.inr ⟨by decide, oX2_recall, rfl⟩
  | 40 => Or.inr ⟨by decide, oX2_whoIsNext, rfl⟩
  | 41 => Or.inr ⟨by decide, oX2_valueOfMove, rfl⟩
  | 42 => Or.inr ⟨by decide, oX2_keepValue, rfl⟩
  | 43 => Or.inr ⟨by decide, oX2_firstThatKeeps, rfl⟩
  | 44 => Or.inr ⟨by decide, oX12_order, rfl⟩
  | 45 => Or.inr ⟨by decide, oX12_has, rfl⟩
  | 46 => Or.inr ⟨by decide, oX12_wax, rfl⟩
  | 47 => Or.inr ⟨by decide, oX12_isIn, rfl⟩
  | 48 => Or.inr ⟨by decide, oX12_sumOf, rfl⟩
  | 49 => Or.inr ⟨by decide, oX12_isMarked, rfl⟩
  | 50 => Or.inr ⟨by decide, oX12_weighsOf, rfl⟩
  | 51 => Or.inr ⟨by decide, oX12_asksOf, rfl⟩
  | 52 => Or.inr ⟨by decide, oX12_asks, rfl⟩
  | 53 => Or.inr ⟨by decide, oX12_besideOf, rfl⟩
  | 54 => Or.inr ⟨by decide, oX12_lawTells, rfl⟩
  | 55 => Or.inr ⟨by decide, oX12_lineOf, rfl⟩
  | 56 => Or.inr ⟨by decide, oX12_runs, rfl⟩
  | 57 => Or.inr ⟨by decide, oX12_twoOf, rfl⟩
  | 58 => Or.inr ⟨by decide, oX12_held, rfl⟩
  | 59 => Or.inr ⟨by decide, oX12_turned, rfl⟩
  | 60 => Or.inr ⟨by decide, oX12_notFace, rfl⟩
  | 61 => Or.inr ⟨by decide, oX12_bareSquare, rfl⟩
  | 62 => Or.inr ⟨by decide, oX12_lesser, rfl⟩
  | 63 => Or.inr ⟨by decide, oX12_findsParts, rfl⟩
  | 64 => Or.inr ⟨by decide, oX12_holes, rfl⟩
  | 65 => Or.inr ⟨by decide, oX12_isAtEdge, rfl⟩
  | 66 => Or.inr ⟨by decide, oX12_blobs, rfl⟩
  | 67 => Or.inr ⟨by decide, oX12_partOf, rfl⟩
  | 68 => Or.inr ⟨by decide, oX12_greater, rfl⟩
  | 69 => Or.inr ⟨by decide, oX12_game, rfl⟩
  | 70 => Or.inr ⟨by decide, oX12_isGame, rfl⟩
  | 71 => Or.inr ⟨by decide, oX12_takesNine, rfl⟩
  | 72 => Or.inr ⟨by decide, oX12_hasThree, rfl⟩
  | 73 => Or.inr ⟨by decide, oX12_areThree, rfl⟩
  | 74 => Or.inr ⟨by decide, oX12_findsWorth, rfl⟩
  | 75 => Or.inr ⟨by decide, oX12_worthNow, rfl⟩
  | 76 => Or.inr ⟨by decide, oX12_nextUp, rfl⟩
  | 77 => Or.inr ⟨by decide, oX12_powerOf, rfl⟩
  | 78 => Or.inr ⟨by decide, oX12_isOver, rfl⟩
  | _ + 79 => Or.inl rfl
theorem ev_ok {A : Type} {rd : A → Nat → Int32} {wr : A → Nat → Int32 → A} {fz : QZ A} (hwr : ∀ a k z, rd (wr a k z) = upd (rd a) k z) (hfz : ∀ x k, fz x k = k x) {l : Launch} {G : PG} {H : PH} {lb : Nat → Nat} {N0 : Nat} (hi : LbI lb N0) (Fu : Nat) : ∀ d, hCall rd l G d H lb N0 (ev rd wr fz Fu d) := by
  intro d
  induction d with
  | zero => intro k As L r L' h; cases h
  | succ d ih =>
    intro k As L r L' h hh hR
    have h' : (bif Nat.ble As.length (mN k) then run rd wr fz (ev rd wr fz Fu d) (mP k) Fu (mP k) (As.map some ++ List.replicate (mN k - As.length) none) [] L else none) = some (r, L') := h
    obtain ⟨e1, e2⟩ := bif_some h'
    rcases mOK k with hP | ⟨hy, hO, hz⟩
    · rw [hP] at e2
      cases Fu <;> cases e2
    · refine PMet.intro hy (by rw [List.length_map]; exact Nat.le_of_ble_eq_true e1) ?_
      intro p e s m args below meth c X hr hlk hnm
      have key := run_ok (e := e) (below := below) (Φ := fun r1 h1 => r1 = r.map (sv lb) ∧ Rep rd H lb N0 L' h1) hwr hfz hi ih hO X hr hlk (fun h1 hR1 => ⟨rfl, hR1⟩) Fu _ _ _ _ hO e2 hh hR
      rw [hz] at key
      have e3 : sls lb (As.map some ++ List.replicate (mN k - As.length) none) = (As.map (sv lb)).map some ++ List.replicate (mN k - (As.map (sv lb)).length) none := by simp [sls, Function.comp_def]
      rw [e3] at key
      exact key
/-- the answer alone -/
def ansI {A : Type} (o : QT A) (x : Int32) : Bool := match o with
  | some (some (.inl y), _) => pcmp 0 y x
  | _ => false
theorem ansI_ok {A : Type} {o : QT A} {x : Int32} (h : ansI o x = true) : ∃ L', o = some (some (vI x), L') := by
  unfold ansI at h
  split at h
  · rename_i y L'
    rw [cmp_eq] at h
    exact ⟨L', by rw [of_decide_eq_true h]⟩
  · cases h
/-! arrays as naturals: 32 bits a number -/
def rdN (a k : Nat) : Int32 := Int32.ofNat ((a >>> (32 * k)) % 4294967296)
noncomputable def wrN (a k : Nat) (z : Int32) : Nat := frN (a ^^^ (((a >>> (32 * k)) % 4294967296 ^^^ ix z) <<< (32 * k))) (fun b => b)
noncomputable def fzN : QZ Nat := fun x k => frN (ix x) (fun u => k (Int32.ofNat u))
theorem ofNat_ix (x : Int32) : Int32.ofNat (ix x) = x := by
  apply Int32.toBitVec_inj.mp
  apply BitVec.eq_of_toNat_eq
  show (BitVec.ofNat 32 (ix x)).toNat = _
  rw [BitVec.toNat_ofNat]
  exact Nat.mod_eq_of_lt x.toBitVec.isLt
theorem fzN_ok (x : Int32) (k : Int32 → QT Nat) : fzN x k = k x := by
  unfold fzN
  rw [frN_eq, ofNat_ix]
theorem wrN_ok (a k : Nat) (z : Int32) : rdN (wrN a k z) = upd (rdN a) k z := by
  funext j
  have hz : ix z < 2 ^ 32 := z.toBitVec.isLt
  have hw : ((a >>> (32 * k)) % 4294967296 ^^^ ix z) < 2 ^ 32 := Nat.xor_lt_two_pow (Nat.mod_lt _ (by decide)) hz
  have hg : wrN a k z = a ^^^ (((a >>> (32 * k)) % 4294967296 ^^^ ix z) <<< (32 * k)) := by unfold wrN; rw [frN_eq]
  by_cases hj : j = k
  · subst hj
    rw [pk_us]
    unfold rdN
    rw [hg]
    have : ((a ^^^ (((a >>> (32 * j)) % 4294967296 ^^^ ix z) <<< (32 * j))) >>> (32 * j)) % 4294967296 = ix z := by
      apply Nat.eq_of_testBit_eq
      intro i
      have e32 : (4294967296 : Nat) = 2 ^ 32 := rfl
      rw [e32, Nat.testBit_mod_two_pow, Nat.testBit_shiftRight, Nat.testBit_xor, Nat.testBit_shiftLeft, Nat.testBit_xor, Nat.testBit_mod_two_pow, Nat.testBit_shiftRight]
      by_cases hi : i < 32
      · simp [hi]
      · simp [hi]
        exact Nat.testBit_lt_two_pow (Nat.lt_of_lt_of_le hz (Nat.pow_le_pow_right (by decide) (by omega)))
    rw [this, ofNat_ix]
  · rw [pk_un hj]
    unfold rdN
    rw [hg]
    congr 1
    apply Nat.eq_of_testBit_eq
    intro i
    have e32 : (4294967296 : Nat) = 2 ^ 32 := rfl
    rw [e32, Nat.testBit_mod_two_pow, Nat.testBit_mod_two_pow, Nat.testBit_shiftRight, Nat.testBit_shiftRight, Nat.testBit_xor, Nat.testBit_shiftLeft]
    by_cases hi : i < 32
    · by_cases hk : 32 * k ≤ 32 * j + i
      · have hw' : ((a >>> (32 * k)) % 2 ^ 32 ^^^ ix z) < 2 ^ 32 := e32 ▸ hw
        have hb : ((a >>> (32 * k)) % 2 ^ 32 ^^^ ix z).testBit (32 * j + i - 32 * k) = false := Nat.testBit_lt_two_pow (Nat.lt_of_lt_of_le hw' (Nat.pow_le_pow_right (by decide) (by omega)))
        rw [hb]
        simp
      · simp [hk]
    · simp [hi]
