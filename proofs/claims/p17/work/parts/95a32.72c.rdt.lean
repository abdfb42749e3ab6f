/-! the class's readTape, as a whole -/
def tzc (z : Nat → Int32) (y : Int32) : Nat → Int32 := uZ (uZ (uZ (uZ (uZ (uZ (uZ (uZ z 2 (z 1)) 1 0) 4 0) 11 0) 13 0) 9 y) 7 0) 8 (-1)
theorem tzc_at {z : Nat → Int32} {y : Int32} : tzc z y 1 = 0 ∧ tzc z y 2 = z 1 ∧ tzc z y 4 = 0 ∧ tzc z y 11 = 0 ∧ tzc z y 13 = 0 ∧ tzc z y 9 = y ∧ tzc z y 7 = 0 ∧ tzc z y 8 = -1 := ⟨rfl, rfl, rfl, rfl, rfl, rfl, rfl, rfl⟩
theorem pGw_c : ∀ (l : List Nat) (g g' : Nat → Int32), (∀ w, w < 5 → g' w = g w) → pGw l g → pGw l g' := by
  rintro l g g' h ⟨a, b, c, h1, h2, h3, h4⟩
  exact ⟨a, b, c, h1, (h 0 (by decide)).trans h2, (h 1 (by decide)).trans h3, (h 2 (by decide)).trans h4⟩
theorem pGt_c : ∀ (l : List Nat) (g g' : Nat → Int32), (∀ w, w < 5 → g' w = g w) → pGt l g → pGt l g' := by
  rintro l g g' h ⟨a, b, h1, h2, h3⟩
  exact ⟨a, b, h1, (h 0 (by decide)).trans h2, (h 1 (by decide)).trans h3⟩
theorem pGs_c : ∀ (l : List Nat) (g g' : Nat → Int32), (∀ w, w < 5 → g' w = g w) → pGs l g → pGs l g' := by
  intro l g g' h hs
  unfold pGs at hs ⊢
  rw [h 0 (by decide), h 1 (by decide), h 2 (by decide), h 3 (by decide), h 4 (by decide)]
  exact hs
def pGk4 (k : Nat) (l : List Nat) (g : Nat → Int32) : Prop := if k = 1 then pGw l g else if k = 2 then pGs l g else pGt l g
theorem pGk4_c (k : Nat) (l : List Nat) (g g' : Nat → Int32) (h : ∀ w, w < 5 → g' w = g w) (hs : pGk4 k l g) : pGk4 k l g' := by
  unfold pGk4 at hs ⊢
  by_cases c1 : k = 1
  · rw [if_pos c1] at hs ⊢
    exact pGw_c l g g' h hs
  · rw [if_neg c1] at hs ⊢
    by_cases c2 : k = 2
    · rw [if_pos c2] at hs ⊢
      exact pGs_c l g g' h hs
    · rw [if_neg c2] at hs ⊢
      exact pGt_c l g g' h hs
/-- what a text's reading must lead to -/
def RTo (Φ : Option PV → PH → Prop) (H : PH) (lb : Nat → Nat) (n m : Nat) (z : Nat → Int32) (f : Nat → FA) (kd : Int32) : Prop :=
  (¬ (0 ≤ I kd ∧ I kd < 4) → ∀ h', Rep rdF H lb 4 (LPr (tzc z (nI m)) f) h' → Φ (some vN) h')
  ∧ (kd = nI 0 → (∀ e z' f' h', pG 18 0 (pxA (f 1) n (n + 1) 0) = .inl e → Rep rdF H lb 4 (LPr z' f') h' → z' 7 = nI e.1 → z' 8 = nI e.2 → PL1 (tzc z (nI m)) f z' f' → Φ (some vN) h')
    ∧ ∀ L z' f' h', pG 18 0 (pxA (f 1) n (n + 1) 0) = .inr L → Rep rdF H lb 4 (LPr z' f') h' → L.length ≤ 16 → (pfl L).length ≤ 400 → pKl (f' 2) 0 0 L → tkC (pfl L) (f' 3) 0 → z' 7 = 0 → z' 8 = -1 → PL1 (tzc z (nI m)) f z' f' → Φ (some (vR h'.length)) (h' ++ [eO 8 [vR (h'.length + 1), vI (nI L.length), vR (h'.length + 2)], eI (5 * L.length) (cpO 80 (5 * L.length) (f' 2)), eI (pfl L).length (cpO 400 (pfl L).length (f' 3))]))
  ∧ ∀ k, (k = 1 ∨ k = 2 ∨ k = 3) → kd = nI k → (∀ e z' f' h', pXL k m 18 0 (pxA (f 1) n (n + 1) 0) = .inl e → Rep rdF H lb 4 (LPr z' f') h' → z' 7 = nI e.1 → z' 8 = nI e.2 → PL1 (tzc z (nI m)) f z' f' → Φ (some vN) h')
    ∧ ∀ L z' f' h', pXL k m 18 0 (pxA (f 1) n (n + 1) 0) = .inr L → Rep rdF H lb 4 (LPr z' f') h' → L.length ≤ 16 → pKo (pGk4 k) (f' 2) 0 L → z' 7 = 0 → z' 8 = -1 → PL1 (tzc z (nI m)) f z' f' → Φ (some (vR h'.length)) (h' ++ [eO 8 [vR (h'.length + 1), vI (nI L.length), vR (h'.length + 2)], eI (5 * L.length) (cpO 80 (5 * L.length) (f' 2)), eI 0 (cpO 400 0 (f' 3))])
theorem PDZ.o {z z' : Nat → Int32} {f : Nat → FA} (h : PDZ z z') : PL1 z f z' f := ⟨fun j a b c e _ _ _ _ => h j a b c e, fun _ _ _ => rfl⟩
set_option maxRecDepth 100000 in
set_option maxHeartbeats 4000000 in
theorem readTape_x (l : Launch) (G : PG) {H h : PH} {lb : Nat → Nat} {z : Nat → Int32} {f : Nat → FA} {n m : Nat} {kd : Int32} (hi : LbI lb 4) (hR : Rep rdF H lb 4 (LPr z f) h) (h1 : z 1 = nI n) (hn : n ≤ 400) (hm : m ≤ 20) {Φ : Option PV → PH → Prop} (hΦ : RTo Φ H lb n m z f kd) : PMet l G yX5_readTape cX5_readTape 5 (some (.object "ThumbBallot$Text")) 30 3 488 [vR (lb 0), vI kd, vI (nI m)] h Φ := by
  obtain ⟨hno, hlaw, hoth⟩ := hΦ
  refine PMet.intro (by decide) (show 3 ≤ 5 by decide) ?_
  intro p e s mm args below meth c X hr hlk hnm
  have ln : ∀ z' : Nat → Int32, (pFs lb z').length = 14 := fun _ => rfl
  have hI : kd.toInt = I kd := rfl
  refine r_aload_n X dX5_readTape_0 rfl ?_
  refine r_aload_n X dX5_readTape_1 rfl ?_
  refine r_get X fg_X5_15 dX5_readTape_2 (rp_0 hR) (show (pFs lb z)[1]? = some (vI (z 1)) from rfl) ?_
  refine r_put X fp_X5_19 dX5_readTape_5 (rp_0 hR) (by rw [ln]; decide) rfl rfl ?_
  have t1 := rpp_2 (x := z 1) hi hR
  refine r_aload_n X dX5_readTape_8 rfl ?_
  refine r_iconst X dX5_readTape_9 (v := 0) rfl ?_
  refine r_put X fp_X5_15 dX5_readTape_10 (rp_0 t1) (by rw [ln]; decide) rfl rfl ?_
  have t2 := rpp_1 (x := 0) hi t1
  refine r_aload_n X dX5_readTape_13 rfl ?_
  refine r_iconst X dX5_readTape_14 (v := 0) rfl ?_
  refine r_put X fp_X5_25 dX5_readTape_15 (rp_0 t2) (by rw [ln]; decide) rfl rfl ?_
  have t3 := rpp_4 (x := 0) hi t2
  refine r_aload_n X dX5_readTape_18 rfl ?_
  refine r_iconst X dX5_readTape_19 (v := 0) rfl ?_
  refine r_put X fp_X5_46 dX5_readTape_20 (rp_0 t3) (by rw [ln]; decide) rfl rfl ?_
  have t4 := rpp_11 (x := 0) hi t3
  refine r_aload_n X dX5_readTape_23 rfl ?_
  refine r_iconst X dX5_readTape_24 (v := 0) rfl ?_
  refine r_put X fp_X5_52 dX5_readTape_25 (rp_0 t4) (by rw [ln]; decide) rfl rfl ?_
  have t5 := rpp_13 (x := 0) hi t4
  refine r_aload_n X dX5_readTape_28 rfl ?_
  refine r_iload_n X dX5_readTape_29 rfl ?_
  refine r_put X fp_X5_40 dX5_readTape_30 (rp_0 t5) (by rw [ln]; decide) rfl rfl ?_
  have t6 := rpp_9 (x := nI m) hi t5
  refine r_aload_n X dX5_readTape_33 rfl ?_
  refine r_iconst X dX5_readTape_34 (v := 0) rfl ?_
  refine r_put X fp_X5_34 dX5_readTape_35 (rp_0 t6) (by rw [ln]; decide) rfl rfl ?_
  have t7 := rpp_7 (x := 0) hi t6
  refine r_aload_n X dX5_readTape_38 rfl ?_
  refine r_iconst X dX5_readTape_39 (v := -1) rfl ?_
  refine r_put X fp_X5_37 dX5_readTape_40 (rp_0 t7) (by rw [ln]; decide) rfl rfl ?_
  have t8 : Rep rdF H lb 4 (LPr (tzc z (nI m)) f) _ := rpp_8 (x := -1) hi t7
  revert t8
  generalize List.set _ (lb 0) _ = h8
  intro t8
  have nul : ¬ (0 ≤ I kd ∧ I kd < 4) → PW p l e (rmD 30 3 488) s mm args below meth c G 5 (MQ below (pQ G Φ) args s 3 488 (pF G)) 0 0 h8 52 [some (vR (lb 0)), some (vI kd), some (vI (nI m)), none, none] [] := by
    intro q
    refine r_null X dX5_readTape_52 ?_
    exact r_ret_a X hr (Or.inl ⟨_, rfl⟩) hlk (v := none) dX5_readTape_53 (Nat.zero_le _) (Nat.zero_le _) (hno q h8 t8)
  refine r_iload_n X dX5_readTape_43 rfl ?_
  refine r_if_lt X dX5_readTape_44 (tgt := 52) rfl (fun q => nul (fun k => ?_)) (fun q => ?_)
  · have := Int32.lt_iff_toInt_lt.mp q
    have h0 : (0 : Int32).toInt = 0 := rfl
    have := k.1
    omega
  refine r_iload_n X dX5_readTape_47 rfl ?_
  refine r_iconst X dX5_readTape_48 (v := 4) rfl ?_
  refine r_icmp_lt X dX5_readTape_49 (tgt := 54) rfl (fun q2 => ?_) (fun q2 => nul (fun k => ?_))
  rotate_left
  · exact q2 (Int32.lt_iff_toInt_lt.mpr (by have h4 : (4 : Int32).toInt = 4 := rfl; have := k.2; omega))
  have k0 : 0 ≤ I kd := by
    rcases Int.lt_or_le (I kd) 0 with k | k
    · exact absurd (Int32.lt_iff_toInt_lt.mpr (by have h0 : (0 : Int32).toInt = 0 := rfl; omega)) q
    · exact k
  have k4 : I kd < 4 := by
    have := Int32.lt_iff_toInt_lt.mp q2
    have h4 : (4 : Int32).toInt = 4 := rfl
    omega
  obtain ⟨k, rfl, hk1, hk2⟩ := nI_ofI k0
  have hk : k < 4 := by omega
  refine r_aload_n X dX5_readTape_54 rfl ?_
  obtain ⟨c1, c2, c4, c11, c13, c9, c7, c8⟩ := tzc_at (z := z) (y := nI m)
  obtain ⟨z1, s1, s2, s3, s4, s5, s6⟩ := step_x 21 hn (Nat.zero_le n) (c2.trans h1) (show tzc z (nI m) 4 = nI 0 from c4) (f := f)
  refine r_callV X kv_X5_55 dX5_readTape_55 (As := []) (rest := []) rfl rfl (rp_0 t8) rfl (pcall_ok (l := l) (G := G) (H := H) hi 23 135 _ _ _ _ s1 _ t8) (chkC_ok (rt_room (by decide) (by decide) (Nat.zero_le 8))).1 (Nat.zero_le 8) ⟨Nat.zero_le 3, Nat.zero_le 488⟩ ?_
  rintro r h2 ⟨rfl, hR2⟩
  refine r_iconst X dX5_readTape_58 (v := 1) rfl ?_
  refine r_istore_n X dX5_readTape_59 (by decide) ?_
  refine r_iconst X dX5_readTape_60 (v := 0) rfl ?_
  refine r_istore X dX5_readTape_61 (by decide) ?_
  have kp : ∀ j, j ≠ 3 ∧ j ≠ 4 ∧ j ≠ 5 ∧ j ≠ 6 → z1 j = tzc z (nI m) j := fun j hj => s2.k j hj
  have hC : pcR (f 1) n (pxA (f 1) n (n + 1) 0) [] z1 f := ⟨⟨rfl, (kp 2 (by decide)).trans (c2.trans h1), hn⟩, ⟨_, _, _, _, pxAt_0 (f 1) n, s3, s4, s5, s6⟩, (kp 13 (by decide)).trans c13, trivial⟩
  have z111 : z1 11 = nI 0 := (kp 11 (by decide)).trans c11
  have z17 : z1 7 = 0 := (kp 7 (by decide)).trans c7
  have z18 : z1 8 = -1 := (kp 8 (by decide)).trans c8
  have z19 : z1 9 = nI m := (kp 9 (by decide)).trans c9
  have f0 : PL1 (tzc z (nI m)) f z1 f := s2.o
  have hlen : (pxA (f 1) n (n + 1) 0).length ≤ 401 := by
    have := pxA_len (f 1) n (n + 1) 0 (by omega) (by omega)
    omega
  by_cases e0 : k = 0
  · subst e0
    obtain ⟨hb, hg⟩ := hlaw rfl
    refine rtx_law X hr hlk hi 18 0 _ [] z1 f h2 rfl (by decide) hR2 hC z111 (by show 0 + _ ≤ 401; omega) (fun e' z' f' h' a1 a2 a3 a4 a5 => hb e' z' f' h' a1 a2 a3 a4 (f0.tr a5)) (fun L z' f' h' a1 a2 a3 a4 a5 a6 a7 a8 a9 a10 a11 => ?_)
    rw [Nat.zero_add] at a3 a4
    rw [List.nil_append] at a5 a8
    have kk := hg L z' f' h' a1 a2 a3 a5 a6 a8 (a9.trans z17) (a10.trans z18) (f0.tr a11)
    rw [a4, Nat.zero_add, List.nil_append]
    exact kk
  · have hk3 : k = 1 ∨ k = 2 ∨ k = 3 := by omega
    obtain ⟨hb, hg⟩ := hoth k hk3 rfl
    refine rtx_oth X hr hlk hi hk3 hm (Gp := pGk4 k) (pGk4_c k) (fun i ts z' f' b1 b2 b3 b4 => ?_) 18 0 _ z1 f h2 rfl (by decide) hR2 hC z111 z19 (fun e' z' f' h' a1 a2 a3 a4 a5 => hb e' z' f' h' a1 a2 a3 a4 (f0.tr a5)) (fun L z' f' h' a1 a2 a3 a4 a5 a6 a7 a8 a9 a10 => ?_)
    · rcases hk3 with rfl | rfl | rfl
      · exact pways 17 b1 b2 b3 b4 hm
      · exact psky 17 b1 b2 b3 b4 hm
      · exact ptwins 17 b1 b2 b3 b4 hm
    · rw [Nat.zero_add] at a3 a4
      have kk := hg L z' f' h' a1 a2 a3 a6 (a8.trans z17) (a9.trans z18) (f0.tr a10)
      rw [a4, Nat.zero_add]
      exact kk
