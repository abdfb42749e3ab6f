/-! the class's readTape, exactly -/
def pFs (lb : Nat → Nat) (z : Nat → Int32) : List PV := [vR (lb 1), vI (z 1), vI (z 2), vI (z 3), vI (z 4), vI (z 5), vI (z 6), vI (z 7), vI (z 8), vI (z 9), vR (lb 2), vI (z 11), vR (lb 3), vI (z 13)]
section RepP
variable {H h : PH} {lb : Nat → Nat} {z : Nat → Int32} {f : Nat → FA} {x : Int32}
theorem rp_0 (hR : Rep rdF H lb 4 (LPr z f) h) : h[lb 0]? = some (eO 5 (pFs lb z)) := hR.2.1 0 _ rfl
theorem rp_2 (hR : Rep rdF H lb 4 (LPr z f) h) : h[lb 2]? = some (eI 80 (f 2)) := hR.2.1 2 _ rfl
theorem rp_3 (hR : Rep rdF H lb 4 (LPr z f) h) : h[lb 3]? = some (eI 400 (f 3)) := hR.2.1 3 _ rfl
theorem rpp_1 (hi : LbI lb 4) (hR : Rep rdF H lb 4 (LPr z f) h) : Rep rdF H lb 4 (LPr (uZ z 1 x) f) (h.set (lb 0) (eO 5 ((pFs lb z).set 1 (vI x)))) := Rep.set (k := 0) (y := .inr (5, [vR 1, vI (uZ z 1 x 1), vI (uZ z 1 x 2), vI (uZ z 1 x 3), vI (uZ z 1 x 4), vI (uZ z 1 x 5), vI (uZ z 1 x 6), vI (uZ z 1 x 7), vI (uZ z 1 x 8), vI (uZ z 1 x 9), vR 2, vI (uZ z 1 x 11), vR 3, vI (uZ z 1 x 13)])) hi hR rfl
theorem rpp_2 (hi : LbI lb 4) (hR : Rep rdF H lb 4 (LPr z f) h) : Rep rdF H lb 4 (LPr (uZ z 2 x) f) (h.set (lb 0) (eO 5 ((pFs lb z).set 2 (vI x)))) := Rep.set (k := 0) (y := .inr (5, [vR 1, vI (uZ z 2 x 1), vI (uZ z 2 x 2), vI (uZ z 2 x 3), vI (uZ z 2 x 4), vI (uZ z 2 x 5), vI (uZ z 2 x 6), vI (uZ z 2 x 7), vI (uZ z 2 x 8), vI (uZ z 2 x 9), vR 2, vI (uZ z 2 x 11), vR 3, vI (uZ z 2 x 13)])) hi hR rfl
theorem rpp_4 (hi : LbI lb 4) (hR : Rep rdF H lb 4 (LPr z f) h) : Rep rdF H lb 4 (LPr (uZ z 4 x) f) (h.set (lb 0) (eO 5 ((pFs lb z).set 4 (vI x)))) := Rep.set (k := 0) (y := .inr (5, [vR 1, vI (uZ z 4 x 1), vI (uZ z 4 x 2), vI (uZ z 4 x 3), vI (uZ z 4 x 4), vI (uZ z 4 x 5), vI (uZ z 4 x 6), vI (uZ z 4 x 7), vI (uZ z 4 x 8), vI (uZ z 4 x 9), vR 2, vI (uZ z 4 x 11), vR 3, vI (uZ z 4 x 13)])) hi hR rfl
theorem rpp_7 (hi : LbI lb 4) (hR : Rep rdF H lb 4 (LPr z f) h) : Rep rdF H lb 4 (LPr (uZ z 7 x) f) (h.set (lb 0) (eO 5 ((pFs lb z).set 7 (vI x)))) := Rep.set (k := 0) (y := .inr (5, [vR 1, vI (uZ z 7 x 1), vI (uZ z 7 x 2), vI (uZ z 7 x 3), vI (uZ z 7 x 4), vI (uZ z 7 x 5), vI (uZ z 7 x 6), vI (uZ z 7 x 7), vI (uZ z 7 x 8), vI (uZ z 7 x 9), vR 2, vI (uZ z 7 x 11), vR 3, vI (uZ z 7 x 13)])) hi hR rfl
theorem rpp_8 (hi : LbI lb 4) (hR : Rep rdF H lb 4 (LPr z f) h) : Rep rdF H lb 4 (LPr (uZ z 8 x) f) (h.set (lb 0) (eO 5 ((pFs lb z).set 8 (vI x)))) := Rep.set (k := 0) (y := .inr (5, [vR 1, vI (uZ z 8 x 1), vI (uZ z 8 x 2), vI (uZ z 8 x 3), vI (uZ z 8 x 4), vI (uZ z 8 x 5), vI (uZ z 8 x 6), vI (uZ z 8 x 7), vI (uZ z 8 x 8), vI (uZ z 8 x 9), vR 2, vI (uZ z 8 x 11), vR 3, vI (uZ z 8 x 13)])) hi hR rfl
theorem rpp_9 (hi : LbI lb 4) (hR : Rep rdF H lb 4 (LPr z f) h) : Rep rdF H lb 4 (LPr (uZ z 9 x) f) (h.set (lb 0) (eO 5 ((pFs lb z).set 9 (vI x)))) := Rep.set (k := 0) (y := .inr (5, [vR 1, vI (uZ z 9 x 1), vI (uZ z 9 x 2), vI (uZ z 9 x 3), vI (uZ z 9 x 4), vI (uZ z 9 x 5), vI (uZ z 9 x 6), vI (uZ z 9 x 7), vI (uZ z 9 x 8), vI (uZ z 9 x 9), vR 2, vI (uZ z 9 x 11), vR 3, vI (uZ z 9 x 13)])) hi hR rfl
theorem rpp_11 (hi : LbI lb 4) (hR : Rep rdF H lb 4 (LPr z f) h) : Rep rdF H lb 4 (LPr (uZ z 11 x) f) (h.set (lb 0) (eO 5 ((pFs lb z).set 11 (vI x)))) := Rep.set (k := 0) (y := .inr (5, [vR 1, vI (uZ z 11 x 1), vI (uZ z 11 x 2), vI (uZ z 11 x 3), vI (uZ z 11 x 4), vI (uZ z 11 x 5), vI (uZ z 11 x 6), vI (uZ z 11 x 7), vI (uZ z 11 x 8), vI (uZ z 11 x 9), vR 2, vI (uZ z 11 x 11), vR 3, vI (uZ z 11 x 13)])) hi hR rfl
theorem rpp_13 (hi : LbI lb 4) (hR : Rep rdF H lb 4 (LPr z f) h) : Rep rdF H lb 4 (LPr (uZ z 13 x) f) (h.set (lb 0) (eO 5 ((pFs lb z).set 13 (vI x)))) := Rep.set (k := 0) (y := .inr (5, [vR 1, vI (uZ z 13 x 1), vI (uZ z 13 x 2), vI (uZ z 13 x 3), vI (uZ z 13 x 4), vI (uZ z 13 x 5), vI (uZ z 13 x 6), vI (uZ z 13 x 7), vI (uZ z 13 x 8), vI (uZ z 13 x 9), vR 2, vI (uZ z 13 x 11), vR 3, vI (uZ z 13 x 13)])) hi hR rfl
end RepP
/-- a line's own call -/
def pLc (k : Nat) (z1 : Nat → Int32) (f1 : Nat → FA) (b : Int32) (z2 : Nat → Int32) (f2 : Nat → FA) : Prop := (k = 0 → pcall 23 123 [vR 0] (LPr z1 f1) = some (some (vI b), LPr z2 f2)) ∧ (k ≠ 0 → pcall 23 127 [vR 0, vI (nI k)] (LPr z1 f1) = some (some (vI b), LPr z2 f2))
/-- a line of three calls, one of which tells a fault; or all three go well -/
def pCf (k : Nat) (z : Nat → Int32) (f : Nat → FA) (z' : Nat → Int32) (f' : Nat → FA) : Prop := pcall 23 126 [vR 0, vI (nI k)] (LPr z f) = some (some (vI 0), LPr z' f') ∨ (∃ z1 f1, pcall 23 126 [vR 0, vI (nI k)] (LPr z f) = some (some (vI 1), LPr z1 f1) ∧ pLc k z1 f1 0 z' f') ∨ ∃ z1 f1 z2 f2, pcall 23 126 [vR 0, vI (nI k)] (LPr z f) = some (some (vI 1), LPr z1 f1) ∧ pLc k z1 f1 1 z2 f2 ∧ pcall 23 133 [vR 0, vI 59] (LPr z2 f2) = some (some (vI 0), LPr z' f')
def pCo (k : Nat) (z : Nat → Int32) (f : Nat → FA) (z' : Nat → Int32) (f' : Nat → FA) : Prop := ∃ z1 f1 z2 f2, pcall 23 126 [vR 0, vI (nI k)] (LPr z f) = some (some (vI 1), LPr z1 f1) ∧ pLc k z1 f1 1 z2 f2 ∧ pcall 23 133 [vR 0, vI 59] (LPr z2 f2) = some (some (vI 1), LPr z' f')
section TapeX
variable {p : Program} {l : Launch} {e : Env} {s : State} {m : MethodId} {args : Array Value} {below : List Frame} {meth : Method} {c : Code} {G : PG} {H : PH} {lb : Nat → Nat} {Φ : Option PV → PH → Prop}
/-- the end with a fault -/
theorem rtx_bad (X : pX p s m args c G 5 cX5_readTape RX5) (hr : meth.sig.returnType = some (.object "ThumbBallot$Text")) (hlk : meth.locks = false) {h : PH} {l0 l1 l2 l4 : Option PV} (hΦ : Φ (some vN) h) :
    PW p l e (rmD 30 3 488) s m args below meth c G 5 (MQ below (pQ G Φ) args s 3 488 (pF G)) 0 0 h 143 [l0, l1, l2, some (vI 0), l4] [] := by
  refine r_iload_n X dX5_readTape_143 rfl ?_
  refine r_if_ne X dX5_readTape_144 (tgt := 149) rfl (fun q => absurd rfl q) (fun _ => ?_)
  refine r_null X dX5_readTape_147 ?_
  exact r_ret_a X hr (Or.inl ⟨_, rfl⟩) hlk (v := none) dX5_readTape_148 (Nat.zero_le _) (Nat.zero_le _) hΦ
/-- the end with a text -/
theorem rtx_good (X : pX p s m args c G 5 cX5_readTape RX5) (hr : meth.sig.returnType = some (.object "ThumbBallot$Text")) (hlk : meth.locks = false) {h : PH} {z : Nat → Int32} {f : Nat → FA} {k u : Nat} (hR : Rep rdF H lb 4 (LPr z f) h) (h11 : z 11 = nI k) (h13 : z 13 = nI u) (hk : k ≤ 17) (hu : u ≤ 400) {l1 l2 l4 : Option PV} (hΦ : Φ (some (vR h.length)) (h ++ [eO 8 [vR (h.length + 1), vI (nI k), vR (h.length + 2)], eI (5 * k) (cpO 80 (5 * k) (f 2)), eI u (cpO 400 u (f 3))])) :
    PW p l e (rmD 30 3 488) s m args below meth c G 5 (MQ below (pQ G Φ) args s 3 488 (pF G)) 0 0 h 143 [some (vR (lb 0)), l1, l2, some (vI 1), l4] [] := by
  refine r_iload_n X dX5_readTape_143 rfl ?_
  refine r_if_ne X dX5_readTape_144 (tgt := 149) rfl (fun _ => ?_) (fun q => absurd q (by decide))
  exact rt_tail X hr hlk (by decide) (rp_0 hR) rfl (by rw [← h11]; rfl) rfl (by rw [← h13]; rfl) (rp_2 hR) (rp_3 hR) hk hu hΦ
/-- fine is told, one line more -/
theorem rtx_fin (X : pX p s m args c G 5 cX5_readTape RX5) (hi : LbI lb 4) {k i : Nat} {y2 : Int32} {z' : Nat → Int32} {f' : Nat → FA} {h' : PH} {b : Int32} (q11 : z' 11 = nI i) (hR' : Rep rdF H lb 4 (LPr z' f') h') (hn : ∀ h'', Rep rdF H lb 4 (LPr (uZ z' 11 (nI (i + 1))) f') h'' → PW p l e (rmD 30 3 488) s m args below meth c G 5 (MQ below (pQ G Φ) args s 3 488 (pF G)) 0 0 h'' 63 [some (vR (lb 0)), some (vI (nI k)), some (vI y2), some (vI b), some (vI (nI (i + 1)))] []) : PW p l e (rmD 30 3 488) s m args below meth c G 5 (MQ below (pQ G Φ) args s 3 488 (pF G)) 0 0 h' 126 [some (vR (lb 0)), some (vI (nI k)), some (vI y2), some (vI 1), some (vI (nI i))] [vI b] := by
  refine r_istore_n X dX5_readTape_126 (by decide) ?_
  refine r_aload_n X dX5_readTape_127 rfl ?_
  refine r_dup X dX5_readTape_128 ?_
  refine r_get X fg_X5_46 dX5_readTape_129 (rp_0 hR') (show (pFs lb z')[11]? = some (vI (nI i)) from by rw [← q11]; rfl) ?_
  refine r_iconst X dX5_readTape_132 (v := 1) rfl ?_
  refine r_iadd X dX5_readTape_133 ?_
  have hs1 : nI i + 1 = nI (i + 1) := nI_add i 1
  rw [hs1]
  refine r_put X fp_X5_46 dX5_readTape_134 (rp_0 hR') (show 11 < (pFs lb z').length from by show 11 < 14; decide) rfl rfl ?_
  refine r_iinc X dX5_readTape_137 rfl (v := nI (i + 1)) (nI_add i 1) (by decide) ?_
  refine r_goto X dX5_readTape_140 (tgt := 63) rfl ?_
  exact hn _ (rpp_11 hi hR')
theorem rtx_125 (X : pX p s m args c G 5 cX5_readTape RX5) (hi : LbI lb 4) {k i : Nat} {y2 : Int32} {z' : Nat → Int32} {f' : Nat → FA} {h' : PH} (q11 : z' 11 = nI i) (hR' : Rep rdF H lb 4 (LPr z' f') h') (hn : ∀ h'', Rep rdF H lb 4 (LPr (uZ z' 11 (nI (i + 1))) f') h'' → PW p l e (rmD 30 3 488) s m args below meth c G 5 (MQ below (pQ G Φ) args s 3 488 (pF G)) 0 0 h'' 63 [some (vR (lb 0)), some (vI (nI k)), some (vI y2), some (vI 0), some (vI (nI (i + 1)))] []) : PW p l e (rmD 30 3 488) s m args below meth c G 5 (MQ below (pQ G Φ) args s 3 488 (pF G)) 0 0 h' 125 [some (vR (lb 0)), some (vI (nI k)), some (vI y2), some (vI 1), some (vI (nI i))] [] := by
  refine r_iconst X dX5_readTape_125 (v := 0) rfl ?_
  exact rtx_fin X hi q11 hR' hn
theorem rtx_pre (X : pX p s m args c G 5 cX5_readTape RX5) (hi : LbI lb 4) {k i : Nat} {y2 : Int32} {h : PH} {z : Nat → Int32} {f : Nat → FA} (hR : Rep rdF H lb 4 (LPr z f) h) (hi16 : i ≤ 16) (h5 : ¬ z 5 = 2) (kk : PW p l e (rmD 30 3 488) s m args below meth c G 5 (MQ below (pQ G Φ) args s 3 488 (pF G)) 0 0 h 84 [some (vR (lb 0)), some (vI (nI k)), some (vI y2), some (vI 1), some (vI (nI i))] [vI (nI k), vR (lb 0)]) : PW p l e (rmD 30 3 488) s m args below meth c G 5 (MQ below (pQ G Φ) args s 3 488 (pF G)) 0 0 h 63 [some (vR (lb 0)), some (vI (nI k)), some (vI y2), some (vI 1), some (vI (nI i))] [] := by
  have hi2 : (nI i).toInt = (i : Int) := nI_toInt (by omega)
  refine r_iload X dX5_readTape_63 rfl ?_
  refine r_bipush X dX5_readTape_65 (v := 16) rfl ?_
  refine r_icmp_gt_f X dX5_readTape_67 (tgt := 143) rfl (fun z => by have := Int32.lt_iff_toInt_lt.mp z; rw [hi2] at this; have h2 : (16 : Int32).toInt = 16 := rfl; omega) ?_
  refine r_iload_n X dX5_readTape_70 rfl ?_
  refine r_if_eq X dX5_readTape_71 (tgt := 143) rfl (fun q => absurd q (by decide)) (fun _ => ?_)
  refine r_aload_n X dX5_readTape_74 rfl ?_
  refine r_get X fg_X5_28 dX5_readTape_75 (rp_0 hR) (show (pFs lb z)[5]? = some (vI (z 5)) from rfl) ?_
  refine r_iconst X dX5_readTape_78 (v := 2) rfl ?_
  refine r_icmp_eq X dX5_readTape_79 (tgt := 143) rfl (fun q => absurd q h5) (fun _ => ?_)
  refine r_aload_n X dX5_readTape_82 rfl ?_
  refine r_iload_n X dX5_readTape_83 rfl ?_
  exact kk
theorem rtx_84 (X : pX p s m args c G 5 cX5_readTape RX5) (hi : LbI lb 4) {k i : Nat} {y2 : Int32} {h : PH} {z z1 : Nat → Int32} {f f1 : Nat → FA} {b : Int32} (hR : Rep rdF H lb 4 (LPr z f) h) (hc : pcall 23 126 [vR 0, vI (nI k)] (LPr z f) = some (some (vI b), LPr z1 f1)) (k0 : b = 0 → ∀ h', Rep rdF H lb 4 (LPr z1 f1) h' → PW p l e (rmD 30 3 488) s m args below meth c G 5 (MQ below (pQ G Φ) args s 3 488 (pF G)) 0 0 h' 125 [some (vR (lb 0)), some (vI (nI k)), some (vI y2), some (vI 1), some (vI (nI i))] []) (k1 : ¬ b = 0 → ∀ h', Rep rdF H lb 4 (LPr z1 f1) h' → PW p l e (rmD 30 3 488) s m args below meth c G 5 (MQ below (pQ G Φ) args s 3 488 (pF G)) 0 0 h' 90 [some (vR (lb 0)), some (vI (nI k)), some (vI y2), some (vI 1), some (vI (nI i))] []) : PW p l e (rmD 30 3 488) s m args below meth c G 5 (MQ below (pQ G Φ) args s 3 488 (pF G)) 0 0 h 84 [some (vR (lb 0)), some (vI (nI k)), some (vI y2), some (vI 1), some (vI (nI i))] [vI (nI k), vR (lb 0)] := by
  refine r_callV X kv_X5_58 dX5_readTape_84 (As := [vI (nI k)]) (rest := []) rfl rfl (rp_0 hR) rfl (pcall_ok (l := l) (G := G) (H := H) hi 23 126 _ _ _ _ hc _ hR) (chkC_ok (rt_room (by decide) (by decide) (Nat.zero_le 8))).1 (Nat.zero_le 8) ⟨Nat.zero_le 3, Nat.zero_le 488⟩ ?_
  rintro r h3 ⟨rfl, hR3⟩
  exact r_if_eq X dX5_readTape_87 (tgt := 125) rfl (fun q => k0 q h3 hR3) (fun q => k1 q h3 hR3)
theorem rtx_90 (X : pX p s m args c G 5 cX5_readTape RX5) (hi : LbI lb 4) {k i : Nat} {y2 : Int32} {h : PH} {z z1 : Nat → Int32} {f f1 : Nat → FA} {b : Int32} (hk : k < 4) (hR : Rep rdF H lb 4 (LPr z f) h) (hc : pLc k z f b z1 f1) (k0 : b = 0 → ∀ h', Rep rdF H lb 4 (LPr z1 f1) h' → PW p l e (rmD 30 3 488) s m args below meth c G 5 (MQ below (pQ G Φ) args s 3 488 (pF G)) 0 0 h' 125 [some (vR (lb 0)), some (vI (nI k)), some (vI y2), some (vI 1), some (vI (nI i))] []) (k1 : ¬ b = 0 → ∀ h', Rep rdF H lb 4 (LPr z1 f1) h' → PW p l e (rmD 30 3 488) s m args below meth c G 5 (MQ below (pQ G Φ) args s 3 488 (pF G)) 0 0 h' 112 [some (vR (lb 0)), some (vI (nI k)), some (vI y2), some (vI 1), some (vI (nI i))] []) : PW p l e (rmD 30 3 488) s m args below meth c G 5 (MQ below (pQ G Φ) args s 3 488 (pF G)) 0 0 h 90 [some (vR (lb 0)), some (vI (nI k)), some (vI y2), some (vI 1), some (vI (nI i))] [] := by
  refine r_iload_n X dX5_readTape_90 rfl ?_
  refine r_if_ne X dX5_readTape_91 (tgt := 104) rfl (fun q => ?_) (fun q => ?_)
  · have nk : k ≠ 0 := fun e => q (by rw [e]; rfl)
    refine r_aload_n X dX5_readTape_104 rfl ?_
    refine r_iload_n X dX5_readTape_105 rfl ?_
    refine r_callV X kv_X5_66 dX5_readTape_106 (As := [vI (nI k)]) (rest := []) rfl rfl (rp_0 hR) rfl (pcall_ok (l := l) (G := G) (H := H) hi 23 127 _ _ _ _ (hc.2 nk) _ hR) (chkC_ok (rt_room (by decide) (by decide) (Nat.zero_le 8))).1 (Nat.zero_le 8) ⟨Nat.zero_le 3, Nat.zero_le 488⟩ ?_
    rintro r h3 ⟨rfl, hR3⟩
    exact r_if_eq X dX5_readTape_109 (tgt := 125) rfl (fun q => k0 q h3 hR3) (fun q => k1 q h3 hR3)
  · have ek : k = 0 := by
      refine nI_inj (a := k) (b := 0) (by omega) (by omega) ?_
      exact q
    refine r_aload_n X dX5_readTape_94 rfl ?_
    refine r_callV X kv_X5_62 dX5_readTape_95 (As := []) (rest := []) rfl rfl (rp_0 hR) rfl (pcall_ok (l := l) (G := G) (H := H) hi 23 123 _ _ _ _ (hc.1 ek) _ hR) (chkC_ok (rt_room (by decide) (by decide) (Nat.zero_le 8))).1 (Nat.zero_le 8) ⟨Nat.zero_le 3, Nat.zero_le 488⟩ ?_
    rintro r h3 ⟨rfl, hR3⟩
    refine r_if_eq X dX5_readTape_98 (tgt := 125) rfl (fun q => k0 q h3 hR3) (fun q => ?_)
    refine r_goto X dX5_readTape_101 (tgt := 112) rfl ?_
    exact k1 q h3 hR3
theorem rtx_112 (X : pX p s m args c G 5 cX5_readTape RX5) (hi : LbI lb 4) {k i : Nat} {y2 : Int32} {h : PH} {z z1 : Nat → Int32} {f f1 : Nat → FA} {b : Int32} (hR : Rep rdF H lb 4 (LPr z f) h) (hc : pcall 23 133 [vR 0, vI 59] (LPr z f) = some (some (vI b), LPr z1 f1)) (k0 : b = 0 → ∀ h', Rep rdF H lb 4 (LPr z1 f1) h' → PW p l e (rmD 30 3 488) s m args below meth c G 5 (MQ below (pQ G Φ) args s 3 488 (pF G)) 0 0 h' 125 [some (vR (lb 0)), some (vI (nI k)), some (vI y2), some (vI 1), some (vI (nI i))] []) (k1 : ¬ b = 0 → ∀ h', Rep rdF H lb 4 (LPr z1 f1) h' → PW p l e (rmD 30 3 488) s m args below meth c G 5 (MQ below (pQ G Φ) args s 3 488 (pF G)) 0 0 h' 126 [some (vR (lb 0)), some (vI (nI k)), some (vI y2), some (vI 1), some (vI (nI i))] [vI 1]) : PW p l e (rmD 30 3 488) s m args below meth c G 5 (MQ below (pQ G Φ) args s 3 488 (pF G)) 0 0 h 112 [some (vR (lb 0)), some (vI (nI k)), some (vI y2), some (vI 1), some (vI (nI i))] [] := by
  refine r_aload_n X dX5_readTape_112 rfl ?_
  refine r_bipush X dX5_readTape_113 (v := 59) rfl ?_
  refine r_callV X kv_X5_69 dX5_readTape_115 (As := [vI 59]) (rest := []) rfl rfl (rp_0 hR) rfl (pcall_ok (l := l) (G := G) (H := H) hi 23 133 _ _ _ _ hc _ hR) (chkC_ok (rt_room (by decide) (by decide) (Nat.zero_le 8))).1 (Nat.zero_le 8) ⟨Nat.zero_le 3, Nat.zero_le 488⟩ ?_
  rintro r h3 ⟨rfl, hR3⟩
  refine r_if_eq X dX5_readTape_118 (tgt := 125) rfl (fun q => k0 q h3 hR3) (fun q => ?_)
  refine r_iconst X dX5_readTape_121 (v := 1) rfl ?_
  refine r_goto X dX5_readTape_122 (tgt := 126) rfl ?_
  exact k1 q h3 hR3
theorem rtx_lineF (X : pX p s m args c G 5 cX5_readTape RX5) (hi : LbI lb 4) {k i : Nat} {y2 : Int32} {h : PH} {z z' : Nat → Int32} {f f' : Nat → FA} (hk : k < 4) (hR : Rep rdF H lb 4 (LPr z f) h) (hi16 : i ≤ 16) (h5 : ¬ z 5 = 2) (hc : pCf k z f z' f') (q11 : z' 11 = nI i) (hn : ∀ h'', Rep rdF H lb 4 (LPr (uZ z' 11 (nI (i + 1))) f') h'' → PW p l e (rmD 30 3 488) s m args below meth c G 5 (MQ below (pQ G Φ) args s 3 488 (pF G)) 0 0 h'' 63 [some (vR (lb 0)), some (vI (nI k)), some (vI y2), some (vI 0), some (vI (nI (i + 1)))] []) : PW p l e (rmD 30 3 488) s m args below meth c G 5 (MQ below (pQ G Φ) args s 3 488 (pF G)) 0 0 h 63 [some (vR (lb 0)), some (vI (nI k)), some (vI y2), some (vI 1), some (vI (nI i))] [] := by
  refine rtx_pre X hi hR hi16 h5 ?_
  rcases hc with hc | ⟨z1, f1, c1, hl⟩ | ⟨z1, f1, z2, f2, c1, hl, hs⟩
  · exact rtx_84 X hi hR hc (fun _ h1 hR1 => rtx_125 X hi q11 hR1 hn) (fun q => absurd rfl q)
  · exact rtx_84 X hi hR c1 (fun q => absurd q (by decide)) (fun _ h1 hR1 => rtx_90 X hi hk hR1 hl (fun _ h2 hR2 => rtx_125 X hi q11 hR2 hn) (fun q => absurd rfl q))
  · exact rtx_84 X hi hR c1 (fun q => absurd q (by decide)) (fun _ h1 hR1 => rtx_90 X hi hk hR1 hl (fun q => absurd q (by decide)) (fun _ h2 hR2 => rtx_112 X hi hR2 hs (fun _ h3 hR3 => rtx_125 X hi q11 hR3 hn) (fun q => absurd rfl q)))
theorem rtx_lineG (X : pX p s m args c G 5 cX5_readTape RX5) (hi : LbI lb 4) {k i : Nat} {y2 : Int32} {h : PH} {z z' : Nat → Int32} {f f' : Nat → FA} (hk : k < 4) (hR : Rep rdF H lb 4 (LPr z f) h) (hi16 : i ≤ 16) (h5 : ¬ z 5 = 2) (hc : pCo k z f z' f') (q11 : z' 11 = nI i) (hn : ∀ h'', Rep rdF H lb 4 (LPr (uZ z' 11 (nI (i + 1))) f') h'' → PW p l e (rmD 30 3 488) s m args below meth c G 5 (MQ below (pQ G Φ) args s 3 488 (pF G)) 0 0 h'' 63 [some (vR (lb 0)), some (vI (nI k)), some (vI y2), some (vI 1), some (vI (nI (i + 1)))] []) : PW p l e (rmD 30 3 488) s m args below meth c G 5 (MQ below (pQ G Φ) args s 3 488 (pF G)) 0 0 h 63 [some (vR (lb 0)), some (vI (nI k)), some (vI y2), some (vI 1), some (vI (nI i))] [] := by
  refine rtx_pre X hi hR hi16 h5 ?_
  obtain ⟨z1, f1, z2, f2, c1, hl, hs⟩ := hc
  exact rtx_84 X hi hR c1 (fun q => absurd q (by decide)) (fun _ h1 hR1 => rtx_90 X hi hk hR1 hl (fun q => absurd q (by decide)) (fun _ h2 hR2 => rtx_112 X hi hR2 hs (fun q => absurd q (by decide)) (fun _ h3 hR3 => rtx_fin X hi q11 hR3 hn)))
/-- at the loop's head with a fault: null -/
theorem rtx_63n (X : pX p s m args c G 5 cX5_readTape RX5) (hr : meth.sig.returnType = some (.object "ThumbBallot$Text")) (hlk : meth.locks = false) {k i : Nat} {y2 : Int32} {h : PH} (hi17 : i ≤ 17) (hΦ : Φ (some vN) h) : PW p l e (rmD 30 3 488) s m args below meth c G 5 (MQ below (pQ G Φ) args s 3 488 (pF G)) 0 0 h 63 [some (vR (lb 0)), some (vI (nI k)), some (vI y2), some (vI 0), some (vI (nI i))] [] := by
  refine r_iload X dX5_readTape_63 rfl ?_
  refine r_bipush X dX5_readTape_65 (v := 16) rfl ?_
  by_cases c17 : i = 17
  · subst c17
    refine r_icmp_gt_t X dX5_readTape_67 (tgt := 143) rfl (by decide) ?_
    exact rtx_bad X hr hlk hΦ
  · have hi2 : (nI i).toInt = (i : Int) := nI_toInt (by omega)
    refine r_icmp_gt_f X dX5_readTape_67 (tgt := 143) rfl (fun z => by have := Int32.lt_iff_toInt_lt.mp z; rw [hi2] at this; have h2 : (16 : Int32).toInt = 16 := rfl; omega) ?_
    refine r_iload_n X dX5_readTape_70 rfl ?_
    refine r_if_eq X dX5_readTape_71 (tgt := 143) rfl (fun _ => rtx_bad X hr hlk hΦ) (fun q => absurd rfl q)
/-- at the loop's head at the tape's end: the text -/
theorem rtx_63e (X : pX p s m args c G 5 cX5_readTape RX5) {k i : Nat} {y2 : Int32} {h : PH} {z : Nat → Int32} {f : Nat → FA} (hR : Rep rdF H lb 4 (LPr z f) h) (hi16 : i ≤ 16) (h5 : z 5 = 2) (kk : PW p l e (rmD 30 3 488) s m args below meth c G 5 (MQ below (pQ G Φ) args s 3 488 (pF G)) 0 0 h 143 [some (vR (lb 0)), some (vI (nI k)), some (vI y2), some (vI 1), some (vI (nI i))] []) : PW p l e (rmD 30 3 488) s m args below meth c G 5 (MQ below (pQ G Φ) args s 3 488 (pF G)) 0 0 h 63 [some (vR (lb 0)), some (vI (nI k)), some (vI y2), some (vI 1), some (vI (nI i))] [] := by
  have hi2 : (nI i).toInt = (i : Int) := nI_toInt (by omega)
  refine r_iload X dX5_readTape_63 rfl ?_
  refine r_bipush X dX5_readTape_65 (v := 16) rfl ?_
  refine r_icmp_gt_f X dX5_readTape_67 (tgt := 143) rfl (fun z => by have := Int32.lt_iff_toInt_lt.mp z; rw [hi2] at this; have h2 : (16 : Int32).toInt = 16 := rfl; omega) ?_
  refine r_iload_n X dX5_readTape_70 rfl ?_
  refine r_if_eq X dX5_readTape_71 (tgt := 143) rfl (fun q => absurd q (by decide)) (fun _ => ?_)
  refine r_aload_n X dX5_readTape_74 rfl ?_
  refine r_get X fg_X5_28 dX5_readTape_75 (rp_0 hR) (show (pFs lb z)[5]? = some (vI (z 5)) from rfl) ?_
  refine r_iconst X dX5_readTape_78 (v := 2) rfl ?_
  exact r_icmp_eq X dX5_readTape_79 (tgt := 143) rfl (fun _ => kk) (fun q => absurd h5 q)
end TapeX
