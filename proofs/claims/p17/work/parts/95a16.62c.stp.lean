/-! the class's reader over a heap of four cells -/
def LPr (z : Nat → Int32) (f : Nat → FA) : QH FA := .inr (5, [vR 1, vI (z 1), vI (z 2), vI (z 3), vI (z 4), vI (z 5), vI (z 6), vI (z 7), vI (z 8), vI (z 9), vR 2, vI (z 11), vR 3, vI (z 13)]) :: .inl (.inl (0, 400, f 1)) :: .inl (.inl (0, 80, f 2)) :: .inl (.inl (0, 400, f 3)) :: []
theorem chkC_i {D d maxL sl : Nat} (h1 : d + 1 ≤ D) (h2 : 8 + (maxL + 11) + 64 * d ≤ 64 * D) (h3 : sl ≤ 8) : chkC (rmD D 0 0) d maxL sl 0 0 0 0 = true := by
  unfold chkC
  simp only [Bool.and_eq_true, Nat.ble_eq]
  exact ⟨h1, h2, h3, Nat.le_refl _, Nat.le_refl _⟩
theorem sB_d {i : Nat} (hi : i < 131) : sByt.drop i = sByt.getD i 0 :: sByt.drop (i + 1) := by
  have hl : sByt.length = 131 := by decide +kernel
  have e : sByt.getD i 0 = sByt[i]'(by omega) := by
    rw [List.getD, List.getElem?_eq_getElem (by omega)]
    rfl
  rw [e]
  exact List.drop_eq_getElem_cons (by omega)
def wB (al : Bool) : Int32 := if al = true then 1 else 0
section WordX
variable {p : Program} {l : Launch} {e : Env} {s : State} {m : MethodId} {args : Array Value} {below : List Frame} {meth : Method} {c : Code} {G : PG} {h : PH}
theorem wox_loop (X : pX p s m args c G 8 cX5_wordOf RX5) (hr : meth.sig.returnType = some .int) (hlk : meth.locks = false) {D : Nat} (hD : 4 ≤ D) {b a N : Nat} {fs : List PV} {f : Nat → Int32} {A B n : Nat} (hb : h[b]? = some (eO 5 fs)) (hs : fs[0]? = some (vR a)) (hc : fs[2]? = some (vI (nI n))) (ha : h[a]? = some (eI N f)) (hN : n ≤ N) (hBn : B ≤ n) (hAB : A ≤ B) (hn : n ≤ 400) {Φ : Option PV → PH → Prop} :
    ∀ (t i : Nat), i + t = 131 → ∀ (w x : Nat) (al : Bool) (w7 : Option PV), x ≤ A + i → w ≤ 300 + i → Φ (some (vI (nI (pxs f A B (sByt.drop i) w x al)))) h →
      PW p l e (rmD D 0 0) s m args below meth c G 8 (MQ below (pQ G Φ) args s 0 0 (pF G)) 0 0 h 13 [some (vR b), some (vI (nI A)), some (vI (nI B)), some (vI (nI w)), some (vI (nI x)), some (vI (wB al)), some (vI (nI i)), w7] [] := by
  intro t
  induction t with
  | zero =>
    intro i hi w x al w7 hx hw hΦ
    obtain rfl : i = 131 := by omega
    have ed : pxs f A B (sByt.drop 131) w x al = if al = true ∧ x = B then w else 3 := by
      rw [show sByt.drop 131 = [] from by decide +kernel]
      rfl
    refine r_iload X dX5_wordOf_13 rfl ?_
    refine r_ldcS X dX5_wordOf_15 ?_
    refine r_Vs0i X kv_X5_95 rfl dX5_wordOf_17 c_Jlen (chkC_i (by omega) (by omega) (Nat.le_of_ble_eq_true rfl)) ?_
    rintro y h' ⟨rfl, rfl⟩
    refine r_icmp_ge_t X dX5_wordOf_20 (tgt := 112) rfl (by decide) ?_
    refine r_iload X dX5_wordOf_112 rfl ?_
    refine r_if_eq X dX5_wordOf_114 (tgt := 127) rfl (fun q => ?_) (fun q => ?_)
    · refine r_iconst X dX5_wordOf_127 (v := 3) rfl ?_
      refine r_ret_i X hr hlk dX5_wordOf_128 (Nat.le_refl _) (Nat.le_refl _) ?_
      rw [ed, if_neg (fun c => by rw [c.1] at q; exact absurd q (by decide))] at hΦ
      exact hΦ
    · refine r_iload X dX5_wordOf_117 rfl ?_
      refine r_iload_n X dX5_wordOf_119 rfl ?_
      refine r_icmp_ne X dX5_wordOf_120 (tgt := 127) rfl (fun q2 => ?_) (fun q2 => ?_)
      · refine r_iconst X dX5_wordOf_127 (v := 3) rfl ?_
        refine r_ret_i X hr hlk dX5_wordOf_128 (Nat.le_refl _) (Nat.le_refl _) ?_
        rw [ed, if_neg (fun c => q2 (by rw [c.2]))] at hΦ
        exact hΦ
      · refine r_iload_n X dX5_wordOf_123 rfl ?_
        refine r_goto X dX5_wordOf_124 (tgt := 128) rfl ?_
        refine r_ret_i X hr hlk dX5_wordOf_128 (Nat.le_refl _) (Nat.le_refl _) ?_
        have e2 := nI_inj (by omega) (by omega) q2
        have e3 : al = true := by
          cases al with
          | true => rfl
          | false => exact absurd rfl q
        rw [ed, if_pos ⟨e3, e2⟩] at hΦ
        exact hΦ
  | succ t ih =>
    intro i hi w x al w7 hx hw hΦ
    have hi2 : (nI i).toInt = (i : Int) := nI_toInt (by omega)
    have hlt : nI i < 131 := Int32.lt_iff_toInt_lt.mpr (by rw [hi2]; show (i : Int) < 131; omega)
    have hi0 : ¬ nI i < 0 := fun z => by have := Int32.lt_iff_toInt_lt.mp z; rw [hi2] at this; have h2 : (0 : Int32).toInt = 0 := rfl; omega
    have hin : vp_in (nI i) 131 := vp_in_nI (by omega) (by omega)
    have hinc : nI i + Int32.ofInt 1 = nI (i + 1) := nI_add i 1
    have hcl : (nI i).toNatClampNeg = i := by
      rw [ix_clamp (by rw [ix_nI (j := i) (by omega)]; omega)]
      exact ix_nI (by omega)
    refine r_iload X dX5_wordOf_13 rfl ?_
    refine r_ldcS X dX5_wordOf_15 ?_
    refine r_Vs0i X kv_X5_95 rfl dX5_wordOf_17 c_Jlen (chkC_i (by omega) (by omega) (Nat.le_of_ble_eq_true rfl)) ?_
    rintro y h' ⟨rfl, rfl⟩
    refine r_icmp_ge_f X dX5_wordOf_20 (tgt := 112) rfl (Int32.not_le.mpr hlt) ?_
    refine r_ldcS X dX5_wordOf_23 ?_
    refine r_iload X dX5_wordOf_25 rfl ?_
    refine r_Vs1i X kv_X5_100 rfl dX5_wordOf_27 (c_Jchar hin hi0 hlt) (chkC_i (by omega) (by omega) (Nat.le_of_ble_eq_true rfl)) ?_
    rintro y h' ⟨hy, rfl⟩
    rw [hcl] at hy
    rw [sB_d (by omega), ← hy] at hΦ
    refine r_istore X dX5_wordOf_30 (by decide) ?_
    refine r_iload X dX5_wordOf_32 rfl ?_
    refine r_bipush X dX5_wordOf_34 (v := 32) rfl ?_
    -- the end of a round
    have next : ∀ (v' x' : Nat) (al' : Bool), x' ≤ A + (i + 1) → v' ≤ 300 + (i + 1) → pxs f A B (y :: sByt.drop (i + 1)) w x al = pxs f A B (sByt.drop (i + 1)) v' x' al' → PW p l e (rmD D 0 0) s m args below meth c G 8 (MQ below (pQ G Φ) args s 0 0 (pF G)) 0 0 h' 106 [some (vR b), some (vI (nI A)), some (vI (nI B)), some (vI (nI v')), some (vI (nI x')), some (vI (wB al')), some (vI (nI i)), some (vI y)] [] := by
      intro v' x' al' g1 g2 g3
      rw [g3] at hΦ
      refine r_iinc X dX5_wordOf_106 rfl hinc (by decide) ?_
      refine r_goto X dX5_wordOf_109 (tgt := 13) rfl ?_
      exact ih (i + 1) (by omega) v' x' al' _ g1 g2 hΦ
    have e4 : nI x + Int32.ofInt 1 = nI (x + 1) := nI_add x 1
    have e3 : nI w + Int32.ofInt 1 = nI (w + 1) := nI_add w 1
    have four : ∀ (al' : Bool), ¬ y = 32 → al' = (al && decide (x < B ∧ f x = y)) → PW p l e (rmD D 0 0) s m args below meth c G 8 (MQ below (pQ G Φ) args s 0 0 (pF G)) 0 0 h' 101 [some (vR b), some (vI (nI A)), some (vI (nI B)), some (vI (nI w)), some (vI (nI x)), some (vI (wB al)), some (vI (nI i)), some (vI y)] [vI (wB al')] := by
      intro al' q1 q2
      refine r_istore X dX5_wordOf_101 (by decide) ?_
      refine r_iinc X dX5_wordOf_103 rfl e4 (by decide) ?_
      refine next w (x + 1) al' (by omega) (by omega) ?_
      rw [q2]
      exact if_neg q1
    have bare : ¬ y = 32 → false = (al && decide (x < B ∧ f x = y)) → PW p l e (rmD D 0 0) s m args below meth c G 8 (MQ below (pQ G Φ) args s 0 0 (pF G)) 0 0 h' 100 [some (vR b), some (vI (nI A)), some (vI (nI B)), some (vI (nI w)), some (vI (nI x)), some (vI (wB al)), some (vI (nI i)), some (vI y)] [] := by
      intro q1 q2
      refine r_iconst X dX5_wordOf_100 (v := 0) rfl ?_
      exact four false q1 q2
    have fresh : y = 32 → ¬ (al = true ∧ x = B) → PW p l e (rmD D 0 0) s m args below meth c G 8 (MQ below (pQ G Φ) args s 0 0 (pF G)) 0 0 h' 52 [some (vR b), some (vI (nI A)), some (vI (nI B)), some (vI (nI w)), some (vI (nI x)), some (vI (wB al)), some (vI (nI i)), some (vI y)] [] := by
      intro q1 q2
      refine r_iinc X dX5_wordOf_52 rfl e3 (by decide) ?_
      refine r_iload_n X dX5_wordOf_55 rfl ?_
      refine r_istore X dX5_wordOf_56 (by decide) ?_
      refine r_iconst X dX5_wordOf_58 (v := 1) rfl ?_
      refine r_istore X dX5_wordOf_59 (by decide) ?_
      refine r_goto X dX5_wordOf_61 (tgt := 106) rfl ?_
      refine next (w + 1) A true (by omega) (by omega) ?_
      show (if y = 32 then (if al = true ∧ x = B then w else pxs f A B (sByt.drop (i + 1)) (w + 1) A true) else _) = _
      rw [if_pos q1, if_neg q2]
    refine r_icmp_ne X dX5_wordOf_36 (tgt := 64) rfl (fun q => ?_) (fun q => ?_)
    · refine r_iload X dX5_wordOf_64 rfl ?_
      refine r_if_eq X dX5_wordOf_66 (tgt := 100) rfl (fun q2 => bare q ?_) (fun q2 => ?_)
      · cases al with
        | true => exact absurd q2 (by decide)
        | false => rfl
      have ea : al = true := by
        cases al with
        | true => rfl
        | false => exact absurd rfl q2
      refine r_iload X dX5_wordOf_69 rfl ?_
      refine r_iload_n X dX5_wordOf_71 rfl ?_
      have ix1 : (nI x).toInt = (x : Int) := nI_toInt (by omega)
      have iB : (nI B).toInt = (B : Int) := nI_toInt (by omega)
      have inn : (nI n).toInt = (n : Int) := nI_toInt (by omega)
      refine r_icmp_ge X dX5_wordOf_72 (tgt := 100) rfl (fun q3 => bare q ?_) (fun q3 => ?_)
      · have := Int32.le_iff_toInt_le.mp q3
        rw [ea, decide_eq_false (fun c => by have := c.1; omega)]
        rfl
      have q4 : x < B := by have := Int32.lt_iff_toInt_lt.mp (Int32.not_le.mp q3); omega
      refine r_iload X dX5_wordOf_75 rfl ?_
      refine r_aload_n X dX5_wordOf_77 rfl ?_
      refine r_get X fg_X5_19 dX5_wordOf_78 hb hc ?_
      refine r_icmp_ge_f X dX5_wordOf_81 (tgt := 100) rfl (fun q5 => by have := Int32.le_iff_toInt_le.mp q5; omega) ?_
      refine r_aload_n X dX5_wordOf_84 rfl ?_
      refine r_get X fg_X5_9 dX5_wordOf_85 hb hs ?_
      refine r_iload X dX5_wordOf_88 rfl ?_
      have xcl : (nI x).toNatClampNeg = x := by
        rw [ix_clamp (by rw [ix_nI (j := x) (by omega)]; omega)]
        exact ix_nI (by omega)
      refine r_iald X dX5_wordOf_90 ha (vinT (by rw [ix1]; omega) (by rw [ix1]; omega)) ?_
      rw [xcl]
      refine r_iload X dX5_wordOf_91 rfl ?_
      refine r_icmp_ne X dX5_wordOf_93 (tgt := 100) rfl (fun q5 => bare q ?_) (fun q5 => ?_)
      · rw [ea, decide_eq_false (fun c => q5 c.2)]
        rfl
      refine r_iconst X dX5_wordOf_96 (v := 1) rfl ?_
      refine r_goto X dX5_wordOf_97 (tgt := 101) rfl ?_
      refine four true q ?_
      rw [ea, decide_eq_true ⟨q4, q5⟩]
      rfl
    · refine r_iload X dX5_wordOf_39 rfl ?_
      refine r_if_eq X dX5_wordOf_41 (tgt := 52) rfl (fun q2 => fresh q (fun c => by rw [c.1] at q2; exact absurd q2 (by decide))) (fun q2 => ?_)
      refine r_iload X dX5_wordOf_44 rfl ?_
      refine r_iload_n X dX5_wordOf_46 rfl ?_
      refine r_icmp_ne X dX5_wordOf_47 (tgt := 52) rfl (fun q3 => fresh q (fun c => q3 (by rw [c.2]))) (fun q3 => ?_)
      refine r_iload_n X dX5_wordOf_50 rfl ?_
      refine r_ret_i X hr hlk dX5_wordOf_51 (Nat.le_refl _) (Nat.le_refl _) ?_
      have ea : al = true := by
        cases al with
        | true => rfl
        | false => exact absurd rfl q2
      have e2 := nI_inj (by omega) (by omega) q3
      have e5 : pxs f A B (y :: sByt.drop (i + 1)) w x al = w := by
        show (if y = 32 then (if al = true ∧ x = B then w else _) else _) = w
        rw [if_pos q, if_pos ⟨ea, e2⟩]
      rw [e5] at hΦ
      exact hΦ
end WordX
theorem c_wordX {l : Launch} {G : PG} {h : PH} {D : Nat} (hD : 4 ≤ D) {b a N : Nat} {fs : List PV} {f : Nat → Int32} {A B n : Nat} (hb : h[b]? = some (eO 5 fs)) (hs : fs[0]? = some (vR a)) (hc : fs[2]? = some (vI (nI n))) (ha : h[a]? = some (eI N f)) (hN : n ≤ N) (hBn : B ≤ n) (hAB : A ≤ B) (hn : n ≤ 400) {Φ : Option PV → PH → Prop} (hΦ : Φ (some (vI (nI (pxw f A B)))) h) : PMet l G yX5_wordOf cX5_wordOf 8 (some .int) D 0 0 [vR b, vI (nI A), vI (nI B)] h Φ := by
  refine PMet.intro rfl (show 3 ≤ 8 by decide) ?_
  intro p e s m args below meth c X hr hlk hnm
  refine r_sipush X dX5_wordOf_0 (v := 300) rfl ?_
  refine r_istore_n X dX5_wordOf_3 (by decide) ?_
  refine r_iload_n X dX5_wordOf_4 rfl ?_
  refine r_istore X dX5_wordOf_5 (by decide) ?_
  refine r_iconst X dX5_wordOf_7 (v := 1) rfl ?_
  refine r_istore X dX5_wordOf_8 (by decide) ?_
  refine r_iconst X dX5_wordOf_10 (v := 0) rfl ?_
  refine r_istore X dX5_wordOf_11 (by decide) ?_
  exact wox_loop (e := e) (below := below) X hr hlk hD hb hs hc ha hN hBn hAB hn 131 0 rfl 300 A true none (by omega) (by omega) (by rw [show sByt.drop 0 = sByt from rfl, pxs_S]; exact hΦ)
/-- what wordOf answers over such a heap -/
def Wd (As : List PV) (L : QH FA) (r : Int32) : Prop := ∃ (z : Nat → Int32) (f : Nat → FA) (a b n : Nat), As = [vR 0, vI (nI a), vI (nI b)] ∧ L = LPr z f ∧ a ≤ b ∧ b ≤ n ∧ n ≤ 400 ∧ z 2 = nI n ∧ r = nI (pxw (f 1) a b)
theorem Wd_u {As : List PV} {L : QH FA} {r r' : Int32} (h : Wd As L r) (h' : Wd As L r') : r = r' := by
  obtain ⟨z, f, a, b, n, h1, h2, h3, h4, h5, h6, rfl⟩ := h
  obtain ⟨z', f', a', b', n', k1, k2, k3, k4, k5, k6, rfl⟩ := h'
  have e : [vR 0, vI (nI a), vI (nI b)] = [vR 0, vI (nI a'), vI (nI b')] := h1.symm.trans k1
  have e1 := (List.cons.inj e).2
  have e2 : nI a = nI a' := Sum.inl.inj (List.cons.inj e1).1
  have e3 : nI b = nI b' := Sum.inl.inj (List.cons.inj (List.cons.inj e1).2).1
  have e4 : f 1 = f' 1 := by
    have q : nth (LPr z f) 1 = nth (LPr z' f') 1 := by rw [← h2, ← k2]
    have q : some (.inl (.inl (0, 400, f 1)) : QE FA) = some (.inl (.inl (0, 400, f' 1))) := q
    exact congrArg (fun x : Nat × Nat × FA => x.2.2) (Sum.inl.inj (Sum.inl.inj (Option.some.inj q)))
  rw [nI_inj (by omega) (by omega) e2, nI_inj (by omega) (by omega) e3, e4]
noncomputable def pcall : Nat → QC FA
  | 0 => fun _ _ _ => none
  | d + 1 => fun k As L => @ite _ (k = 137) (Classical.propDecidable _) (@dite _ (∃ r, Wd As L r) (Classical.propDecidable _) (fun h => some (some (vI (Classical.choose h)), L)) (fun _ => none)) (@dite _ ((mGd k ∧ Nat.ble As.length (mN k) = true) ∧ ∃ res, RC (pcall d) (mP k) 0 (lsA k As) [] L res) (Classical.propDecidable _) (fun h => some (Classical.choose h.2)) (fun _ => none))
theorem pcall_w {d : Nat} {As : List PV} {L : QH FA} {r : Int32} (h : Wd As L r) : pcall (d + 1) 137 As L = some (some (vI r), L) := by
  have hh : ∃ r, Wd As L r := ⟨r, h⟩
  unfold pcall
  rw [if_pos rfl, dif_pos hh, Wd_u (Classical.choose_spec hh) h]
theorem pcall_i {d k : Nat} {As : List PV} {L : QH FA} {res : Option PV × QH FA} (hk : k ≠ 137) (hg : mGd k) (hl : Nat.ble As.length (mN k) = true) (h : RC (pcall d) (mP k) 0 (lsA k As) [] L res) : pcall (d + 1) k As L = some res := by
  have hh : (mGd k ∧ Nat.ble As.length (mN k) = true) ∧ ∃ res, RC (pcall d) (mP k) 0 (lsA k As) [] L res := ⟨⟨hg, hl⟩, res, h⟩
  unfold pcall
  rw [if_neg hk, dif_pos hh]
  exact congrArg some ((Classical.choose_spec hh.2).uniq h)
theorem pcall_ok {l : Launch} {G : PG} {H : PH} {lb : Nat → Nat} {N0 : Nat} (hi : LbI lb N0) : ∀ d, hCall rdF l G (d + 3) H lb N0 (pcall d) := by
  intro d
  induction d with
  | zero => intro k As L r L' hc; cases hc
  | succ d ih =>
    intro k As L r L' hc h hR
    unfold pcall at hc
    by_cases hk : k = 137
    · subst hk
      rw [if_pos rfl] at hc
      split at hc
      · rename_i hh
        have e := Option.some.inj hc
        obtain ⟨z, f, a, b, n, h1, h2, h3, h4, h5, h6, h7⟩ := Classical.choose_spec hh
        rw [h7] at e
        have er : r = some (vI (nI (pxw (f 1) a b))) := (congrArg Prod.fst e).symm
        have eL : L' = L := (congrArg Prod.snd e).symm
        subst h1 h2
        subst er eL
        have g0 := hR.2.1 0 _ rfl
        have g1 := hR.2.1 1 _ rfl
        exact c_wordX (l := l) (G := G) (D := d + 1 + 3) (by omega) (b := lb 0) (a := lb 1) (fs := [vR (lb 1), vI (z 1), vI (z 2), vI (z 3), vI (z 4), vI (z 5), vI (z 6), vI (z 7), vI (z 8), vI (z 9), vR (lb 2), vI (z 11), vR (lb 3), vI (z 13)]) (N := 400) (f := f 1) (A := a) (B := b) (n := n) g0 rfl (by rw [← h6]; rfl) g1 h5 h4 h3 h5 ⟨rfl, hR⟩
      · cases hc
    · rw [if_neg hk] at hc
      split at hc
      · rename_i hh
        have e := Option.some.inj hc
        obtain ⟨N, hN⟩ := Classical.choose_spec hh.2
        rw [e] at hN
        exact rx_met1 (d := d + 3) hh.1.1 hi hh.1.2 ih (hN N (Nat.le_refl _)) hR
      · cases hc
set_option maxRecDepth 100000 in
theorem bp124_1 (call : QC FA) (x0 : Int32) (L : QH FA) (F : Nat) : rnG call 124 (F + 2) 0 [some (vI x0)] [] L = rnG call 124 F 2 [some (vI x0)] [vI 97, vI x0] L := rfl
set_option maxRecDepth 100000 in
theorem bp124_2 (call : QC FA) (x y : Int32) (ls : List (Option PV)) (L : QH FA) (F : Nat) : rnG call 124 (F + 1) 2 ls [vI y, vI x] L = bif pcmp 2 x y then rnG call 124 F 6 ls [] L else rnG call 124 F 3 ls [] L := rfl
set_option maxRecDepth 100000 in
theorem bp124_3 (call : QC FA) (x0 : Int32) (L : QH FA) (F : Nat) : rnG call 124 (F + 2) 6 [some (vI x0)] [] L = rnG call 124 F 8 [some (vI x0)] [vI 65, vI x0] L := rfl
set_option maxRecDepth 100000 in
theorem bp124_4 (call : QC FA) (x y : Int32) (ls : List (Option PV)) (L : QH FA) (F : Nat) : rnG call 124 (F + 1) 8 ls [vI y, vI x] L = bif pcmp 2 x y then rnG call 124 F 14 ls [] L else rnG call 124 F 9 ls [] L := rfl
set_option maxRecDepth 100000 in
theorem bp124_5 (call : QC FA) (x0 : Int32) (L : QH FA) (F : Nat) : rnG call 124 (F + 1) 14 [some (vI x0)] [] L = rnG call 124 F 15 [some (vI x0)] [vI 0] L := rfl
set_option maxRecDepth 100000 in
theorem bp124_6 (call : QC FA) (ls : List (Option PV)) (L : QH FA) (F : Nat) : rnG call 124 (F + 1) 15 ls [vI 0] L = some (some (vI 0), L) := rfl
set_option maxRecDepth 100000 in
theorem bp124_7 (call : QC FA) (x0 : Int32) (L : QH FA) (F : Nat) : rnG call 124 (F + 2) 9 [some (vI x0)] [] L = rnG call 124 F 11 [some (vI x0)] [vI 90, vI x0] L := rfl
set_option maxRecDepth 100000 in
theorem bp124_8 (call : QC FA) (x y : Int32) (ls : List (Option PV)) (L : QH FA) (F : Nat) : rnG call 124 (F + 1) 11 ls [vI y, vI x] L = bif pcmp 4 x y then rnG call 124 F 14 ls [] L else rnG call 124 F 12 ls [] L := rfl
set_option maxRecDepth 100000 in
theorem bp124_9 (call : QC FA) (x0 : Int32) (L : QH FA) (F : Nat) : rnG call 124 (F + 2) 12 [some (vI x0)] [] L = rnG call 124 F 15 [some (vI x0)] [vI 1] L := rfl
set_option maxRecDepth 100000 in
theorem bp124_10 (call : QC FA) (ls : List (Option PV)) (L : QH FA) (F : Nat) : rnG call 124 (F + 1) 15 ls [vI 1] L = some (some (vI 1), L) := rfl
set_option maxRecDepth 100000 in
theorem bp124_11 (call : QC FA) (x0 : Int32) (L : QH FA) (F : Nat) : rnG call 124 (F + 2) 3 [some (vI x0)] [] L = rnG call 124 F 5 [some (vI x0)] [vI 122, vI x0] L := rfl
set_option maxRecDepth 100000 in
theorem bp124_12 (call : QC FA) (x y : Int32) (ls : List (Option PV)) (L : QH FA) (F : Nat) : rnG call 124 (F + 1) 5 ls [vI y, vI x] L = bif pcmp 5 x y then rnG call 124 F 12 ls [] L else rnG call 124 F 6 ls [] L := rfl
theorem vcp124_0 (call : QC FA) (x0 : Int32) (z : Nat → Int32) (f : Nat → FA) (res : Option PV × QH FA) (H : ((I x0 < 97 → ((I x0 < 65 → res = (some (vI 0), LPr z f)) ∧ (65 ≤ I x0 → ((90 < I x0 → res = (some (vI 0), LPr z f)) ∧ (I x0 ≤ 90 → res = (some (vI 1), LPr z f)))))) ∧ (97 ≤ I x0 → ((I x0 ≤ 122 → res = (some (vI 1), LPr z f)) ∧ (122 < I x0 → ((I x0 < 65 → res = (some (vI 0), LPr z f)) ∧ (65 ≤ I x0 → ((90 < I x0 → res = (some (vI 0), LPr z f)) ∧ (I x0 ≤ 90 → res = (some (vI 1), LPr z f)))))))))) : RC call (mP 124) 0 [some (vI x0)] [] (LPr z f) res := by
  refine rc_b (i' := 2) (ls' := [some (vI x0)]) (st' := [vI 97, vI x0]) (L' := LPr z f) 2 (bp124_1 call x0 _) ?_
  refine rc_if (it := 6) (ie := 3) (ls' := [some (vI x0)]) (st' := []) (bp124_2 call x0 97 _ _) (fun q1 => ?_) (fun q1 => ?_)
  · have H := H.1 (cI2t q1 rfl rfl)
    refine rc_b (i' := 8) (ls' := [some (vI x0)]) (st' := [vI 65, vI x0]) (L' := LPr z f) 2 (bp124_3 call x0 _) ?_
    refine rc_if (it := 14) (ie := 9) (ls' := [some (vI x0)]) (st' := []) (bp124_4 call x0 65 _ _) (fun q2 => ?_) (fun q2 => ?_)
    · have H := H.1 (cI2t q2 rfl rfl)
      refine rc_b (i' := 15) (ls' := [some (vI x0)]) (st' := [vI 0]) (L' := LPr z f) 1 (bp124_5 call x0 _) ?_
      subst H
      exact rc_ret (bp124_6 call _ _)
    · have H := H.2 (cI2f q2 rfl rfl)
      refine rc_b (i' := 11) (ls' := [some (vI x0)]) (st' := [vI 90, vI x0]) (L' := LPr z f) 2 (bp124_7 call x0 _) ?_
      refine rc_if (it := 14) (ie := 12) (ls' := [some (vI x0)]) (st' := []) (bp124_8 call x0 90 _ _) (fun q3 => ?_) (fun q3 => ?_)
      · have H := H.1 (cI4t q3 rfl rfl)
        refine rc_b (i' := 15) (ls' := [some (vI x0)]) (st' := [vI 0]) (L' := LPr z f) 1 (bp124_5 call x0 _) ?_
        subst H
        exact rc_ret (bp124_6 call _ _)
      · have H := H.2 (cI4f q3 rfl rfl)
        refine rc_b (i' := 15) (ls' := [some (vI x0)]) (st' := [vI 1]) (L' := LPr z f) 2 (bp124_9 call x0 _) ?_
        subst H
        exact rc_ret (bp124_10 call _ _)
  · have H := H.2 (cI2f q1 rfl rfl)
    refine rc_b (i' := 5) (ls' := [some (vI x0)]) (st' := [vI 122, vI x0]) (L' := LPr z f) 2 (bp124_11 call x0 _) ?_
    refine rc_if (it := 12) (ie := 6) (ls' := [some (vI x0)]) (st' := []) (bp124_12 call x0 122 _ _) (fun q4 => ?_) (fun q4 => ?_)
    · have H := H.1 (cI5t q4 rfl rfl)
      refine rc_b (i' := 15) (ls' := [some (vI x0)]) (st' := [vI 1]) (L' := LPr z f) 2 (bp124_9 call x0 _) ?_
      subst H
      exact rc_ret (bp124_10 call _ _)
    · have H := H.2 (cI5f q4 rfl rfl)
      refine rc_b (i' := 8) (ls' := [some (vI x0)]) (st' := [vI 65, vI x0]) (L' := LPr z f) 2 (bp124_3 call x0 _) ?_
      refine rc_if (it := 14) (ie := 9) (ls' := [some (vI x0)]) (st' := []) (bp124_4 call x0 65 _ _) (fun q5 => ?_) (fun q5 => ?_)
      · have H := H.1 (cI2t q5 rfl rfl)
        refine rc_b (i' := 15) (ls' := [some (vI x0)]) (st' := [vI 0]) (L' := LPr z f) 1 (bp124_5 call x0 _) ?_
        subst H
        exact rc_ret (bp124_6 call _ _)
      · have H := H.2 (cI2f q5 rfl rfl)
        refine rc_b (i' := 11) (ls' := [some (vI x0)]) (st' := [vI 90, vI x0]) (L' := LPr z f) 2 (bp124_7 call x0 _) ?_
        refine rc_if (it := 14) (ie := 12) (ls' := [some (vI x0)]) (st' := []) (bp124_8 call x0 90 _ _) (fun q6 => ?_) (fun q6 => ?_)
        · have H := H.1 (cI4t q6 rfl rfl)
          refine rc_b (i' := 15) (ls' := [some (vI x0)]) (st' := [vI 0]) (L' := LPr z f) 1 (bp124_5 call x0 _) ?_
          subst H
          exact rc_ret (bp124_6 call _ _)
        · have H := H.2 (cI4f q6 rfl rfl)
          refine rc_b (i' := 15) (ls' := [some (vI x0)]) (st' := [vI 1]) (L' := LPr z f) 2 (bp124_9 call x0 _) ?_
          subst H
          exact rc_ret (bp124_10 call _ _)
set_option maxRecDepth 100000 in
theorem bp120_1 (call : QC FA) (x0 : Int32) (L : QH FA) (F : Nat) : rnG call 120 (F + 2) 0 [some (vI x0)] [] L = rnG call 120 F 2 [some (vI x0)] [vI 48, vI x0] L := rfl
set_option maxRecDepth 100000 in
theorem bp120_2 (call : QC FA) (x y : Int32) (ls : List (Option PV)) (L : QH FA) (F : Nat) : rnG call 120 (F + 1) 2 ls [vI y, vI x] L = bif pcmp 2 x y then rnG call 120 F 8 ls [] L else rnG call 120 F 3 ls [] L := rfl
set_option maxRecDepth 100000 in
theorem bp120_3 (call : QC FA) (x0 : Int32) (L : QH FA) (F : Nat) : rnG call 120 (F + 1) 8 [some (vI x0)] [] L = rnG call 120 F 9 [some (vI x0)] [vI 0] L := rfl
set_option maxRecDepth 100000 in
theorem bp120_4 (call : QC FA) (ls : List (Option PV)) (L : QH FA) (F : Nat) : rnG call 120 (F + 1) 9 ls [vI 0] L = some (some (vI 0), L) := rfl
set_option maxRecDepth 100000 in
theorem bp120_5 (call : QC FA) (x0 : Int32) (L : QH FA) (F : Nat) : rnG call 120 (F + 2) 3 [some (vI x0)] [] L = rnG call 120 F 5 [some (vI x0)] [vI 57, vI x0] L := rfl
set_option maxRecDepth 100000 in
theorem bp120_6 (call : QC FA) (x y : Int32) (ls : List (Option PV)) (L : QH FA) (F : Nat) : rnG call 120 (F + 1) 5 ls [vI y, vI x] L = bif pcmp 4 x y then rnG call 120 F 8 ls [] L else rnG call 120 F 6 ls [] L := rfl
set_option maxRecDepth 100000 in
theorem bp120_7 (call : QC FA) (x0 : Int32) (L : QH FA) (F : Nat) : rnG call 120 (F + 2) 6 [some (vI x0)] [] L = rnG call 120 F 9 [some (vI x0)] [vI 1] L := rfl
set_option maxRecDepth 100000 in
theorem bp120_8 (call : QC FA) (ls : List (Option PV)) (L : QH FA) (F : Nat) : rnG call 120 (F + 1) 9 ls [vI 1] L = some (some (vI 1), L) := rfl
theorem vcp120_0 (call : QC FA) (x0 : Int32) (z : Nat → Int32) (f : Nat → FA) (res : Option PV × QH FA) (H : ((I x0 < 48 → res = (some (vI 0), LPr z f)) ∧ (48 ≤ I x0 → ((57 < I x0 → res = (some (vI 0), LPr z f)) ∧ (I x0 ≤ 57 → res = (some (vI 1), LPr z f)))))) : RC call (mP 120) 0 [some (vI x0)] [] (LPr z f) res := by
  refine rc_b (i' := 2) (ls' := [some (vI x0)]) (st' := [vI 48, vI x0]) (L' := LPr z f) 2 (bp120_1 call x0 _) ?_
  refine rc_if (it := 8) (ie := 3) (ls' := [some (vI x0)]) (st' := []) (bp120_2 call x0 48 _ _) (fun q1 => ?_) (fun q1 => ?_)
  · have H := H.1 (cI2t q1 rfl rfl)
    refine rc_b (i' := 9) (ls' := [some (vI x0)]) (st' := [vI 0]) (L' := LPr z f) 1 (bp120_3 call x0 _) ?_
    subst H
    exact rc_ret (bp120_4 call _ _)
  · have H := H.2 (cI2f q1 rfl rfl)
    refine rc_b (i' := 5) (ls' := [some (vI x0)]) (st' := [vI 57, vI x0]) (L' := LPr z f) 2 (bp120_5 call x0 _) ?_
    refine rc_if (it := 8) (ie := 6) (ls' := [some (vI x0)]) (st' := []) (bp120_6 call x0 57 _ _) (fun q2 => ?_) (fun q2 => ?_)
    · have H := H.1 (cI4t q2 rfl rfl)
      refine rc_b (i' := 9) (ls' := [some (vI x0)]) (st' := [vI 0]) (L' := LPr z f) 1 (bp120_3 call x0 _) ?_
      subst H
      exact rc_ret (bp120_4 call _ _)
    · have H := H.2 (cI4f q2 rfl rfl)
      refine rc_b (i' := 9) (ls' := [some (vI x0)]) (st' := [vI 1]) (L' := LPr z f) 2 (bp120_7 call x0 _) ?_
      subst H
      exact rc_ret (bp120_8 call _ _)
set_option maxRecDepth 100000 in
theorem bp138_1 (call : QC FA) (x1 : Int32) (L : QH FA) (F : Nat) : rnG call 138 (F + 2) 0 [some (vR 0), some (vI x1)] [] L = rnG call 138 F 2 [some (vR 0), some (vI x1)] [vI x1, vR 0] L := rfl
set_option maxRecDepth 100000 in
theorem bp138_2 (call : QC FA) (y : Int32) (ls : List (Option PV)) (z : Nat → Int32) (f : Nat → FA) (F : Nat) : rnG call 138 (F + 1) 2 ls [vI y, vR 0] (LPr z f) = rnG call 138 F 3 ls [] (LPr (uZ z 7 y) f) := rfl
set_option maxRecDepth 100000 in
theorem bp138_3 (call : QC FA) (x1 : Int32) (z : Nat → Int32) (f : Nat → FA) (F : Nat) : rnG call 138 (F + 3) 3 [some (vR 0), some (vI x1)] [] (LPr z f) = rnG call 138 F 6 [some (vR 0), some (vI x1)] [vI (z 3), vR 0] (LPr z f) := rfl
set_option maxRecDepth 100000 in
theorem bp138_4 (call : QC FA) (y : Int32) (ls : List (Option PV)) (z : Nat → Int32) (f : Nat → FA) (F : Nat) : rnG call 138 (F + 1) 6 ls [vI y, vR 0] (LPr z f) = rnG call 138 F 7 ls [] (LPr (uZ z 8 y) f) := rfl
set_option maxRecDepth 100000 in
theorem bp138_5 (call : QC FA) (x1 : Int32) (L : QH FA) (F : Nat) : rnG call 138 (F + 1) 7 [some (vR 0), some (vI x1)] [] L = rnG call 138 F 8 [some (vR 0), some (vI x1)] [vI 0] L := rfl
set_option maxRecDepth 100000 in
theorem bp138_6 (call : QC FA) (ls : List (Option PV)) (L : QH FA) (F : Nat) : rnG call 138 (F + 1) 8 ls [vI 0] L = some (some (vI 0), L) := rfl
theorem vcp138_0 (call : QC FA) (x1 : Int32) (z : Nat → Int32) (f : Nat → FA) (res : Option PV × QH FA) (H : res = (some (vI 0), LPr (uZ (uZ z 7 x1) 8 (z 3)) f)) : RC call (mP 138) 0 [some (vR 0), some (vI x1)] [] (LPr z f) res := by
  refine rc_b (i' := 2) (ls' := [some (vR 0), some (vI x1)]) (st' := [vI x1, vR 0]) (L' := LPr z f) 2 (bp138_1 call x1 _) ?_
  refine rc_b (i' := 3) (ls' := [some (vR 0), some (vI x1)]) (st' := []) (L' := LPr (uZ z 7 x1) f) 1 (bp138_2 call x1 _ z f) ?_
  refine rc_b (i' := 6) (ls' := [some (vR 0), some (vI x1)]) (st' := [vI (z 3), vR 0]) (L' := LPr (uZ z 7 x1) f) 3 (bp138_3 call x1 (uZ z 7 x1) f) ?_
  refine rc_b (i' := 7) (ls' := [some (vR 0), some (vI x1)]) (st' := []) (L' := LPr (uZ (uZ z 7 x1) 8 (z 3)) f) 1 (bp138_4 call (z 3) _ (uZ z 7 x1) f) ?_
  refine rc_b (i' := 8) (ls' := [some (vR 0), some (vI x1)]) (st' := [vI 0]) (L' := LPr (uZ (uZ z 7 x1) 8 (z 3)) f) 1 (bp138_5 call x1 _) ?_
  subst H
  exact rc_ret (bp138_6 call _ _)
set_option maxRecDepth 100000 in
theorem bp135_1 (call : QC FA) (z : Nat → Int32) (f : Nat → FA) (F : Nat) : rnG call 135 (F + 4) 0 [some (vR 0)] [] (LPr z f) = rnG call 135 F 4 [some (vR 0)] [vI (z 2), vI (z 4)] (LPr z f) := rfl
set_option maxRecDepth 100000 in
theorem bp135_2 (call : QC FA) (x y : Int32) (ls : List (Option PV)) (L : QH FA) (F : Nat) : rnG call 135 (F + 1) 4 ls [vI y, vI x] L = bif pcmp 3 x y then rnG call 135 F 26 ls [] L else rnG call 135 F 5 ls [] L := rfl
set_option maxRecDepth 100000 in
theorem bp135_3 (call : QC FA) (z : Nat → Int32) (f : Nat → FA) (F : Nat) : rnG call 135 (F + 3) 26 [some (vR 0)] [] (LPr z f) = rnG call 135 F 29 [some (vR 0)] [vI (z 4), vR 0] (LPr z f) := rfl
set_option maxRecDepth 100000 in
theorem bp135_4 (call : QC FA) (y : Int32) (ls : List (Option PV)) (z : Nat → Int32) (f : Nat → FA) (F : Nat) : rnG call 135 (F + 1) 29 ls [vI y, vR 0] (LPr z f) = rnG call 135 F 30 ls [] (LPr (uZ z 3 y) f) := rfl
set_option maxRecDepth 100000 in
theorem bp135_5 (call : QC FA) (z : Nat → Int32) (f : Nat → FA) (F : Nat) : rnG call 135 (F + 4) 30 [some (vR 0)] [] (LPr z f) = rnG call 135 F 34 [some (vR 0)] [vI (z 2), vI (z 4)] (LPr z f) := rfl
set_option maxRecDepth 100000 in
theorem bp135_6 (call : QC FA) (x y : Int32) (ls : List (Option PV)) (L : QH FA) (F : Nat) : rnG call 135 (F + 1) 34 ls [vI y, vI x] L = bif pcmp 2 x y then rnG call 135 F 39 ls [] L else rnG call 135 F 35 ls [] L := rfl
set_option maxRecDepth 100000 in
theorem bp135_7 (call : QC FA) (z : Nat → Int32) (f : Nat → FA) (F : Nat) : rnG call 135 (F + 4) 39 [some (vR 0)] [] (LPr z f) = rnG call 135 F 43 [some (vR 0)] [vI (z 4), vR 1] (LPr z f) := rfl
set_option maxRecDepth 100000 in
theorem bp135_8 (call : QC FA) (x : Int32) (ls : List (Option PV)) (z : Nat → Int32) (f : Nat → FA) (F : Nat) : rnG call 135 (F + 1) 43 ls [vI x, vR 1] (LPr z f) = bif (Nat.beq 0 0 && pin x 400) then rnG call 135 F 44 ls [vI (f 1 (ix x))] (LPr z f) else none := rfl
set_option maxRecDepth 100000 in
theorem bp135_9 (call : QC FA) (a0 : Int32) (ls : List (Option PV)) (z : Nat → Int32) (f : Nat → FA) (F : Nat) : rnG call 135 (F + 1) 44 ls [vI a0] (LPr z f) = cbd (call 124 [vI a0] (LPr z f)) (fun r L' => rnG call 135 F 45 ls (r.toList ++ []) L') := pcZ (ih := rnG call 135 F) (call := call) (a := 124) (b := 1) (t := 45) (ls := ls) (As := [vI a0]) (st' := []) (L := LPr z f) rfl rfl
set_option maxRecDepth 100000 in
theorem bp135_10 (call : QC FA) (x : Int32) (ls : List (Option PV)) (L : QH FA) (F : Nat) : rnG call 135 (F + 1) 45 ls [vI x] L = bif pcmp 0 x 0 then rnG call 135 F 74 ls [] L else rnG call 135 F 46 ls [] L := rfl
set_option maxRecDepth 100000 in
theorem bp135_11 (call : QC FA) (z : Nat → Int32) (f : Nat → FA) (F : Nat) : rnG call 135 (F + 4) 74 [some (vR 0)] [] (LPr z f) = rnG call 135 F 78 [some (vR 0)] [vI (z 4), vR 1] (LPr z f) := rfl
set_option maxRecDepth 100000 in
theorem bp135_12 (call : QC FA) (x : Int32) (ls : List (Option PV)) (z : Nat → Int32) (f : Nat → FA) (F : Nat) : rnG call 135 (F + 1) 78 ls [vI x, vR 1] (LPr z f) = bif (Nat.beq 0 0 && pin x 400) then rnG call 135 F 79 ls [vI (f 1 (ix x))] (LPr z f) else none := rfl
set_option maxRecDepth 100000 in
theorem bp135_13 (call : QC FA) (a0 : Int32) (ls : List (Option PV)) (z : Nat → Int32) (f : Nat → FA) (F : Nat) : rnG call 135 (F + 1) 79 ls [vI a0] (LPr z f) = cbd (call 120 [vI a0] (LPr z f)) (fun r L' => rnG call 135 F 80 ls (r.toList ++ []) L') := pcZ (ih := rnG call 135 F) (call := call) (a := 120) (b := 1) (t := 80) (ls := ls) (As := [vI a0]) (st' := []) (L := LPr z f) rfl rfl
set_option maxRecDepth 100000 in
theorem bp135_14 (call : QC FA) (x : Int32) (ls : List (Option PV)) (L : QH FA) (F : Nat) : rnG call 135 (F + 1) 80 ls [vI x] L = bif pcmp 0 x 0 then rnG call 135 F 130 ls [] L else rnG call 135 F 81 ls [] L := rfl
set_option maxRecDepth 100000 in
theorem bp135_15 (call : QC FA) (z : Nat → Int32) (f : Nat → FA) (F : Nat) : rnG call 135 (F + 5) 130 [some (vR 0)] [] (LPr z f) = rnG call 135 F 135 [some (vR 0)] [vI (z 4), vR 1, vR 0] (LPr z f) := rfl
set_option maxRecDepth 100000 in
theorem bp135_16 (call : QC FA) (x : Int32) (ls : List (Option PV)) (z : Nat → Int32) (f : Nat → FA) (F : Nat) : rnG call 135 (F + 1) 135 ls [vI x, vR 1, vR 0] (LPr z f) = bif (Nat.beq 0 0 && pin x 400) then rnG call 135 F 136 ls [vI (f 1 (ix x)), vR 0] (LPr z f) else none := rfl
set_option maxRecDepth 100000 in
theorem bp135_17 (call : QC FA) (s0 : Int32) (L : QH FA) (F : Nat) : rnG call 135 (F + 1) 136 [some (vR 0)] [vI s0, vR 0] L = rnG call 135 F 137 [some (vR 0)] [vI 40, vI s0, vR 0] L := rfl
set_option maxRecDepth 100000 in
theorem bp135_18 (call : QC FA) (x y : Int32) (ls : List (Option PV)) (L : QH FA) (F : Nat) : rnG call 135 (F + 1) 137 ls [vI y, vI x, vR 0] L = bif pcmp 2 x y then rnG call 135 F 151 ls [vR 0] L else rnG call 135 F 138 ls [vR 0] L := rfl
set_option maxRecDepth 100000 in
theorem bp135_19 (call : QC FA) (L : QH FA) (F : Nat) : rnG call 135 (F + 1) 151 [some (vR 0)] [vR 0] L = rnG call 135 F 152 [some (vR 0)] [vI 3, vR 0] L := rfl
set_option maxRecDepth 100000 in
theorem bp135_20 (call : QC FA) (y : Int32) (ls : List (Option PV)) (z : Nat → Int32) (f : Nat → FA) (F : Nat) : rnG call 135 (F + 1) 152 ls [vI y, vR 0] (LPr z f) = rnG call 135 F 153 ls [] (LPr (uZ z 5 y) f) := rfl
set_option maxRecDepth 100000 in
theorem bp135_21 (call : QC FA) (z : Nat → Int32) (f : Nat → FA) (F : Nat) : rnG call 135 (F + 5) 153 [some (vR 0)] [] (LPr z f) = rnG call 135 F 158 [some (vR 0)] [vI ((z 4) + 1), vR 0] (LPr z f) := rfl
set_option maxRecDepth 100000 in
theorem bp135_22 (call : QC FA) (y : Int32) (ls : List (Option PV)) (z : Nat → Int32) (f : Nat → FA) (F : Nat) : rnG call 135 (F + 1) 158 ls [vI y, vR 0] (LPr z f) = rnG call 135 F 159 ls [] (LPr (uZ z 4 y) f) := rfl
set_option maxRecDepth 100000 in
theorem bp135_23 (call : QC FA) (ls : List (Option PV)) (L : QH FA) (F : Nat) : rnG call 135 (F + 1) 159 ls [] L = some (none, L) := rfl
set_option maxRecDepth 100000 in
theorem bp135_24 (call : QC FA) (z : Nat → Int32) (f : Nat → FA) (F : Nat) : rnG call 135 (F + 4) 138 [some (vR 0)] [vR 0] (LPr z f) = rnG call 135 F 142 [some (vR 0)] [vI (z 4), vR 1, vR 0] (LPr z f) := rfl
set_option maxRecDepth 100000 in
theorem bp135_25 (call : QC FA) (x : Int32) (ls : List (Option PV)) (z : Nat → Int32) (f : Nat → FA) (F : Nat) : rnG call 135 (F + 1) 142 ls [vI x, vR 1, vR 0] (LPr z f) = bif (Nat.beq 0 0 && pin x 400) then rnG call 135 F 143 ls [vI (f 1 (ix x)), vR 0] (LPr z f) else none := rfl
set_option maxRecDepth 100000 in
theorem bp135_26 (call : QC FA) (s0 : Int32) (L : QH FA) (F : Nat) : rnG call 135 (F + 1) 143 [some (vR 0)] [vI s0, vR 0] L = rnG call 135 F 144 [some (vR 0)] [vI 62, vI s0, vR 0] L := rfl
set_option maxRecDepth 100000 in
theorem bp135_27 (call : QC FA) (x y : Int32) (ls : List (Option PV)) (L : QH FA) (F : Nat) : rnG call 135 (F + 1) 144 ls [vI y, vI x, vR 0] L = bif pcmp 4 x y then rnG call 135 F 151 ls [vR 0] L else rnG call 135 F 145 ls [vR 0] L := rfl
set_option maxRecDepth 100000 in
theorem bp135_28 (call : QC FA) (z : Nat → Int32) (f : Nat → FA) (F : Nat) : rnG call 135 (F + 4) 145 [some (vR 0)] [vR 0] (LPr z f) = rnG call 135 F 149 [some (vR 0)] [vI (z 4), vR 1, vR 0] (LPr z f) := rfl
set_option maxRecDepth 100000 in
theorem bp135_29 (call : QC FA) (x : Int32) (ls : List (Option PV)) (z : Nat → Int32) (f : Nat → FA) (F : Nat) : rnG call 135 (F + 1) 149 ls [vI x, vR 1, vR 0] (LPr z f) = bif (Nat.beq 0 0 && pin x 400) then rnG call 135 F 150 ls [vI (f 1 (ix x)), vR 0] (LPr z f) else none := rfl
set_option maxRecDepth 100000 in
theorem bp135_30 (call : QC FA) (s0 : Int32) (L : QH FA) (F : Nat) : rnG call 135 (F + 1) 150 [some (vR 0)] [vI s0, vR 0] L = rnG call 135 F 152 [some (vR 0)] [vI s0, vR 0] L := rfl
set_option maxRecDepth 100000 in
theorem bp135_31 (call : QC FA) (L : QH FA) (F : Nat) : rnG call 135 (F + 2) 81 [some (vR 0)] [] L = rnG call 135 F 83 [some (vR 0)] [vI 0, vR 0] L := rfl
set_option maxRecDepth 100000 in
theorem bp135_32 (call : QC FA) (y : Int32) (ls : List (Option PV)) (z : Nat → Int32) (f : Nat → FA) (F : Nat) : rnG call 135 (F + 1) 83 ls [vI y, vR 0] (LPr z f) = rnG call 135 F 84 ls [] (LPr (uZ z 6 y) f) := rfl
set_option maxRecDepth 100000 in
theorem bp135_33 (call : QC FA) (L : QH FA) (F : Nat) : rnG call 135 (F + 2) 35 [some (vR 0)] [] L = rnG call 135 F 37 [some (vR 0)] [vI 2, vR 0] L := rfl
set_option maxRecDepth 100000 in
theorem bp135_34 (call : QC FA) (y : Int32) (ls : List (Option PV)) (z : Nat → Int32) (f : Nat → FA) (F : Nat) : rnG call 135 (F + 1) 37 ls [vI y, vR 0] (LPr z f) = rnG call 135 F 38 ls [] (LPr (uZ z 5 y) f) := rfl
set_option maxRecDepth 100000 in
theorem bp135_35 (call : QC FA) (L : QH FA) (F : Nat) : rnG call 135 (F + 1) 38 [some (vR 0)] [] L = rnG call 135 F 159 [some (vR 0)] [] L := rfl
set_option maxRecDepth 100000 in
theorem bp135_36 (call : QC FA) (z : Nat → Int32) (f : Nat → FA) (F : Nat) : rnG call 135 (F + 4) 5 [some (vR 0)] [] (LPr z f) = rnG call 135 F 9 [some (vR 0)] [vI (z 4), vR 1] (LPr z f) := rfl
set_option maxRecDepth 100000 in
theorem bp135_37 (call : QC FA) (x : Int32) (ls : List (Option PV)) (z : Nat → Int32) (f : Nat → FA) (F : Nat) : rnG call 135 (F + 1) 9 ls [vI x, vR 1] (LPr z f) = bif (Nat.beq 0 0 && pin x 400) then rnG call 135 F 10 ls [vI (f 1 (ix x))] (LPr z f) else none := rfl
set_option maxRecDepth 100000 in
theorem bp135_38 (call : QC FA) (s0 : Int32) (L : QH FA) (F : Nat) : rnG call 135 (F + 1) 10 [some (vR 0)] [vI s0] L = rnG call 135 F 11 [some (vR 0)] [vI 32, vI s0] L := rfl
set_option maxRecDepth 100000 in
theorem bp135_39 (call : QC FA) (x y : Int32) (ls : List (Option PV)) (L : QH FA) (F : Nat) : rnG call 135 (F + 1) 11 ls [vI y, vI x] L = bif pcmp 0 x y then rnG call 135 F 19 ls [] L else rnG call 135 F 12 ls [] L := rfl
set_option maxRecDepth 100000 in
theorem bp135_40 (call : QC FA) (z : Nat → Int32) (f : Nat → FA) (F : Nat) : rnG call 135 (F + 5) 19 [some (vR 0)] [] (LPr z f) = rnG call 135 F 24 [some (vR 0)] [vI ((z 4) + 1), vR 0] (LPr z f) := rfl
set_option maxRecDepth 100000 in
theorem bp135_41 (call : QC FA) (y : Int32) (ls : List (Option PV)) (z : Nat → Int32) (f : Nat → FA) (F : Nat) : rnG call 135 (F + 1) 24 ls [vI y, vR 0] (LPr z f) = rnG call 135 F 25 ls [] (LPr (uZ z 4 y) f) := rfl
set_option maxRecDepth 100000 in
theorem bp135_42 (call : QC FA) (L : QH FA) (F : Nat) : rnG call 135 (F + 1) 25 [some (vR 0)] [] L = rnG call 135 F 0 [some (vR 0)] [] L := rfl
set_option maxRecDepth 100000 in
theorem bp135_43 (call : QC FA) (z : Nat → Int32) (f : Nat → FA) (F : Nat) : rnG call 135 (F + 4) 12 [some (vR 0)] [] (LPr z f) = rnG call 135 F 16 [some (vR 0)] [vI (z 4), vR 1] (LPr z f) := rfl
set_option maxRecDepth 100000 in
theorem bp135_44 (call : QC FA) (x : Int32) (ls : List (Option PV)) (z : Nat → Int32) (f : Nat → FA) (F : Nat) : rnG call 135 (F + 1) 16 ls [vI x, vR 1] (LPr z f) = bif (Nat.beq 0 0 && pin x 400) then rnG call 135 F 17 ls [vI (f 1 (ix x))] (LPr z f) else none := rfl
set_option maxRecDepth 100000 in
theorem bp135_45 (call : QC FA) (s0 : Int32) (L : QH FA) (F : Nat) : rnG call 135 (F + 1) 17 [some (vR 0)] [vI s0] L = rnG call 135 F 18 [some (vR 0)] [vI 10, vI s0] L := rfl
set_option maxRecDepth 100000 in
theorem bp135_46 (call : QC FA) (x y : Int32) (ls : List (Option PV)) (L : QH FA) (F : Nat) : rnG call 135 (F + 1) 18 ls [vI y, vI x] L = bif pcmp 1 x y then rnG call 135 F 26 ls [] L else rnG call 135 F 19 ls [] L := rfl
theorem vcp135_0 (call : QC FA) (z : Nat → Int32) (f : Nat → FA) (res : Option PV × QH FA) (H : ((I (z 2) ≤ I (z 4) → ((I (z 4) < I (z 2) → (pin (z 4) 400 = true ∧ (∃ (r1 : Int32) (z1 : Nat → Int32) (f1 : Nat → FA), call 124 [vI (f 1 (ix (z 4)))] (LPr (uZ z 3 (z 4)) f) = some (some (vI r1), LPr z1 f1) ∧ ((r1 = 0 → (pin (z1 4) 400 = true ∧ (∃ (r2 : Int32) (z2 : Nat → Int32) (f2 : Nat → FA), call 120 [vI (f1 1 (ix (z1 4)))] (LPr z1 f1) = some (some (vI r2), LPr z2 f2) ∧ ((r2 = 0 → (pin (z2 4) 400 = true ∧ ((I (f2 1 (ix (z2 4))) < 40 → res = (none, LPr (uZ (uZ z2 5 3) 4 ((z2 4) + 1)) f2)) ∧ (40 ≤ I (f2 1 (ix (z2 4))) → (pin (z2 4) 400 = true ∧ ((62 < I (f2 1 (ix (z2 4))) → res = (none, LPr (uZ (uZ z2 5 3) 4 ((z2 4) + 1)) f2)) ∧ (I (f2 1 (ix (z2 4))) ≤ 62 → (pin (z2 4) 400 = true ∧ res = (none, LPr (uZ (uZ z2 5 (f2 1 (ix (z2 4)))) 4 ((z2 4) + 1)) f2))))))))) ∧ (¬ r2 = 0 → RC call (mP 135) 84 [some (vR 0)] [] (LPr (uZ z2 6 0) f2) res))))) ∧ (¬ r1 = 0 → RC call (mP 135) 46 [some (vR 0)] [] (LPr z1 f1) res))))) ∧ (I (z 2) ≤ I (z 4) → res = (none, LPr (uZ (uZ z 3 (z 4)) 5 2) f)))) ∧ (I (z 4) < I (z 2) → (pin (z 4) 400 = true ∧ ((f 1 (ix (z 4)) = 32 → RC call (mP 135) 0 [some (vR 0)] [] (LPr (uZ z 4 ((z 4) + 1)) f) res) ∧ (¬ f 1 (ix (z 4)) = 32 → (pin (z 4) 400 = true ∧ ((¬ f 1 (ix (z 4)) = 10 → ((I (z 4) < I (z 2) → (pin (z 4) 400 = true ∧ (∃ (r3 : Int32) (z3 : Nat → Int32) (f3 : Nat → FA), call 124 [vI (f 1 (ix (z 4)))] (LPr (uZ z 3 (z 4)) f) = some (some (vI r3), LPr z3 f3) ∧ ((r3 = 0 → (pin (z3 4) 400 = true ∧ (∃ (r4 : Int32) (z4 : Nat → Int32) (f4 : Nat → FA), call 120 [vI (f3 1 (ix (z3 4)))] (LPr z3 f3) = some (some (vI r4), LPr z4 f4) ∧ ((r4 = 0 → (pin (z4 4) 400 = true ∧ ((I (f4 1 (ix (z4 4))) < 40 → res = (none, LPr (uZ (uZ z4 5 3) 4 ((z4 4) + 1)) f4)) ∧ (40 ≤ I (f4 1 (ix (z4 4))) → (pin (z4 4) 400 = true ∧ ((62 < I (f4 1 (ix (z4 4))) → res = (none, LPr (uZ (uZ z4 5 3) 4 ((z4 4) + 1)) f4)) ∧ (I (f4 1 (ix (z4 4))) ≤ 62 → (pin (z4 4) 400 = true ∧ res = (none, LPr (uZ (uZ z4 5 (f4 1 (ix (z4 4)))) 4 ((z4 4) + 1)) f4))))))))) ∧ (¬ r4 = 0 → RC call (mP 135) 84 [some (vR 0)] [] (LPr (uZ z4 6 0) f4) res))))) ∧ (¬ r3 = 0 → RC call (mP 135) 46 [some (vR 0)] [] (LPr z3 f3) res))))) ∧ (I (z 2) ≤ I (z 4) → res = (none, LPr (uZ (uZ z 3 (z 4)) 5 2) f)))) ∧ (f 1 (ix (z 4)) = 10 → RC call (mP 135) 0 [some (vR 0)] [] (LPr (uZ z 4 ((z 4) + 1)) f) res))))))))) : RC call (mP 135) 0 [some (vR 0)] [] (LPr z f) res := by
  refine rc_b (i' := 4) (ls' := [some (vR 0)]) (st' := [vI (z 2), vI (z 4)]) (L' := LPr z f) 4 (bp135_1 call z f) ?_
  refine rc_if (it := 26) (ie := 5) (ls' := [some (vR 0)]) (st' := []) (bp135_2 call (z 4) (z 2) _ _) (fun q1 => ?_) (fun q1 => ?_)
  · have H := H.1 (cI3t q1 rfl rfl)
    refine rc_b (i' := 29) (ls' := [some (vR 0)]) (st' := [vI (z 4), vR 0]) (L' := LPr z f) 3 (bp135_3 call z f) ?_
    refine rc_b (i' := 30) (ls' := [some (vR 0)]) (st' := []) (L' := LPr (uZ z 3 (z 4)) f) 1 (bp135_4 call (z 4) _ z f) ?_
    refine rc_b (i' := 34) (ls' := [some (vR 0)]) (st' := [vI (z 2), vI (z 4)]) (L' := LPr (uZ z 3 (z 4)) f) 4 (bp135_5 call (uZ z 3 (z 4)) f) ?_
    refine rc_if (it := 39) (ie := 35) (ls' := [some (vR 0)]) (st' := []) (bp135_6 call (z 4) (z 2) _ _) (fun q2 => ?_) (fun q2 => ?_)
    · have H := H.1 (cI2t q2 rfl rfl)
      refine rc_b (i' := 43) (ls' := [some (vR 0)]) (st' := [vI (z 4), vR 1]) (L' := LPr (uZ z 3 (z 4)) f) 4 (bp135_7 call (uZ z 3 (z 4)) f) ?_
      obtain ⟨g1, H⟩ := H
      refine rc_g (i' := 44) (ls' := [some (vR 0)]) (st' := [vI (f 1 (ix (z 4)))]) (L' := LPr (uZ z 3 (z 4)) f) (bp135_8 call (z 4) _ (uZ z 3 (z 4)) f) (pinG g1) ?_
      obtain ⟨r1, z1, f1, hc, H⟩ := H
      refine rc_call (t := 45) (ls' := [some (vR 0)]) (st' := []) (bp135_9 call (f 1 (ix (z 4))) _ (uZ z 3 (z 4)) f) hc ?_
      show RC call (mP 135) 45 [some (vR 0)] [vI r1] (LPr z1 f1) res
      refine rc_if (it := 74) (ie := 46) (ls' := [some (vR 0)]) (st' := []) (bp135_10 call r1 _ _) (fun q3 => ?_) (fun q3 => ?_)
      · have H := H.1 (cI0t q3)
        refine rc_b (i' := 78) (ls' := [some (vR 0)]) (st' := [vI (z1 4), vR 1]) (L' := LPr z1 f1) 4 (bp135_11 call z1 f1) ?_
        obtain ⟨g1, H⟩ := H
        refine rc_g (i' := 79) (ls' := [some (vR 0)]) (st' := [vI (f1 1 (ix (z1 4)))]) (L' := LPr z1 f1) (bp135_12 call (z1 4) _ z1 f1) (pinG g1) ?_
        obtain ⟨r2, z2, f2, hc, H⟩ := H
        refine rc_call (t := 80) (ls' := [some (vR 0)]) (st' := []) (bp135_13 call (f1 1 (ix (z1 4))) _ z1 f1) hc ?_
        show RC call (mP 135) 80 [some (vR 0)] [vI r2] (LPr z2 f2) res
        refine rc_if (it := 130) (ie := 81) (ls' := [some (vR 0)]) (st' := []) (bp135_14 call r2 _ _) (fun q4 => ?_) (fun q4 => ?_)
        · have H := H.1 (cI0t q4)
          refine rc_b (i' := 135) (ls' := [some (vR 0)]) (st' := [vI (z2 4), vR 1, vR 0]) (L' := LPr z2 f2) 5 (bp135_15 call z2 f2) ?_
          obtain ⟨g1, H⟩ := H
          refine rc_g (i' := 136) (ls' := [some (vR 0)]) (st' := [vI (f2 1 (ix (z2 4))), vR 0]) (L' := LPr z2 f2) (bp135_16 call (z2 4) _ z2 f2) (pinG g1) ?_
          refine rc_b (i' := 137) (ls' := [some (vR 0)]) (st' := [vI 40, vI (f2 1 (ix (z2 4))), vR 0]) (L' := LPr z2 f2) 1 (bp135_17 call (f2 1 (ix (z2 4))) _) ?_
          refine rc_if (it := 151) (ie := 138) (ls' := [some (vR 0)]) (st' := [vR 0]) (bp135_18 call (f2 1 (ix (z2 4))) 40 _ _) (fun q5 => ?_) (fun q5 => ?_)
          · have H := H.1 (cI2t q5 rfl rfl)
            refine rc_b (i' := 152) (ls' := [some (vR 0)]) (st' := [vI 3, vR 0]) (L' := LPr z2 f2) 1 (bp135_19 call _) ?_
            refine rc_b (i' := 153) (ls' := [some (vR 0)]) (st' := []) (L' := LPr (uZ z2 5 3) f2) 1 (bp135_20 call 3 _ z2 f2) ?_
            refine rc_b (i' := 158) (ls' := [some (vR 0)]) (st' := [vI ((z2 4) + 1), vR 0]) (L' := LPr (uZ z2 5 3) f2) 5 (bp135_21 call (uZ z2 5 3) f2) ?_
            refine rc_b (i' := 159) (ls' := [some (vR 0)]) (st' := []) (L' := LPr (uZ (uZ z2 5 3) 4 ((z2 4) + 1)) f2) 1 (bp135_22 call ((z2 4) + 1) _ (uZ z2 5 3) f2) ?_
            subst H
            exact rc_ret (bp135_23 call _ _)
          · have H := H.2 (cI2f q5 rfl rfl)
            refine rc_b (i' := 142) (ls' := [some (vR 0)]) (st' := [vI (z2 4), vR 1, vR 0]) (L' := LPr z2 f2) 4 (bp135_24 call z2 f2) ?_
            obtain ⟨g1, H⟩ := H
            refine rc_g (i' := 143) (ls' := [some (vR 0)]) (st' := [vI (f2 1 (ix (z2 4))), vR 0]) (L' := LPr z2 f2) (bp135_25 call (z2 4) _ z2 f2) (pinG g1) ?_
            refine rc_b (i' := 144) (ls' := [some (vR 0)]) (st' := [vI 62, vI (f2 1 (ix (z2 4))), vR 0]) (L' := LPr z2 f2) 1 (bp135_26 call (f2 1 (ix (z2 4))) _) ?_
            refine rc_if (it := 151) (ie := 145) (ls' := [some (vR 0)]) (st' := [vR 0]) (bp135_27 call (f2 1 (ix (z2 4))) 62 _ _) (fun q6 => ?_) (fun q6 => ?_)
            · have H := H.1 (cI4t q6 rfl rfl)
              refine rc_b (i' := 152) (ls' := [some (vR 0)]) (st' := [vI 3, vR 0]) (L' := LPr z2 f2) 1 (bp135_19 call _) ?_
              refine rc_b (i' := 153) (ls' := [some (vR 0)]) (st' := []) (L' := LPr (uZ z2 5 3) f2) 1 (bp135_20 call 3 _ z2 f2) ?_
              refine rc_b (i' := 158) (ls' := [some (vR 0)]) (st' := [vI ((z2 4) + 1), vR 0]) (L' := LPr (uZ z2 5 3) f2) 5 (bp135_21 call (uZ z2 5 3) f2) ?_
              refine rc_b (i' := 159) (ls' := [some (vR 0)]) (st' := []) (L' := LPr (uZ (uZ z2 5 3) 4 ((z2 4) + 1)) f2) 1 (bp135_22 call ((z2 4) + 1) _ (uZ z2 5 3) f2) ?_
              subst H
              exact rc_ret (bp135_23 call _ _)
            · have H := H.2 (cI4f q6 rfl rfl)
              refine rc_b (i' := 149) (ls' := [some (vR 0)]) (st' := [vI (z2 4), vR 1, vR 0]) (L' := LPr z2 f2) 4 (bp135_28 call z2 f2) ?_
              obtain ⟨g1, H⟩ := H
              refine rc_g (i' := 150) (ls' := [some (vR 0)]) (st' := [vI (f2 1 (ix (z2 4))), vR 0]) (L' := LPr z2 f2) (bp135_29 call (z2 4) _ z2 f2) (pinG g1) ?_
              refine rc_b (i' := 152) (ls' := [some (vR 0)]) (st' := [vI (f2 1 (ix (z2 4))), vR 0]) (L' := LPr z2 f2) 1 (bp135_30 call (f2 1 (ix (z2 4))) _) ?_
              refine rc_b (i' := 153) (ls' := [some (vR 0)]) (st' := []) (L' := LPr (uZ z2 5 (f2 1 (ix (z2 4)))) f2) 1 (bp135_20 call (f2 1 (ix (z2 4))) _ z2 f2) ?_
              refine rc_b (i' := 158) (ls' := [some (vR 0)]) (st' := [vI ((z2 4) + 1), vR 0]) (L' := LPr (uZ z2 5 (f2 1 (ix (z2 4)))) f2) 5 (bp135_21 call (uZ z2 5 (f2 1 (ix (z2 4)))) f2) ?_
              refine rc_b (i' := 159) (ls' := [some (vR 0)]) (st' := []) (L' := LPr (uZ (uZ z2 5 (f2 1 (ix (z2 4)))) 4 ((z2 4) + 1)) f2) 1 (bp135_22 call ((z2 4) + 1) _ (uZ z2 5 (f2 1 (ix (z2 4)))) f2) ?_
              subst H
              exact rc_ret (bp135_23 call _ _)
        · have H := H.2 (cI0f q4)
          refine rc_b (i' := 83) (ls' := [some (vR 0)]) (st' := [vI 0, vR 0]) (L' := LPr z2 f2) 2 (bp135_31 call _) ?_
          refine rc_b (i' := 84) (ls' := [some (vR 0)]) (st' := []) (L' := LPr (uZ z2 6 0) f2) 1 (bp135_32 call 0 _ z2 f2) ?_
          exact H
      · have H := H.2 (cI0f q3)
        exact H
    · have H := H.2 (cI2f q2 rfl rfl)
      refine rc_b (i' := 37) (ls' := [some (vR 0)]) (st' := [vI 2, vR 0]) (L' := LPr (uZ z 3 (z 4)) f) 2 (bp135_33 call _) ?_
      refine rc_b (i' := 38) (ls' := [some (vR 0)]) (st' := []) (L' := LPr (uZ (uZ z 3 (z 4)) 5 2) f) 1 (bp135_34 call 2 _ (uZ z 3 (z 4)) f) ?_
      refine rc_b (i' := 159) (ls' := [some (vR 0)]) (st' := []) (L' := LPr (uZ (uZ z 3 (z 4)) 5 2) f) 1 (bp135_35 call _) ?_
      subst H
      exact rc_ret (bp135_23 call _ _)
  · have H := H.2 (cI3f q1 rfl rfl)
    refine rc_b (i' := 9) (ls' := [some (vR 0)]) (st' := [vI (z 4), vR 1]) (L' := LPr z f) 4 (bp135_36 call z f) ?_
    obtain ⟨g1, H⟩ := H
    refine rc_g (i' := 10) (ls' := [some (vR 0)]) (st' := [vI (f 1 (ix (z 4)))]) (L' := LPr z f) (bp135_37 call (z 4) _ z f) (pinG g1) ?_
    refine rc_b (i' := 11) (ls' := [some (vR 0)]) (st' := [vI 32, vI (f 1 (ix (z 4)))]) (L' := LPr z f) 1 (bp135_38 call (f 1 (ix (z 4))) _) ?_
    refine rc_if (it := 19) (ie := 12) (ls' := [some (vR 0)]) (st' := []) (bp135_39 call (f 1 (ix (z 4))) 32 _ _) (fun q7 => ?_) (fun q7 => ?_)
    · have H := H.1 (cI0t q7)
      refine rc_b (i' := 24) (ls' := [some (vR 0)]) (st' := [vI ((z 4) + 1), vR 0]) (L' := LPr z f) 5 (bp135_40 call z f) ?_
      refine rc_b (i' := 25) (ls' := [some (vR 0)]) (st' := []) (L' := LPr (uZ z 4 ((z 4) + 1)) f) 1 (bp135_41 call ((z 4) + 1) _ z f) ?_
      refine rc_b (i' := 0) (ls' := [some (vR 0)]) (st' := []) (L' := LPr (uZ z 4 ((z 4) + 1)) f) 1 (bp135_42 call _) ?_
      exact H
    · have H := H.2 (cI0f q7)
      refine rc_b (i' := 16) (ls' := [some (vR 0)]) (st' := [vI (z 4), vR 1]) (L' := LPr z f) 4 (bp135_43 call z f) ?_
      obtain ⟨g1, H⟩ := H
      refine rc_g (i' := 17) (ls' := [some (vR 0)]) (st' := [vI (f 1 (ix (z 4)))]) (L' := LPr z f) (bp135_44 call (z 4) _ z f) (pinG g1) ?_
      refine rc_b (i' := 18) (ls' := [some (vR 0)]) (st' := [vI 10, vI (f 1 (ix (z 4)))]) (L' := LPr z f) 1 (bp135_45 call (f 1 (ix (z 4))) _) ?_
      refine rc_if (it := 26) (ie := 19) (ls' := [some (vR 0)]) (st' := []) (bp135_46 call (f 1 (ix (z 4))) 10 _ _) (fun q8 => ?_) (fun q8 => ?_)
      · have H := H.1 (cI1t q8)
        refine rc_b (i' := 29) (ls' := [some (vR 0)]) (st' := [vI (z 4), vR 0]) (L' := LPr z f) 3 (bp135_3 call z f) ?_
        refine rc_b (i' := 30) (ls' := [some (vR 0)]) (st' := []) (L' := LPr (uZ z 3 (z 4)) f) 1 (bp135_4 call (z 4) _ z f) ?_
        refine rc_b (i' := 34) (ls' := [some (vR 0)]) (st' := [vI (z 2), vI (z 4)]) (L' := LPr (uZ z 3 (z 4)) f) 4 (bp135_5 call (uZ z 3 (z 4)) f) ?_
        refine rc_if (it := 39) (ie := 35) (ls' := [some (vR 0)]) (st' := []) (bp135_6 call (z 4) (z 2) _ _) (fun q9 => ?_) (fun q9 => ?_)
        · have H := H.1 (cI2t q9 rfl rfl)
          refine rc_b (i' := 43) (ls' := [some (vR 0)]) (st' := [vI (z 4), vR 1]) (L' := LPr (uZ z 3 (z 4)) f) 4 (bp135_7 call (uZ z 3 (z 4)) f) ?_
          obtain ⟨g1, H⟩ := H
          refine rc_g (i' := 44) (ls' := [some (vR 0)]) (st' := [vI (f 1 (ix (z 4)))]) (L' := LPr (uZ z 3 (z 4)) f) (bp135_8 call (z 4) _ (uZ z 3 (z 4)) f) (pinG g1) ?_
          obtain ⟨r3, z3, f3, hc, H⟩ := H
          refine rc_call (t := 45) (ls' := [some (vR 0)]) (st' := []) (bp135_9 call (f 1 (ix (z 4))) _ (uZ z 3 (z 4)) f) hc ?_
          show RC call (mP 135) 45 [some (vR 0)] [vI r3] (LPr z3 f3) res
          refine rc_if (it := 74) (ie := 46) (ls' := [some (vR 0)]) (st' := []) (bp135_10 call r3 _ _) (fun q10 => ?_) (fun q10 => ?_)
          · have H := H.1 (cI0t q10)
            refine rc_b (i' := 78) (ls' := [some (vR 0)]) (st' := [vI (z3 4), vR 1]) (L' := LPr z3 f3) 4 (bp135_11 call z3 f3) ?_
            obtain ⟨g1, H⟩ := H
            refine rc_g (i' := 79) (ls' := [some (vR 0)]) (st' := [vI (f3 1 (ix (z3 4)))]) (L' := LPr z3 f3) (bp135_12 call (z3 4) _ z3 f3) (pinG g1) ?_
            obtain ⟨r4, z4, f4, hc, H⟩ := H
            refine rc_call (t := 80) (ls' := [some (vR 0)]) (st' := []) (bp135_13 call (f3 1 (ix (z3 4))) _ z3 f3) hc ?_
            show RC call (mP 135) 80 [some (vR 0)] [vI r4] (LPr z4 f4) res
            refine rc_if (it := 130) (ie := 81) (ls' := [some (vR 0)]) (st' := []) (bp135_14 call r4 _ _) (fun q11 => ?_) (fun q11 => ?_)
            · have H := H.1 (cI0t q11)
              refine rc_b (i' := 135) (ls' := [some (vR 0)]) (st' := [vI (z4 4), vR 1, vR 0]) (L' := LPr z4 f4) 5 (bp135_15 call z4 f4) ?_
              obtain ⟨g1, H⟩ := H
              refine rc_g (i' := 136) (ls' := [some (vR 0)]) (st' := [vI (f4 1 (ix (z4 4))), vR 0]) (L' := LPr z4 f4) (bp135_16 call (z4 4) _ z4 f4) (pinG g1) ?_
              refine rc_b (i' := 137) (ls' := [some (vR 0)]) (st' := [vI 40, vI (f4 1 (ix (z4 4))), vR 0]) (L' := LPr z4 f4) 1 (bp135_17 call (f4 1 (ix (z4 4))) _) ?_
              refine rc_if (it := 151) (ie := 138) (ls' := [some (vR 0)]) (st' := [vR 0]) (bp135_18 call (f4 1 (ix (z4 4))) 40 _ _) (fun q12 => ?_) (fun q12 => ?_)
              · have H := H.1 (cI2t q12 rfl rfl)
                refine rc_b (i' := 152) (ls' := [some (vR 0)]) (st' := [vI 3, vR 0]) (L' := LPr z4 f4) 1 (bp135_19 call _) ?_
                refine rc_b (i' := 153) (ls' := [some (vR 0)]) (st' := []) (L' := LPr (uZ z4 5 3) f4) 1 (bp135_20 call 3 _ z4 f4) ?_
                refine rc_b (i' := 158) (ls' := [some (vR 0)]) (st' := [vI ((z4 4) + 1), vR 0]) (L' := LPr (uZ z4 5 3) f4) 5 (bp135_21 call (uZ z4 5 3) f4) ?_
                refine rc_b (i' := 159) (ls' := [some (vR 0)]) (st' := []) (L' := LPr (uZ (uZ z4 5 3) 4 ((z4 4) + 1)) f4) 1 (bp135_22 call ((z4 4) + 1) _ (uZ z4 5 3) f4) ?_
                subst H
                exact rc_ret (bp135_23 call _ _)
              · have H := H.2 (cI2f q12 rfl rfl)
                refine rc_b (i' := 142) (ls' := [some (vR 0)]) (st' := [vI (z4 4), vR 1, vR 0]) (L' := LPr z4 f4) 4 (bp135_24 call z4 f4) ?_
                obtain ⟨g1, H⟩ := H
                refine rc_g (i' := 143) (ls' := [some (vR 0)]) (st' := [vI (f4 1 (ix (z4 4))), vR 0]) (L' := LPr z4 f4) (bp135_25 call (z4 4) _ z4 f4) (pinG g1) ?_
                refine rc_b (i' := 144) (ls' := [some (vR 0)]) (st' := [vI 62, vI (f4 1 (ix (z4 4))), vR 0]) (L' := LPr z4 f4) 1 (bp135_26 call (f4 1 (ix (z4 4))) _) ?_
                refine rc_if (it := 151) (ie := 145) (ls' := [some (vR 0)]) (st' := [vR 0]) (bp135_27 call (f4 1 (ix (z4 4))) 62 _ _) (fun q13 => ?_) (fun q13 => ?_)
                · have H := H.1 (cI4t q13 rfl rfl)
                  refine rc_b (i' := 152) (ls' := [some (vR 0)]) (st' := [vI 3, vR 0]) (L' := LPr z4 f4) 1 (bp135_19 call _) ?_
                  refine rc_b (i' := 153) (ls' := [some (vR 0)]) (st' := []) (L' := LPr (uZ z4 5 3) f4) 1 (bp135_20 call 3 _ z4 f4) ?_
                  refine rc_b (i' := 158) (ls' := [some (vR 0)]) (st' := [vI ((z4 4) + 1), vR 0]) (L' := LPr (uZ z4 5 3) f4) 5 (bp135_21 call (uZ z4 5 3) f4) ?_
                  refine rc_b (i' := 159) (ls' := [some (vR 0)]) (st' := []) (L' := LPr (uZ (uZ z4 5 3) 4 ((z4 4) + 1)) f4) 1 (bp135_22 call ((z4 4) + 1) _ (uZ z4 5 3) f4) ?_
                  subst H
                  exact rc_ret (bp135_23 call _ _)
                · have H := H.2 (cI4f q13 rfl rfl)
                  refine rc_b (i' := 149) (ls' := [some (vR 0)]) (st' := [vI (z4 4), vR 1, vR 0]) (L' := LPr z4 f4) 4 (bp135_28 call z4 f4) ?_
                  obtain ⟨g1, H⟩ := H
                  refine rc_g (i' := 150) (ls' := [some (vR 0)]) (st' := [vI (f4 1 (ix (z4 4))), vR 0]) (L' := LPr z4 f4) (bp135_29 call (z4 4) _ z4 f4) (pinG g1) ?_
                  refine rc_b (i' := 152) (ls' := [some (vR 0)]) (st' := [vI (f4 1 (ix (z4 4))), vR 0]) (L' := LPr z4 f4) 1 (bp135_30 call (f4 1 (ix (z4 4))) _) ?_
                  refine rc_b (i' := 153) (ls' := [some (vR 0)]) (st' := []) (L' := LPr (uZ z4 5 (f4 1 (ix (z4 4)))) f4) 1 (bp135_20 call (f4 1 (ix (z4 4))) _ z4 f4) ?_
                  refine rc_b (i' := 158) (ls' := [some (vR 0)]) (st' := [vI ((z4 4) + 1), vR 0]) (L' := LPr (uZ z4 5 (f4 1 (ix (z4 4)))) f4) 5 (bp135_21 call (uZ z4 5 (f4 1 (ix (z4 4)))) f4) ?_
                  refine rc_b (i' := 159) (ls' := [some (vR 0)]) (st' := []) (L' := LPr (uZ (uZ z4 5 (f4 1 (ix (z4 4)))) 4 ((z4 4) + 1)) f4) 1 (bp135_22 call ((z4 4) + 1) _ (uZ z4 5 (f4 1 (ix (z4 4)))) f4) ?_
                  subst H
                  exact rc_ret (bp135_23 call _ _)
            · have H := H.2 (cI0f q11)
              refine rc_b (i' := 83) (ls' := [some (vR 0)]) (st' := [vI 0, vR 0]) (L' := LPr z4 f4) 2 (bp135_31 call _) ?_
              refine rc_b (i' := 84) (ls' := [some (vR 0)]) (st' := []) (L' := LPr (uZ z4 6 0) f4) 1 (bp135_32 call 0 _ z4 f4) ?_
              exact H
          · have H := H.2 (cI0f q10)
            exact H
        · have H := H.2 (cI2f q9 rfl rfl)
          refine rc_b (i' := 37) (ls' := [some (vR 0)]) (st' := [vI 2, vR 0]) (L' := LPr (uZ z 3 (z 4)) f) 2 (bp135_33 call _) ?_
          refine rc_b (i' := 38) (ls' := [some (vR 0)]) (st' := []) (L' := LPr (uZ (uZ z 3 (z 4)) 5 2) f) 1 (bp135_34 call 2 _ (uZ z 3 (z 4)) f) ?_
          refine rc_b (i' := 159) (ls' := [some (vR 0)]) (st' := []) (L' := LPr (uZ (uZ z 3 (z 4)) 5 2) f) 1 (bp135_35 call _) ?_
          subst H
          exact rc_ret (bp135_23 call _ _)
      · have H := H.2 (cI1f q8)
        refine rc_b (i' := 24) (ls' := [some (vR 0)]) (st' := [vI ((z 4) + 1), vR 0]) (L' := LPr z f) 5 (bp135_40 call z f) ?_
        refine rc_b (i' := 25) (ls' := [some (vR 0)]) (st' := []) (L' := LPr (uZ z 4 ((z 4) + 1)) f) 1 (bp135_41 call ((z 4) + 1) _ z f) ?_
        refine rc_b (i' := 0) (ls' := [some (vR 0)]) (st' := []) (L' := LPr (uZ z 4 ((z 4) + 1)) f) 1 (bp135_42 call _) ?_
        exact H
set_option maxRecDepth 100000 in
theorem bpc46_135_1 (call : QC FA) (z : Nat → Int32) (f : Nat → FA) (F : Nat) : rnG call 135 (F + 4) 46 [some (vR 0)] [] (LPr z f) = rnG call 135 F 50 [some (vR 0)] [vI (z 2), vI (z 4)] (LPr z f) := rfl
set_option maxRecDepth 100000 in
theorem bpc46_135_2 (call : QC FA) (x y : Int32) (ls : List (Option PV)) (L : QH FA) (F : Nat) : rnG call 135 (F + 1) 50 ls [vI y, vI x] L = bif pcmp 3 x y then rnG call 135 F 65 ls [] L else rnG call 135 F 51 ls [] L := rfl
set_option maxRecDepth 100000 in
theorem bpc46_135_3 (call : QC FA) (z : Nat → Int32) (f : Nat → FA) (F : Nat) : rnG call 135 (F + 6) 65 [some (vR 0)] [] (LPr z f) = rnG call 135 F 71 [some (vR 0)] [vI (z 4), vI (z 3), vR 0, vR 0] (LPr z f) := rfl
set_option maxRecDepth 100000 in
theorem bpc46_135_4 (call : QC FA) (a0 : Int32) (a1 : Int32) (ls : List (Option PV)) (z : Nat → Int32) (f : Nat → FA) (F : Nat) : rnG call 135 (F + 1) 71 ls [vI a1, vI a0, vR 0, vR 0] (LPr z f) = cbd (call 137 [vR 0, vI a0, vI a1] (LPr z f)) (fun r L' => rnG call 135 F 72 ls (r.toList ++ [vR 0]) L') := pcY (ih := rnG call 135 F) (call := call) (a := 137) (b := 2) (v := 5) (t := 72) (x := 0) (ls := ls) (As := [vI a0, vI a1]) (st' := [vR 0]) (L := LPr z f) rfl rfl rfl
set_option maxRecDepth 100000 in
theorem bpc46_135_5 (call : QC FA) (y : Int32) (ls : List (Option PV)) (z : Nat → Int32) (f : Nat → FA) (F : Nat) : rnG call 135 (F + 1) 72 ls [vI y, vR 0] (LPr z f) = rnG call 135 F 73 ls [] (LPr (uZ z 5 y) f) := rfl
set_option maxRecDepth 100000 in
theorem bpc46_135_6 (call : QC FA) (L : QH FA) (F : Nat) : rnG call 135 (F + 1) 73 [some (vR 0)] [] L = rnG call 135 F 159 [some (vR 0)] [] L := rfl
set_option maxRecDepth 100000 in
theorem bpc46_135_7 (call : QC FA) (ls : List (Option PV)) (L : QH FA) (F : Nat) : rnG call 135 (F + 1) 159 ls [] L = some (none, L) := rfl
set_option maxRecDepth 100000 in
theorem bpc46_135_8 (call : QC FA) (z : Nat → Int32) (f : Nat → FA) (F : Nat) : rnG call 135 (F + 4) 51 [some (vR 0)] [] (LPr z f) = rnG call 135 F 55 [some (vR 0)] [vI (z 4), vR 1] (LPr z f) := rfl
set_option maxRecDepth 100000 in
theorem bpc46_135_9 (call : QC FA) (x : Int32) (ls : List (Option PV)) (z : Nat → Int32) (f : Nat → FA) (F : Nat) : rnG call 135 (F + 1) 55 ls [vI x, vR 1] (LPr z f) = bif (Nat.beq 0 0 && pin x 400) then rnG call 135 F 56 ls [vI (f 1 (ix x))] (LPr z f) else none := rfl
set_option maxRecDepth 100000 in
theorem bpc46_135_10 (call : QC FA) (a0 : Int32) (ls : List (Option PV)) (z : Nat → Int32) (f : Nat → FA) (F : Nat) : rnG call 135 (F + 1) 56 ls [vI a0] (LPr z f) = cbd (call 124 [vI a0] (LPr z f)) (fun r L' => rnG call 135 F 57 ls (r.toList ++ []) L') := pcZ (ih := rnG call 135 F) (call := call) (a := 124) (b := 1) (t := 57) (ls := ls) (As := [vI a0]) (st' := []) (L := LPr z f) rfl rfl
set_option maxRecDepth 100000 in
theorem bpc46_135_11 (call : QC FA) (x : Int32) (ls : List (Option PV)) (L : QH FA) (F : Nat) : rnG call 135 (F + 1) 57 ls [vI x] L = bif pcmp 0 x 0 then rnG call 135 F 65 ls [] L else rnG call 135 F 58 ls [] L := rfl
set_option maxRecDepth 100000 in
theorem bpc46_135_12 (call : QC FA) (z : Nat → Int32) (f : Nat → FA) (F : Nat) : rnG call 135 (F + 5) 58 [some (vR 0)] [] (LPr z f) = rnG call 135 F 63 [some (vR 0)] [vI ((z 4) + 1), vR 0] (LPr z f) := rfl
set_option maxRecDepth 100000 in
theorem bpc46_135_13 (call : QC FA) (y : Int32) (ls : List (Option PV)) (z : Nat → Int32) (f : Nat → FA) (F : Nat) : rnG call 135 (F + 1) 63 ls [vI y, vR 0] (LPr z f) = rnG call 135 F 64 ls [] (LPr (uZ z 4 y) f) := rfl
set_option maxRecDepth 100000 in
theorem bpc46_135_14 (call : QC FA) (L : QH FA) (F : Nat) : rnG call 135 (F + 1) 64 [some (vR 0)] [] L = rnG call 135 F 46 [some (vR 0)] [] L := rfl
theorem vcpc46_135_46 (call : QC FA) (z : Nat → Int32) (f : Nat → FA) (res : Option PV × QH FA) (H : ((I (z 2) ≤ I (z 4) → (∃ (r1 : Int32) (z1 : Nat → Int32) (f1 : Nat → FA), call 137 [vR 0, vI (z 3), vI (z 4)] (LPr z f) = some (some (vI r1), LPr z1 f1) ∧ res = (none, LPr (uZ z1 5 r1) f1))) ∧ (I (z 4) < I (z 2) → (pin (z 4) 400 = true ∧ (∃ (r2 : Int32) (z2 : Nat → Int32) (f2 : Nat → FA), call 124 [vI (f 1 (ix (z 4)))] (LPr z f) = some (some (vI r2), LPr z2 f2) ∧ ((r2 = 0 → (∃ (r3 : Int32) (z3 : Nat → Int32) (f3 : Nat → FA), call 137 [vR 0, vI (z2 3), vI (z2 4)] (LPr z2 f2) = some (some (vI r3), LPr z3 f3) ∧ res = (none, LPr (uZ z3 5 r3) f3))) ∧ (¬ r2 = 0 → RC call (mP 135) 46 [some (vR 0)] [] (LPr (uZ z2 4 ((z2 4) + 1)) f2) res))))))) : RC call (mP 135) 46 [some (vR 0)] [] (LPr z f) res := by
  refine rc_b (i' := 50) (ls' := [some (vR 0)]) (st' := [vI (z 2), vI (z 4)]) (L' := LPr z f) 4 (bpc46_135_1 call z f) ?_
  refine rc_if (it := 65) (ie := 51) (ls' := [some (vR 0)]) (st' := []) (bpc46_135_2 call (z 4) (z 2) _ _) (fun q1 => ?_) (fun q1 => ?_)
  · have H := H.1 (cI3t q1 rfl rfl)
    refine rc_b (i' := 71) (ls' := [some (vR 0)]) (st' := [vI (z 4), vI (z 3), vR 0, vR 0]) (L' := LPr z f) 6 (bpc46_135_3 call z f) ?_
    obtain ⟨r1, z1, f1, hc, H⟩ := H
    refine rc_call (t := 72) (ls' := [some (vR 0)]) (st' := [vR 0]) (bpc46_135_4 call (z 3) (z 4) _ z f) hc ?_
    show RC call (mP 135) 72 [some (vR 0)] [vI r1, vR 0] (LPr z1 f1) res
    refine rc_b (i' := 73) (ls' := [some (vR 0)]) (st' := []) (L' := LPr (uZ z1 5 r1) f1) 1 (bpc46_135_5 call r1 _ z1 f1) ?_
    refine rc_b (i' := 159) (ls' := [some (vR 0)]) (st' := []) (L' := LPr (uZ z1 5 r1) f1) 1 (bpc46_135_6 call _) ?_
    subst H
    exact rc_ret (bpc46_135_7 call _ _)
  · have H := H.2 (cI3f q1 rfl rfl)
    refine rc_b (i' := 55) (ls' := [some (vR 0)]) (st' := [vI (z 4), vR 1]) (L' := LPr z f) 4 (bpc46_135_8 call z f) ?_
    obtain ⟨g1, H⟩ := H
    refine rc_g (i' := 56) (ls' := [some (vR 0)]) (st' := [vI (f 1 (ix (z 4)))]) (L' := LPr z f) (bpc46_135_9 call (z 4) _ z f) (pinG g1) ?_
    obtain ⟨r2, z2, f2, hc, H⟩ := H
    refine rc_call (t := 57) (ls' := [some (vR 0)]) (st' := []) (bpc46_135_10 call (f 1 (ix (z 4))) _ z f) hc ?_
    show RC call (mP 135) 57 [some (vR 0)] [vI r2] (LPr z2 f2) res
    refine rc_if (it := 65) (ie := 58) (ls' := [some (vR 0)]) (st' := []) (bpc46_135_11 call r2 _ _) (fun q2 => ?_) (fun q2 => ?_)
    · have H := H.1 (cI0t q2)
      refine rc_b (i' := 71) (ls' := [some (vR 0)]) (st' := [vI (z2 4), vI (z2 3), vR 0, vR 0]) (L' := LPr z2 f2) 6 (bpc46_135_3 call z2 f2) ?_
      obtain ⟨r3, z3, f3, hc, H⟩ := H
      refine rc_call (t := 72) (ls' := [some (vR 0)]) (st' := [vR 0]) (bpc46_135_4 call (z2 3) (z2 4) _ z2 f2) hc ?_
      show RC call (mP 135) 72 [some (vR 0)] [vI r3, vR 0] (LPr z3 f3) res
      refine rc_b (i' := 73) (ls' := [some (vR 0)]) (st' := []) (L' := LPr (uZ z3 5 r3) f3) 1 (bpc46_135_5 call r3 _ z3 f3) ?_
      refine rc_b (i' := 159) (ls' := [some (vR 0)]) (st' := []) (L' := LPr (uZ z3 5 r3) f3) 1 (bpc46_135_6 call _) ?_
      subst H
      exact rc_ret (bpc46_135_7 call _ _)
    · have H := H.2 (cI0f q2)
      refine rc_b (i' := 63) (ls' := [some (vR 0)]) (st' := [vI ((z2 4) + 1), vR 0]) (L' := LPr z2 f2) 5 (bpc46_135_12 call z2 f2) ?_
      refine rc_b (i' := 64) (ls' := [some (vR 0)]) (st' := []) (L' := LPr (uZ z2 4 ((z2 4) + 1)) f2) 1 (bpc46_135_13 call ((z2 4) + 1) _ z2 f2) ?_
      refine rc_b (i' := 46) (ls' := [some (vR 0)]) (st' := []) (L' := LPr (uZ z2 4 ((z2 4) + 1)) f2) 1 (bpc46_135_14 call _) ?_
      exact H
set_option maxRecDepth 100000 in
theorem bpc84_135_1 (call : QC FA) (z : Nat → Int32) (f : Nat → FA) (F : Nat) : rnG call 135 (F + 4) 84 [some (vR 0)] [] (LPr z f) = rnG call 135 F 88 [some (vR 0)] [vI (z 2), vI (z 4)] (LPr z f) := rfl
set_option maxRecDepth 100000 in
theorem bpc84_135_2 (call : QC FA) (x y : Int32) (ls : List (Option PV)) (L : QH FA) (F : Nat) : rnG call 135 (F + 1) 88 ls [vI y, vI x] L = bif pcmp 3 x y then rnG call 135 F 117 ls [] L else rnG call 135 F 89 ls [] L := rfl
set_option maxRecDepth 100000 in
theorem bpc84_135_3 (call : QC FA) (z : Nat → Int32) (f : Nat → FA) (F : Nat) : rnG call 135 (F + 7) 117 [some (vR 0)] [] (LPr z f) = rnG call 135 F 124 [some (vR 0)] [vI 4, vI ((z 4) - (z 3)), vR 0] (LPr z f) := rfl
set_option maxRecDepth 100000 in
theorem bpc84_135_4 (call : QC FA) (x y : Int32) (ls : List (Option PV)) (L : QH FA) (F : Nat) : rnG call 135 (F + 1) 124 ls [vI y, vI x, vR 0] L = bif pcmp 4 x y then rnG call 135 F 127 ls [vR 0] L else rnG call 135 F 125 ls [vR 0] L := rfl
set_option maxRecDepth 100000 in
theorem bpc84_135_5 (call : QC FA) (L : QH FA) (F : Nat) : rnG call 135 (F + 1) 127 [some (vR 0)] [vR 0] L = rnG call 135 F 128 [some (vR 0)] [vI 3, vR 0] L := rfl
set_option maxRecDepth 100000 in
theorem bpc84_135_6 (call : QC FA) (y : Int32) (ls : List (Option PV)) (z : Nat → Int32) (f : Nat → FA) (F : Nat) : rnG call 135 (F + 1) 128 ls [vI y, vR 0] (LPr z f) = rnG call 135 F 129 ls [] (LPr (uZ z 5 y) f) := rfl
set_option maxRecDepth 100000 in
theorem bpc84_135_7 (call : QC FA) (L : QH FA) (F : Nat) : rnG call 135 (F + 1) 129 [some (vR 0)] [] L = rnG call 135 F 159 [some (vR 0)] [] L := rfl
set_option maxRecDepth 100000 in
theorem bpc84_135_8 (call : QC FA) (ls : List (Option PV)) (L : QH FA) (F : Nat) : rnG call 135 (F + 1) 159 ls [] L = some (none, L) := rfl
set_option maxRecDepth 100000 in
theorem bpc84_135_9 (call : QC FA) (L : QH FA) (F : Nat) : rnG call 135 (F + 2) 125 [some (vR 0)] [vR 0] L = rnG call 135 F 128 [some (vR 0)] [vI 1, vR 0] L := rfl
set_option maxRecDepth 100000 in
theorem bpc84_135_10 (call : QC FA) (z : Nat → Int32) (f : Nat → FA) (F : Nat) : rnG call 135 (F + 4) 89 [some (vR 0)] [] (LPr z f) = rnG call 135 F 93 [some (vR 0)] [vI (z 4), vR 1] (LPr z f) := rfl
set_option maxRecDepth 100000 in
theorem bpc84_135_11 (call : QC FA) (x : Int32) (ls : List (Option PV)) (z : Nat → Int32) (f : Nat → FA) (F : Nat) : rnG call 135 (F + 1) 93 ls [vI x, vR 1] (LPr z f) = bif (Nat.beq 0 0 && pin x 400) then rnG call 135 F 94 ls [vI (f 1 (ix x))] (LPr z f) else none := rfl
set_option maxRecDepth 100000 in
theorem bpc84_135_12 (call : QC FA) (a0 : Int32) (ls : List (Option PV)) (z : Nat → Int32) (f : Nat → FA) (F : Nat) : rnG call 135 (F + 1) 94 ls [vI a0] (LPr z f) = cbd (call 120 [vI a0] (LPr z f)) (fun r L' => rnG call 135 F 95 ls (r.toList ++ []) L') := pcZ (ih := rnG call 135 F) (call := call) (a := 120) (b := 1) (t := 95) (ls := ls) (As := [vI a0]) (st' := []) (L := LPr z f) rfl rfl
set_option maxRecDepth 100000 in
theorem bpc84_135_13 (call : QC FA) (x : Int32) (ls : List (Option PV)) (L : QH FA) (F : Nat) : rnG call 135 (F + 1) 95 ls [vI x] L = bif pcmp 0 x 0 then rnG call 135 F 117 ls [] L else rnG call 135 F 96 ls [] L := rfl
set_option maxRecDepth 100000 in
theorem bpc84_135_14 (call : QC FA) (z : Nat → Int32) (f : Nat → FA) (F : Nat) : rnG call 135 (F + 9) 96 [some (vR 0)] [] (LPr z f) = rnG call 135 F 105 [some (vR 0)] [vI (z 4), vR 1, vI ((z 6) * 10), vR 0] (LPr z f) := rfl
set_option maxRecDepth 100000 in
theorem bpc84_135_15 (call : QC FA) (x : Int32) (s0 : Int32) (ls : List (Option PV)) (z : Nat → Int32) (f : Nat → FA) (F : Nat) : rnG call 135 (F + 1) 105 ls [vI x, vR 1, vI s0, vR 0] (LPr z f) = bif (Nat.beq 0 0 && pin x 400) then rnG call 135 F 106 ls [vI (f 1 (ix x)), vI s0, vR 0] (LPr z f) else none := rfl
set_option maxRecDepth 100000 in
theorem bpc84_135_16 (call : QC FA) (s0 : Int32) (s1 : Int32) (L : QH FA) (F : Nat) : rnG call 135 (F + 3) 106 [some (vR 0)] [vI s0, vI s1, vR 0] L = rnG call 135 F 109 [some (vR 0)] [vI ((s1 + s0) - 48), vR 0] L := rfl
set_option maxRecDepth 100000 in
theorem bpc84_135_17 (call : QC FA) (y : Int32) (ls : List (Option PV)) (z : Nat → Int32) (f : Nat → FA) (F : Nat) : rnG call 135 (F + 1) 109 ls [vI y, vR 0] (LPr z f) = rnG call 135 F 110 ls [] (LPr (uZ z 6 y) f) := rfl
set_option maxRecDepth 100000 in
theorem bpc84_135_18 (call : QC FA) (z : Nat → Int32) (f : Nat → FA) (F : Nat) : rnG call 135 (F + 5) 110 [some (vR 0)] [] (LPr z f) = rnG call 135 F 115 [some (vR 0)] [vI ((z 4) + 1), vR 0] (LPr z f) := rfl
set_option maxRecDepth 100000 in
theorem bpc84_135_19 (call : QC FA) (y : Int32) (ls : List (Option PV)) (z : Nat → Int32) (f : Nat → FA) (F : Nat) : rnG call 135 (F + 1) 115 ls [vI y, vR 0] (LPr z f) = rnG call 135 F 116 ls [] (LPr (uZ z 4 y) f) := rfl
set_option maxRecDepth 100000 in
theorem bpc84_135_20 (call : QC FA) (L : QH FA) (F : Nat) : rnG call 135 (F + 1) 116 [some (vR 0)] [] L = rnG call 135 F 84 [some (vR 0)] [] L := rfl
theorem vcpc84_135_84 (call : QC FA) (z : Nat → Int32) (f : Nat → FA) (res : Option PV × QH FA) (H : ((I (z 2) ≤ I (z 4) → ((4 < I ((z 4) - (z 3)) → res = (none, LPr (uZ z 5 3) f)) ∧ (I ((z 4) - (z 3)) ≤ 4 → res = (none, LPr (uZ z 5 1) f)))) ∧ (I (z 4) < I (z 2) → (pin (z 4) 400 = true ∧ (∃ (r1 : Int32) (z1 : Nat → Int32) (f1 : Nat → FA), call 120 [vI (f 1 (ix (z 4)))] (LPr z f) = some (some (vI r1), LPr z1 f1) ∧ ((r1 = 0 → ((4 < I ((z1 4) - (z1 3)) → res = (none, LPr (uZ z1 5 3) f1)) ∧ (I ((z1 4) - (z1 3)) ≤ 4 → res = (none, LPr (uZ z1 5 1) f1)))) ∧ (¬ r1 = 0 → (pin (z1 4) 400 = true ∧ RC call (mP 135) 84 [some (vR 0)] [] (LPr (uZ (uZ z1 6 ((((z1 6) * 10) + (f1 1 (ix (z1 4)))) - 48)) 4 ((z1 4) + 1)) f1) res)))))))) : RC call (mP 135) 84 [some (vR 0)] [] (LPr z f) res := by
  refine rc_b (i' := 88) (ls' := [some (vR 0)]) (st' := [vI (z 2), vI (z 4)]) (L' := LPr z f) 4 (bpc84_135_1 call z f) ?_
  refine rc_if (it := 117) (ie := 89) (ls' := [some (vR 0)]) (st' := []) (bpc84_135_2 call (z 4) (z 2) _ _) (fun q1 => ?_) (fun q1 => ?_)
  · have H := H.1 (cI3t q1 rfl rfl)
    refine rc_b (i' := 124) (ls' := [some (vR 0)]) (st' := [vI 4, vI ((z 4) - (z 3)), vR 0]) (L' := LPr z f) 7 (bpc84_135_3 call z f) ?_
    refine rc_if (it := 127) (ie := 125) (ls' := [some (vR 0)]) (st' := [vR 0]) (bpc84_135_4 call ((z 4) - (z 3)) 4 _ _) (fun q2 => ?_) (fun q2 => ?_)
    · have H := H.1 (cI4t q2 rfl rfl)
      refine rc_b (i' := 128) (ls' := [some (vR 0)]) (st' := [vI 3, vR 0]) (L' := LPr z f) 1 (bpc84_135_5 call _) ?_
      refine rc_b (i' := 129) (ls' := [some (vR 0)]) (st' := []) (L' := LPr (uZ z 5 3) f) 1 (bpc84_135_6 call 3 _ z f) ?_
      refine rc_b (i' := 159) (ls' := [some (vR 0)]) (st' := []) (L' := LPr (uZ z 5 3) f) 1 (bpc84_135_7 call _) ?_
      subst H
      exact rc_ret (bpc84_135_8 call _ _)
    · have H := H.2 (cI4f q2 rfl rfl)
      refine rc_b (i' := 128) (ls' := [some (vR 0)]) (st' := [vI 1, vR 0]) (L' := LPr z f) 2 (bpc84_135_9 call _) ?_
      refine rc_b (i' := 129) (ls' := [some (vR 0)]) (st' := []) (L' := LPr (uZ z 5 1) f) 1 (bpc84_135_6 call 1 _ z f) ?_
      refine rc_b (i' := 159) (ls' := [some (vR 0)]) (st' := []) (L' := LPr (uZ z 5 1) f) 1 (bpc84_135_7 call _) ?_
      subst H
      exact rc_ret (bpc84_135_8 call _ _)
  · have H := H.2 (cI3f q1 rfl rfl)
    refine rc_b (i' := 93) (ls' := [some (vR 0)]) (st' := [vI (z 4), vR 1]) (L' := LPr z f) 4 (bpc84_135_10 call z f) ?_
    obtain ⟨g1, H⟩ := H
    refine rc_g (i' := 94) (ls' := [some (vR 0)]) (st' := [vI (f 1 (ix (z 4)))]) (L' := LPr z f) (bpc84_135_11 call (z 4) _ z f) (pinG g1) ?_
    obtain ⟨r1, z1, f1, hc, H⟩ := H
    refine rc_call (t := 95) (ls' := [some (vR 0)]) (st' := []) (bpc84_135_12 call (f 1 (ix (z 4))) _ z f) hc ?_
    show RC call (mP 135) 95 [some (vR 0)] [vI r1] (LPr z1 f1) res
    refine rc_if (it := 117) (ie := 96) (ls' := [some (vR 0)]) (st' := []) (bpc84_135_13 call r1 _ _) (fun q3 => ?_) (fun q3 => ?_)
    · have H := H.1 (cI0t q3)
      refine rc_b (i' := 124) (ls' := [some (vR 0)]) (st' := [vI 4, vI ((z1 4) - (z1 3)), vR 0]) (L' := LPr z1 f1) 7 (bpc84_135_3 call z1 f1) ?_
      refine rc_if (it := 127) (ie := 125) (ls' := [some (vR 0)]) (st' := [vR 0]) (bpc84_135_4 call ((z1 4) - (z1 3)) 4 _ _) (fun q4 => ?_) (fun q4 => ?_)
      · have H := H.1 (cI4t q4 rfl rfl)
        refine rc_b (i' := 128) (ls' := [some (vR 0)]) (st' := [vI 3, vR 0]) (L' := LPr z1 f1) 1 (bpc84_135_5 call _) ?_
        refine rc_b (i' := 129) (ls' := [some (vR 0)]) (st' := []) (L' := LPr (uZ z1 5 3) f1) 1 (bpc84_135_6 call 3 _ z1 f1) ?_
        refine rc_b (i' := 159) (ls' := [some (vR 0)]) (st' := []) (L' := LPr (uZ z1 5 3) f1) 1 (bpc84_135_7 call _) ?_
        subst H
        exact rc_ret (bpc84_135_8 call _ _)
      · have H := H.2 (cI4f q4 rfl rfl)
        refine rc_b (i' := 128) (ls' := [some (vR 0)]) (st' := [vI 1, vR 0]) (L' := LPr z1 f1) 2 (bpc84_135_9 call _) ?_
        refine rc_b (i' := 129) (ls' := [some (vR 0)]) (st' := []) (L' := LPr (uZ z1 5 1) f1) 1 (bpc84_135_6 call 1 _ z1 f1) ?_
        refine rc_b (i' := 159) (ls' := [some (vR 0)]) (st' := []) (L' := LPr (uZ z1 5 1) f1) 1 (bpc84_135_7 call _) ?_
        subst H
        exact rc_ret (bpc84_135_8 call _ _)
    · have H := H.2 (cI0f q3)
      refine rc_b (i' := 105) (ls' := [some (vR 0)]) (st' := [vI (z1 4), vR 1, vI ((z1 6) * 10), vR 0]) (L' := LPr z1 f1) 9 (bpc84_135_14 call z1 f1) ?_
      obtain ⟨g1, H⟩ := H
      refine rc_g (i' := 106) (ls' := [some (vR 0)]) (st' := [vI (f1 1 (ix (z1 4))), vI ((z1 6) * 10), vR 0]) (L' := LPr z1 f1) (bpc84_135_15 call (z1 4) ((z1 6) * 10) _ z1 f1) (pinG g1) ?_
      refine rc_b (i' := 109) (ls' := [some (vR 0)]) (st' := [vI ((((z1 6) * 10) + (f1 1 (ix (z1 4)))) - 48), vR 0]) (L' := LPr z1 f1) 3 (bpc84_135_16 call (f1 1 (ix (z1 4))) ((z1 6) * 10) _) ?_
      refine rc_b (i' := 110) (ls' := [some (vR 0)]) (st' := []) (L' := LPr (uZ z1 6 ((((z1 6) * 10) + (f1 1 (ix (z1 4)))) - 48)) f1) 1 (bpc84_135_17 call ((((z1 6) * 10) + (f1 1 (ix (z1 4)))) - 48) _ z1 f1) ?_
      refine rc_b (i' := 115) (ls' := [some (vR 0)]) (st' := [vI ((z1 4) + 1), vR 0]) (L' := LPr (uZ z1 6 ((((z1 6) * 10) + (f1 1 (ix (z1 4)))) - 48)) f1) 5 (bpc84_135_18 call (uZ z1 6 ((((z1 6) * 10) + (f1 1 (ix (z1 4)))) - 48)) f1) ?_
      refine rc_b (i' := 116) (ls' := [some (vR 0)]) (st' := []) (L' := LPr (uZ (uZ z1 6 ((((z1 6) * 10) + (f1 1 (ix (z1 4)))) - 48)) 4 ((z1 4) + 1)) f1) 1 (bpc84_135_19 call ((z1 4) + 1) _ (uZ z1 6 ((((z1 6) * 10) + (f1 1 (ix (z1 4)))) - 48)) f1) ?_
      refine rc_b (i' := 84) (ls' := [some (vR 0)]) (st' := []) (L' := LPr (uZ (uZ z1 6 ((((z1 6) * 10) + (f1 1 (ix (z1 4)))) - 48)) 4 ((z1 4) + 1)) f1) 1 (bpc84_135_20 call _) ?_
      exact H
theorem pLet (d : Nat) (c : Int32) {z : Nat → Int32} {f : Nat → FA} : pcall (d + 1) 124 [vI c] (LPr z f) = some (some (vI (if pxL c = true then 1 else 0)), LPr z f) := by
  refine pcall_i (by decide) (mq124 (cu := [])).2.2 rfl (vcp124_0 (pcall d) c z f _ ?_)
  have t : (97 ≤ I c ∧ I c ≤ 122) ∨ (65 ≤ I c ∧ I c ≤ 90) → (if pxL c = true then (1 : Int32) else 0) = 1 := fun q => if_pos (decide_eq_true q)
  have n : ¬ ((97 ≤ I c ∧ I c ≤ 122) ∨ (65 ≤ I c ∧ I c ≤ 90)) → (if pxL c = true then (1 : Int32) else 0) = 0 := fun q => if_neg (fun k => q (of_decide_eq_true k))
  refine ⟨fun q1 => ⟨fun q2 => ?_, fun q2 => ⟨fun q3 => ?_, fun q3 => ?_⟩⟩, fun q1 => ⟨fun q2 => ?_, fun q2 => ⟨fun q3 => ?_, fun q3 => ⟨fun q4 => ?_, fun q4 => ?_⟩⟩⟩⟩
  · rw [n (by omega)]
  · rw [n (by omega)]
  · rw [t (by omega)]
  · rw [t (by omega)]
  · rw [n (by omega)]
  · rw [n (by omega)]
  · rw [t (by omega)]
theorem pDig (d : Nat) (c : Int32) {z : Nat → Int32} {f : Nat → FA} : pcall (d + 1) 120 [vI c] (LPr z f) = some (some (vI (if pxD c = true then 1 else 0)), LPr z f) := by
  refine pcall_i (by decide) (mq120 (cu := [])).2.2 rfl (vcp120_0 (pcall d) c z f _ ?_)
  have t : 48 ≤ I c ∧ I c ≤ 57 → (if pxD c = true then (1 : Int32) else 0) = 1 := fun q => if_pos (decide_eq_true q)
  have n : ¬ (48 ≤ I c ∧ I c ≤ 57) → (if pxD c = true then (1 : Int32) else 0) = 0 := fun q => if_neg (fun k => q (of_decide_eq_true k))
  refine ⟨fun q1 => ?_, fun q1 => ⟨fun q2 => ?_, fun q2 => ?_⟩⟩
  · rw [n (by omega)]
  · rw [n (by omega)]
  · rw [t (by omega)]
theorem pWrong (d : Nat) : ∀ (a : Int32) (z : Nat → Int32) (f : Nat → FA), pcall (d + 1) 138 [vR 0, vI a] (LPr z f) = some (some (vI 0), LPr (uZ (uZ z 7 a) 8 (z 3)) f) := fun a z f => pcall_i (by decide) (mq138 (cu := [])).2.2 rfl (vcp138_0 (pcall d) a z f _ rfl)
theorem one_nz {P : Prop} [Decidable P] (h : P) : ¬ (if P then (1 : Int32) else 0) = 0 := by
  rw [if_pos h]
  decide
/-- what a step leaves alone -/
def PDZ (z z' : Nat → Int32) : Prop := ∀ j, j ≠ 3 → j ≠ 4 → j ≠ 5 → j ≠ 6 → z' j = z j
theorem PDZ.trans {z1 z2 z3 : Nat → Int32} (h1 : PDZ z1 z2) (h2 : PDZ z2 z3) : PDZ z1 z3 := fun j a b c e => (h2 j a b c e).trans (h1 j a b c e)
theorem PDZ.u {z : Nat → Int32} {j : Nat} {x : Int32} (hj : j = 3 ∨ j = 4 ∨ j = 5 ∨ j = 6) : PDZ z (uZ z j x) := fun i a b c e => uZ_n (by omega)
/-- the class's token -/
def pcT (x : Int32) (tk : Nat) : Prop := x = nI tk ∨ (tk = 3 ∧ (x = 44 ∨ x = 46 ∨ x = 58))
def pcRt (z : Nat → Int32) (x : Nat × Nat × Nat × Nat) : Prop := z 3 = nI x.1 ∧ z 4 = nI x.2.1 ∧ pcT (z 5) x.2.2.1 ∧ (x.2.2.1 = 1 → z 6 = nI x.2.2.2)
theorem sp46 (d a n : Nat) (f : Nat → FA) (hn : n ≤ 400) : ∀ k s, s + k = n → a ≤ s → ∀ z, z 2 = nI n → z 3 = nI a → z 4 = nI s → ∃ z', RC (pcall (d + 1)) (mP 135) 46 [some (vR 0)] [] (LPr z f) (none, LPr z' f) ∧ PDZ z z' ∧ z' 3 = nI a ∧ z' 4 = nI (pxE pxL (f 1) n s) ∧ z' 5 = nI (pxw (f 1) a (pxE pxL (f 1) n s)) := by
  intro k
  induction k with
  | zero =>
    intro s hs has z z2 z3 z4
    have i2 : I (z 2) = n := by rw [z2]; exact I_nI (by omega)
    have i4 : I (z 4) = s := by rw [z4]; exact I_nI (by omega)
    rw [pxE_f (fun c => by have := c.1; omega)]
    refine ⟨uZ z 5 (nI (pxw (f 1) a s)), vcpc46_135_46 (pcall (d + 1)) z f _ ⟨fun _ => ⟨_, _, _, ?_, rfl⟩, fun q => by omega⟩, PDZ.u (by omega), ?_, ?_, uZ_s⟩
    · rw [z3, z4]
      exact pcall_w ⟨z, f, a, s, n, rfl, rfl, has, by omega, hn, z2, rfl⟩
    · rw [uZ_n (by decide)]; exact z3
    · rw [uZ_n (by decide)]; exact z4
  | succ k ih =>
    intro s hs has z z2 z3 z4
    have i2 : I (z 2) = n := by rw [z2]; exact I_nI (by omega)
    have i4 : I (z 4) = s := by rw [z4]; exact I_nI (by omega)
    have x4 : ix (z 4) = s := by rw [z4]; exact ix_nI (by omega)
    have p4 : pin (z 4) 400 = true := by rw [z4]; exact pin_nI (by omega) (by omega)
    have hl := pLet d (f 1 s) (z := z) (f := f)
    by_cases c : pxL (f 1 s) = true
    · rw [pxE_t (by omega) c]
      obtain ⟨z', h1, h2, h3, h4, h5⟩ := ih (s + 1) (by omega) (by omega) (uZ z 4 (nI (s + 1))) (by rw [uZ_n (by decide)]; exact z2) (by rw [uZ_n (by decide)]; exact z3) uZ_s
      refine ⟨z', vcpc46_135_46 (pcall (d + 1)) z f _ ⟨fun q => by omega, fun _ => ⟨p4, _, _, _, by rw [x4]; exact hl, fun q => absurd q (one_nz c), fun _ => ?_⟩⟩, (PDZ.u (by omega)).trans h2, h3, h4, h5⟩
      rw [z4, show nI s + 1 = nI (s + 1) from nI_add s 1]
      exact h1
    · rw [pxE_f (fun q => c q.2)]
      refine ⟨uZ z 5 (nI (pxw (f 1) a s)), vcpc46_135_46 (pcall (d + 1)) z f _ ⟨fun q => by omega, fun _ => ⟨p4, _, _, _, by rw [x4]; exact hl, fun _ => ⟨_, _, _, ?_, rfl⟩, fun q => absurd (if_neg c) q⟩⟩, PDZ.u (by omega), ?_, ?_, uZ_s⟩
      · rw [z3, z4]
        exact pcall_w ⟨z, f, a, s, n, rfl, rfl, has, by omega, hn, z2, rfl⟩
      · rw [uZ_n (by decide)]; exact z3
      · rw [uZ_n (by decide)]; exact z4
theorem sp84 (d a n : Nat) (f : Nat → FA) (hn : n ≤ 400) : ∀ k s, s + k = n → a ≤ s → (∀ j, a ≤ j → j < s → pxD (f 1 j) = true) → ∀ z, z 2 = nI n → z 3 = nI a → z 4 = nI s → (s ≤ a + 4 → z 6 = nI (pxN (f 1) a (s - a))) → ∃ z', RC (pcall (d + 1)) (mP 135) 84 [some (vR 0)] [] (LPr z f) (none, LPr z' f) ∧ PDZ z z' ∧ z' 3 = nI a ∧ z' 4 = nI (pxE pxD (f 1) n s) ∧ z' 5 = nI (if pxE pxD (f 1) n s ≤ a + 4 then 1 else 3) ∧ (pxE pxD (f 1) n s ≤ a + 4 → z' 6 = nI (pxN (f 1) a (pxE pxD (f 1) n s - a))) := by
  intro k
  induction k with
  | zero =>
    intro s hs has hD z z2 z3 z4 z6
    have i2 : I (z 2) = n := by rw [z2]; exact I_nI (by omega)
    have i4 : I (z 4) = s := by rw [z4]; exact I_nI (by omega)
    have e9 : I (z 4 - z 3) = ((s - a : Nat) : Int) := by rw [z3, z4, nI_sub (by omega)]; exact I_nI (by omega)
    rw [pxE_f (fun c => by have := c.1; omega)]
    by_cases c4 : s ≤ a + 4
    · rw [if_pos c4]
      refine ⟨uZ z 5 1, vcpc84_135_84 (pcall (d + 1)) z f _ ⟨fun _ => ⟨fun q => by omega, fun _ => rfl⟩, fun q => by omega⟩, PDZ.u (by omega), ?_, ?_, uZ_s, fun _ => ?_⟩
      · rw [uZ_n (by decide)]; exact z3
      · rw [uZ_n (by decide)]; exact z4
      · rw [uZ_n (by decide)]; exact z6 c4
    · rw [if_neg c4]
      refine ⟨uZ z 5 3, vcpc84_135_84 (pcall (d + 1)) z f _ ⟨fun _ => ⟨fun _ => rfl, fun q => by omega⟩, fun q => by omega⟩, PDZ.u (by omega), ?_, ?_, uZ_s, fun q => absurd q c4⟩
      · rw [uZ_n (by decide)]; exact z3
      · rw [uZ_n (by decide)]; exact z4
  | succ k ih =>
    intro s hs has hD z z2 z3 z4 z6
    have i2 : I (z 2) = n := by rw [z2]; exact I_nI (by omega)
    have i4 : I (z 4) = s := by rw [z4]; exact I_nI (by omega)
    have x4 : ix (z 4) = s := by rw [z4]; exact ix_nI (by omega)
    have p4 : pin (z 4) 400 = true := by rw [z4]; exact pin_nI (by omega) (by omega)
    have hl := pDig d (f 1 s) (z := z) (f := f)
    have e9 : I (z 4 - z 3) = ((s - a : Nat) : Int) := by rw [z3, z4, nI_sub (by omega)]; exact I_nI (by omega)
    by_cases c : pxD (f 1 s) = true
    · rw [pxE_t (by omega) c]
      have e6 : s + 1 ≤ a + 4 → z 6 * 10 + f 1 s - 48 = nI (pxN (f 1) a (s + 1 - a)) := fun q => by
        have h2 : 48 ≤ I (f 1 s) ∧ I (f 1 s) ≤ 57 := of_decide_eq_true c
        obtain ⟨m, hm, hm2, hm3⟩ := nI_ofI (x := f 1 s) (by omega)
        have em : ix (f 1 s) = m := by rw [hm]; exact ix_nI (by omega)
        rw [show s + 1 - a = (s - a) + 1 by omega]
        show _ = nI (10 * pxN (f 1) a (s - a) + (ix (f 1 (a + (s - a))) - 48))
        have h3 := pxN_4 (t := f 1) (b := a) (s - a) (by omega) (fun j hj => hD (a + j) (by omega) (by omega))
        have h4 : 10 ^ (s - a) ≤ 10 ^ 3 := Nat.pow_le_pow_right (by decide) (by omega)
        rw [z6 (by omega), show a + (s - a) = s by omega, em, hm, show (10 : Int32) = nI 10 from rfl, show (48 : Int32) = nI 48 from rfl, mul_nI, nI_add, nI_sub (by omega)]
        congr 1
        omega
      obtain ⟨z', h1, h2, h3⟩ := ih (s + 1) (by omega) (by omega) (fun j h1 h2 => by
        by_cases e : j = s
        · subst e
          exact c
        · exact hD j h1 (by omega)) (uZ (uZ z 6 (z 6 * 10 + f 1 s - 48)) 4 (nI (s + 1))) (by rw [uZ_n (by decide), uZ_n (by decide)]; exact z2) (by rw [uZ_n (by decide), uZ_n (by decide)]; exact z3) uZ_s (fun q => by rw [uZ_n (by decide), uZ_s]; exact e6 q)
      refine ⟨z', vcpc84_135_84 (pcall (d + 1)) z f _ ⟨fun q => by omega, fun _ => ⟨p4, _, _, _, by rw [x4]; exact hl, fun q => absurd q (one_nz c), fun _ => ⟨p4, ?_⟩⟩⟩, ((PDZ.u (by omega)).trans (PDZ.u (by omega))).trans h2, h3⟩
      rw [x4, z4, show nI s + 1 = nI (s + 1) from nI_add s 1]
      exact h1
    · rw [pxE_f (fun q => c q.2)]
      by_cases c4 : s ≤ a + 4
      · rw [if_pos c4]
        refine ⟨uZ z 5 1, vcpc84_135_84 (pcall (d + 1)) z f _ ⟨fun q => by omega, fun _ => ⟨p4, _, _, _, by rw [x4]; exact hl, fun _ => ⟨fun q => by omega, fun _ => rfl⟩, fun q => absurd (if_neg c) q⟩⟩, PDZ.u (by omega), ?_, ?_, uZ_s, fun _ => ?_⟩
        · rw [uZ_n (by decide)]; exact z3
        · rw [uZ_n (by decide)]; exact z4
        · rw [uZ_n (by decide)]; exact z6 c4
      · rw [if_neg c4]
        refine ⟨uZ z 5 3, vcpc84_135_84 (pcall (d + 1)) z f _ ⟨fun q => by omega, fun _ => ⟨p4, _, _, _, by rw [x4]; exact hl, fun _ => ⟨fun _ => rfl, fun q => by omega⟩, fun q => absurd (if_neg c) q⟩⟩, PDZ.u (by omega), ?_, ?_, uZ_s, fun q => absurd q c4⟩
        · rw [uZ_n (by decide)]; exact z3
        · rw [uZ_n (by decide)]; exact z4
theorem pxS_byte {c : Int32} (h : 40 ≤ I c) (h2 : I c ≤ 62) (h3 : ¬ pxD c = true) (h4 : ¬ pxS c = true) : c = 44 ∨ c = 46 ∨ c = 58 := by
  obtain ⟨m, rfl, hm2, hm3⟩ := nI_ofI (x := c) (by omega)
  have g1 : 40 ≤ m := by omega
  have g2 : m ≤ 62 := by omega
  have key : ∀ m, m < 63 → 40 ≤ m → pxD (nI m) = true ∨ pxS (nI m) = true ∨ (nI m = 44 ∨ nI m = 46 ∨ nI m = 58) := by decide +kernel
  rcases key m (by omega) g1 with q | q | q
  · exact absurd q h3
  · exact absurd q h4
  · exact q
theorem pxS_in {c : Int32} (h : pxS c = true) : 40 ≤ I c ∧ I c ≤ 62 := by
  have h := of_decide_eq_true h
  rcases h with h | h | h | h | h | h | h | h | h | h <;> subst h <;> decide
theorem sp0 (d n : Nat) (f : Nat → FA) (hn : n ≤ 400) : ∀ k s, s + k = n → ∀ z, z 2 = nI n → z 4 = nI s → ∃ z', RC (pcall (d + 1)) (mP 135) 0 [some (vR 0)] [] (LPr z f) (none, LPr z' f) ∧ PDZ z z' ∧ pcRt z' (pxT (f 1) n s) := by
  intro k
  induction k with
  | zero =>
    intro s hs z z2 z4
    have i2 : I (z 2) = n := by rw [z2]; exact I_nI (by omega)
    have i4 : I (z 4) = s := by rw [z4]; exact I_nI (by omega)
    have eb : pxE pxB (f 1) n s = s := pxE_f (fun c => by have := c.1; omega)
    have eT : pxT (f 1) n s = (s, s, 2, 0) := by
      unfold pxT
      rw [eb]
      exact if_pos (by omega)
    rw [eT]
    refine ⟨uZ (uZ z 3 (z 4)) 5 2, vcp135_0 (pcall (d + 1)) z f _ ⟨fun _ => ⟨fun q => by omega, fun _ => rfl⟩, fun q => by omega⟩, (PDZ.u (by omega)).trans (PDZ.u (by omega)), ?_, ?_, Or.inl uZ_s, fun q => absurd (show (2 : Nat) = 1 from q) (by decide)⟩
    · rw [uZ_n (by decide), uZ_s]; exact z4
    · rw [uZ_n (by decide), uZ_n (by decide)]; exact z4
  | succ k ih =>
    intro s hs z z2 z4
    have i2 : I (z 2) = n := by rw [z2]; exact I_nI (by omega)
    have i4 : I (z 4) = s := by rw [z4]; exact I_nI (by omega)
    have x4 : ix (z 4) = s := by rw [z4]; exact ix_nI (by omega)
    have p4 : pin (z 4) 400 = true := by rw [z4]; exact pin_nI (by omega) (by omega)
    have e4 : z 4 + 1 = nI (s + 1) := by rw [z4]; exact nI_add s 1
    by_cases c : f 1 s = 32 ∨ f 1 s = 10
    · have eT : pxT (f 1) n s = pxT (f 1) n (s + 1) := by
        unfold pxT
        rw [pxE_t (by omega) (decide_eq_true c)]
      rw [eT]
      obtain ⟨z', h1, h2, h3⟩ := ih (s + 1) (by omega) (uZ z 4 (nI (s + 1))) (by rw [uZ_n (by decide)]; exact z2) uZ_s
      refine ⟨z', vcp135_0 (pcall (d + 1)) z f _ ⟨fun q => by omega, fun _ => ⟨p4, ?_⟩⟩, (PDZ.u (by omega)).trans h2, h3⟩
      rw [x4, e4]
      exact ⟨fun _ => h1, fun q => ⟨p4, fun q2 => absurd c (fun k => k.elim q q2), fun _ => h1⟩⟩
    · have n1 : ¬ f 1 s = 32 := fun h => c (Or.inl h)
      have n2 : ¬ f 1 s = 10 := fun h => c (Or.inr h)
      have eb : pxE pxB (f 1) n s = s := pxE_f (fun q => c (of_decide_eq_true q.2))
      have eT : pxT (f 1) n s = (if pxL (f 1 s) = true then (s, pxE pxL (f 1) n s, pxw (f 1) s (pxE pxL (f 1) n s), 0) else if pxD (f 1 s) = true then (s, pxE pxD (f 1) n s, if pxE pxD (f 1) n s ≤ s + 4 then 1 else 3, pxN (f 1) s (pxE pxD (f 1) n s - s)) else (s, s + 1, if pxS (f 1 s) = true then ix (f 1 s) else 3, 0)) := by
        unfold pxT
        rw [eb]
        exact if_neg (by omega)
      have z34 : uZ z 3 (z 4) 4 = nI s := by rw [uZ_n (by decide)]; exact z4
      have p34 : pin (uZ z 3 (z 4) 4) 400 = true := by rw [z34]; exact pin_nI (by omega) (by omega)
      have x34 : ix (uZ z 3 (z 4) 4) = s := by rw [z34]; exact ix_nI (by omega)
      have e34 : uZ z 3 (z 4) 4 + 1 = nI (s + 1) := by rw [z34]; exact nI_add s 1
      have hl := pLet d (f 1 s) (z := uZ z 3 (z 4)) (f := f)
      have hd := pDig d (f 1 s) (z := uZ z 3 (z 4)) (f := f)
      -- the token begins here
      have pre : ∀ res, ((pxL (f 1 s) = true → RC (pcall (d + 1)) (mP 135) 46 [some (vR 0)] [] (LPr (uZ z 3 (z 4)) f) res) ∧ (¬ pxL (f 1 s) = true → (pxD (f 1 s) = true → RC (pcall (d + 1)) (mP 135) 84 [some (vR 0)] [] (LPr (uZ (uZ z 3 (z 4)) 6 0) f) res) ∧ (¬ pxD (f 1 s) = true → (40 ≤ I (f 1 s) ∧ I (f 1 s) ≤ 62 → res = (none, LPr (uZ (uZ (uZ z 3 (z 4)) 5 (f 1 s)) 4 (nI (s + 1))) f)) ∧ (¬ (40 ≤ I (f 1 s) ∧ I (f 1 s) ≤ 62) → res = (none, LPr (uZ (uZ (uZ z 3 (z 4)) 5 3) 4 (nI (s + 1))) f))))) → RC (pcall (d + 1)) (mP 135) 0 [some (vR 0)] [] (LPr z f) res := by
        intro res H
        refine vcp135_0 (pcall (d + 1)) z f _ ⟨fun q => by omega, fun _ => ⟨p4, ?_⟩⟩
        rw [x4]
        refine ⟨fun q => absurd q n1, fun _ => ⟨p4, fun _ => ⟨fun _ => ⟨p4, _, _, _, hl, fun q => ?_, fun q => ?_⟩, fun q => by omega⟩, fun q => absurd q n2⟩⟩
        · have cl : ¬ pxL (f 1 s) = true := fun k => one_nz k q
          have H := H.2 cl
          rw [x34]
          refine ⟨p34, _, _, _, hd, fun q2 => ?_, fun q2 => ?_⟩
          · have H := H.2 (fun k => one_nz k q2)
            rw [x34, e34]
            exact ⟨p34, fun q3 => H.2 (by omega), fun q3 => ⟨p34, fun q4 => H.2 (by omega), fun q4 => ⟨p34, H.1 ⟨q3, q4⟩⟩⟩⟩
          · exact H.1 (Decidable.byContradiction (fun k => q2 (if_neg k)))
        · exact H.1 (Decidable.byContradiction (fun k => q (if_neg k)))
      have z0 : PDZ z (uZ z 3 (z 4)) := PDZ.u (by omega)
      rw [eT]
      by_cases m2 : pxL (f 1 s) = true
      · rw [if_pos m2]
        obtain ⟨z', h1, h2, h3, h4, h5⟩ := sp46 d s n f hn (k + 1) s hs (Nat.le_refl _) (uZ z 3 (z 4)) (by rw [uZ_n (by decide)]; exact z2) (by rw [uZ_s]; exact z4) z34
        refine ⟨z', pre _ ⟨fun _ => h1, fun q => absurd m2 q⟩, z0.trans h2, h3, h4, Or.inl h5, fun q => ?_⟩
        have q : pxw (f 1) s (pxE pxL (f 1) n s) = 1 := q
        have := pxw_lt (f 1) s (pxE pxL (f 1) n s)
        omega
      · rw [if_neg m2]
        by_cases m3 : pxD (f 1 s) = true
        · rw [if_pos m3]
          obtain ⟨z', h1, h2, h3, h4, h5, h6⟩ := sp84 d s n f hn (k + 1) s hs (Nat.le_refl _) (fun j h1 h2 => by omega) (uZ (uZ z 3 (z 4)) 6 0) (by rw [uZ_n (by decide), uZ_n (by decide)]; exact z2) (by rw [uZ_n (by decide), uZ_s]; exact z4) (by rw [uZ_n (by decide)]; exact z34) (fun _ => by rw [uZ_s, Nat.sub_self]; rfl)
          refine ⟨z', pre _ ⟨fun q => absurd q m2, fun _ => ⟨fun _ => h1, fun q => absurd m3 q⟩⟩, (z0.trans (PDZ.u (by omega))).trans h2, h3, h4, Or.inl h5, fun q => h6 ?_⟩
          have q : (if pxE pxD (f 1) n s ≤ s + 4 then 1 else 3) = 1 := q
          by_cases c4 : pxE pxD (f 1) n s ≤ s + 4
          · exact c4
          · rw [if_neg c4] at q
            exact absurd q (by decide)
        · rw [if_neg m3]
          by_cases m4 : pxS (f 1 s) = true
          · rw [if_pos m4]
            have hb := pxS_ix m4
            refine ⟨_, pre _ ⟨fun q => absurd q m2, fun _ => ⟨fun q => absurd q m3, fun _ => ⟨fun _ => rfl, fun q => absurd (pxS_in m4) q⟩⟩⟩, (z0.trans (PDZ.u (by omega))).trans (PDZ.u (by omega)), ?_, uZ_s, Or.inl ?_, fun q => ?_⟩
            · rw [uZ_n (by decide), uZ_n (by decide), uZ_s]; exact z4
            · rw [uZ_n (by decide), uZ_s]
              exact pos_nI
            · have q : ix (f 1 s) = 1 := q
              omega
          · rw [if_neg m4]
            by_cases m5 : 40 ≤ I (f 1 s) ∧ I (f 1 s) ≤ 62
            · refine ⟨_, pre _ ⟨fun q => absurd q m2, fun _ => ⟨fun q => absurd q m3, fun _ => ⟨fun _ => rfl, fun q => absurd m5 q⟩⟩⟩, (z0.trans (PDZ.u (by omega))).trans (PDZ.u (by omega)), ?_, uZ_s, Or.inr ⟨rfl, ?_⟩, fun q => absurd (show (3 : Nat) = 1 from q) (by decide)⟩
              · rw [uZ_n (by decide), uZ_n (by decide), uZ_s]; exact z4
              · rw [uZ_n (by decide), uZ_s]
                exact pxS_byte m5.1 m5.2 m3 m4
            · refine ⟨_, pre _ ⟨fun q => absurd q m2, fun _ => ⟨fun q => absurd q m3, fun _ => ⟨fun q => absurd q m5, fun _ => rfl⟩⟩⟩, (z0.trans (PDZ.u (by omega))).trans (PDZ.u (by omega)), ?_, uZ_s, Or.inl ?_, fun q => absurd (show (3 : Nat) = 1 from q) (by decide)⟩
              · rw [uZ_n (by decide), uZ_n (by decide), uZ_s]; exact z4
              · rw [uZ_n (by decide), uZ_s]
                rfl
theorem step_x (d : Nat) {n s : Nat} {z : Nat → Int32} {f : Nat → FA} (hn : n ≤ 400) (hs : s ≤ n) (z2 : z 2 = nI n) (z4 : z 4 = nI s) : ∃ z', pcall (d + 2) 135 [vR 0] (LPr z f) = some (none, LPr z' f) ∧ PDZ z z' ∧ pcRt z' (pxT (f 1) n s) := by
  obtain ⟨z', h1, h2⟩ := sp0 d n f hn (n - s) s (by omega) z z2 z4
  exact ⟨z', pcall_i (by decide) (mq135 (cu := [])).2.2 rfl h1, h2⟩
