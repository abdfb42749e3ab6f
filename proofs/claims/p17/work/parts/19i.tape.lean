abbrev rtE : List (Nat × Nat) := [(79, 1), (79, 2), (79, 3), (79, 4), (79, 5), (79, 6), (79, 7), (79, 8), (79, 9), (79, 11), (79, 13), (81, 999), (82, 999)]
def c79 : List AV := [.inr (.inl (some 80)), .inr (.inr (.inr (2147483648, 2147484048))), .inr (.inr (.inr (2147483648, 2147484048))), .inr (.inr (.inr (2147483648, 2147484048))), .inr (.inr (.inr (2147483648, 2147484048))), .inr (.inr (.inr (0, 4294967295))), .inr (.inr (.inr (0, 4294967295))), .inr (.inr (.inr (0, 4294967295))), .inr (.inr (.inr (0, 4294967295))), .inr (.inr (.inr (0, 4294967295))), .inr (.inl (some 81)), .inr (.inr (.inr (2147483648, 2147483665))), .inr (.inl (some 82)), .inr (.inr (.inr (2147483648, 2147484048)))]
def RTI (lam : Nat → Nat) (h0 h : PH) : Prop := HOK lam [] TCl h ∧ FRM lam rtE h0 h
theorem FRM_set {lam : Nat → Nat} {W : List (Nat × Nat)} {h0 h : PH} {k j ci : Nat} {fs : List PV} {v : PV} (hF : FRM lam W h0 h) (hx : h[lam k]? = some (eO ci fs)) (hm : (k, j) ∈ W) : FRM lam W h0 (h.set (lam k) (eO ci (fs.set j v))) := by
  refine FRM.trans (fun q hq => hq) hF ⟨List.length_set, fun a x0 ha => ?_⟩
  by_cases e : a = lam k
  · subst e
    rw [hx] at ha
    cases ha
    refine ⟨_, List.getElem?_set_self (List.getElem?_eq_some_iff.mp hx).1, rfl, by simp, fun j' hj' => ?_⟩
    have hne : j ≠ j' := fun z => hj' ⟨k, z ▸ hm, rfl⟩
    exact (List.getElem?_set_ne hne).symm
  · exact ⟨x0, by rw [List.getElem?_set_ne (fun z => e z.symm)]; exact ha, kpt.refl x0⟩
set_option maxRecDepth 100000 in
set_option maxHeartbeats 4000000 in
theorem rt_cell {lam : Nat → Nat} {h : PH} (hH : HOK lam [] TCl h) : ∃ fs, h[lam 79]? = some (eO 5 fs) ∧ R2 (vRel lam []) c79 fs := by
  obtain ⟨x, hx, hc⟩ := hH 79 (.inr (5, c79)) rfl
  obtain ⟨xs, rfl, hr⟩ := hc
  exact ⟨xs, hx, hr⟩
theorem set_id {α : Type} {l : List α} {k : Nat} {v : α} (h : l[k]? = some v) : l.set k v = l := by
  apply List.ext_getElem?
  intro i
  by_cases e : k = i
  · subst e
    rw [List.getElem?_set_self (List.getElem?_eq_some_iff.mp h).1, h]
  · rw [List.getElem?_set_ne e]
set_option maxRecDepth 100000 in
set_option maxHeartbeats 4000000 in
theorem rt_put {lam : Nat → Nat} {h0 h : PH} {fs : List PV} {j : Nat} {v : PV} {av : AV} (hl : LAMC lam) (hi : RTI lam h0 h) (hx : h[lam 79]? = some (eO 5 fs)) (hj : nth c79 j = some av) (hv : vRel lam [] av v) (hm : (79, j) ∈ rtE) : RTI lam h0 (h.set (lam 79) (eO 5 (fs.set j v))) := by
  refine ⟨?_, FRM_set hi.2 hx hm⟩
  obtain ⟨fs', hx', hr⟩ := rt_cell hi.1
  cases hx.symm.trans hx'
  have e1 : stl c79 av j = c79 := by rw [stl_eq]; rw [nth_eq] at hj; exact set_id hj
  have h1 := R2.set (j := j) hv hr
  rw [e1] at h1
  have h2 : HOK lam [] (stl TCl (.inr (5, c79)) 79) (h.set (lam 79) (eO 5 (fs.set j v))) := HOK.set (hl 79 rfl) hi.1 hx ⟨_, rfl, h1⟩
  have e2 : stl TCl (.inr (5, c79)) 79 = TCl := by
    rw [stl_eq]
    exact set_id rfl
  rw [e2] at h2
  exact h2
/-- what a call of the reader leaves: the template, the count of lines -/
theorem rt_call {lam : Nat → Nat} {h0 h h' : PH} {eff : List (Nat × Nat)} {fs : List PV} (hl : LAMC lam) (hi : RTI lam h0 h) (hx : h[lam 79]? = some (eO 5 fs)) (hH : HOK lam [] TCl h') (hF : FRM lam eff h h') (hs : ∀ q ∈ eff, q ∈ rtE) (hn : (79, 11) ∉ eff) : RTI lam h0 h' ∧ ∃ fs', h'[lam 79]? = some (eO 5 fs') ∧ fs'[11]? = fs[11]? := by
  refine ⟨⟨hH, FRM.trans hs hi.2 hF⟩, ?_⟩
  obtain ⟨fs', hx', -⟩ := rt_cell hH
  obtain ⟨x, hx2, hk⟩ := hF.2 _ _ hx
  cases hx'.symm.trans hx2
  refine ⟨fs', hx', (hk.2.2 11 (fun ⟨k, hm, e⟩ => hn ?_)).symm⟩
  have : (79 : Nat) = k := hl 79 rfl k e.symm
  rw [this]
  exact hm
def RTQ (lam : Nat → Nat) (h0 : PH) : Option PV → PH → Prop := fun r h' => (r = some vN ∧ RTI lam h0 h') ∨ ∃ (h1 : PH) (k u : Nat) (f g : Nat → Int32), RTI lam h0 h1 ∧ k ≤ 17 ∧ u ≤ 400 ∧ r = some (vR h1.length) ∧ h' = h1 ++ [eO 8 [vR (h1.length + 1), vI (nI k), vR (h1.length + 2)], eI (5 * k) f, eI u g]
theorem rt_room {d maxL sl : Nat} (h1 : d ≤ 29) (h2 : maxL ≤ 5) (h3 : sl ≤ 8) : chkC (rmD 30 3 488) d maxL sl 0 0 0 0 = true := by
  simp only [chkC, rmD, Bool.and_eq_true, Nat.ble_eq]
  omega
section Tape
variable {p : Program} {l : Launch} {e : Env} {s : State} {m : MethodId} {args : Array Value} {below : List Frame} {meth : Method} {c : Code} {G : PG} {lam : Nat → Nat} {h0 : PH}
set_option maxRecDepth 100000 in
set_option maxHeartbeats 4000000 in
theorem rt_end (X : pX p s m args c G 5 cX5_readTape RX5) (hr : meth.sig.returnType = some (.object "ThumbBallot$Text")) (hlk : meth.locks = false) {h : PH} {fs : List PV} {i : Nat} {x3 : Int32} {l1 l2 l4 : Option PV} (hi : RTI lam h0 h) (hx : h[lam 79]? = some (eO 5 fs)) (h11 : fs[11]? = some (vI (nI i))) (hi17 : i ≤ 17) :
    PW p l e (rmD 30 3 488) s m args below meth c G 5 (MQ below (pQ G (RTQ lam h0)) args s 3 488 (pF G)) 0 0 h 143 [some (vR (lam 79)), l1, l2, some (vI x3), l4] [] := by
  refine r_iload_n X dX5_readTape_143 rfl ?_
  refine r_if_ne X dX5_readTape_144 (tgt := 149) rfl (fun _ => ?_) (fun _ => ?_)
  · obtain ⟨fs', hx', hr2⟩ := rt_cell hi.1
    cases hx.symm.trans hx'
    obtain ⟨f10, g10, v10⟩ := R2.get (j := 10) hr2 rfl
    obtain ⟨f12, g12, v12⟩ := R2.get (j := 12) hr2 rfl
    obtain ⟨f13, g13, v13⟩ := R2.get (j := 13) hr2 rfl
    have v10' : f10 = vR (lam 81) := v10
    have v12' : f12 = vR (lam 82) := v12
    subst v10' v12'
    obtain ⟨z, rfl, bz⟩ := v13
    obtain ⟨u, hu, rfl⟩ := rt_int (b := 400) bz
    obtain ⟨y1, hy1, N1, f, rfl, hN1, hln1, -⟩ := hi.1 81 _ rfl
    obtain ⟨y2, hy2, N2, g, rfl, hN2, hln2, -⟩ := hi.1 82 _ rfl
    have e1 : N1 = 80 := rt_len 80 hN1 (by decide) hln1
    have e2 : N2 = 400 := rt_len 400 hN2 (by decide) hln2
    subst e1 e2
    exact rt_tail X hr hlk (by decide) hx g10 h11 g12 g13 hy1 hy2 hi17 hu (Or.inr ⟨h, i, u, _, _, hi, hi17, hu, rfl, rfl⟩)
  · refine r_null X dX5_readTape_147 ?_
    exact r_ret_a X hr (Or.inl ⟨_, rfl⟩) hlk (v := none) dX5_readTape_148 (Nat.zero_le _) (Nat.zero_le _) (Or.inl ⟨rfl, hi⟩)
end Tape
section Tape2
variable {p : Program} {l : Launch} {e : Env} {s : State} {m : MethodId} {args : Array Value} {below : List Frame} {meth : Method} {c : Code} {G : PG} {lam : Nat → Nat} {h0 : PH}
set_option maxRecDepth 100000 in
set_option maxHeartbeats 4000000 in
theorem rt_loop (X : pX p s m args c G 5 cX5_readTape RX5) (hr : meth.sig.returnType = some (.object "ThumbBallot$Text")) (hlk : meth.locks = false) (hl : LAMC lam) (hm0 : SUOK lam TCl EXT l G kc_m0) {kd y2 : Int32} :
    ∀ (t i : Nat), i + t = 17 → ∀ (h : PH) (fs : List PV) (x3 : Int32), RTI lam h0 h → h[lam 79]? = some (eO 5 fs) → fs[11]? = some (vI (nI i)) →
      PW p l e (rmD 30 3 488) s m args below meth c G 5 (MQ below (pQ G (RTQ lam h0)) args s 3 488 (pF G)) 0 0 h 63 [some (vR (lam 79)), some (vI kd), some (vI y2), some (vI x3), some (vI (nI i))] [] := by
  intro t
  induction t with
  | zero =>
    intro i hi h fs x3 hI hx h11
    have e1 : i = 17 := by omega
    subst e1
    refine r_iload X dX5_readTape_63 rfl ?_
    refine r_bipush X dX5_readTape_65 (v := 16) rfl ?_
    refine r_icmp_gt_t X dX5_readTape_67 (tgt := 143) rfl (by decide) ?_
    exact rt_end X hr hlk hI hx h11 (Nat.le_refl _)
  | succ t ih =>
    intro i hi h fs x3 hI hx h11
    have hi2 : (nI i).toInt = (i : Int) := nI_toInt (by omega)
    refine r_iload X dX5_readTape_63 rfl ?_
    refine r_bipush X dX5_readTape_65 (v := 16) rfl ?_
    refine r_icmp_gt_f X dX5_readTape_67 (tgt := 143) rfl (fun z => by have := Int32.lt_iff_toInt_lt.mp z; rw [hi2] at this; have h2 : (16 : Int32).toInt = 16 := rfl; omega) ?_
    refine r_iload_n X dX5_readTape_70 rfl ?_
    refine r_if_eq X dX5_readTape_71 (tgt := 143) rfl (fun _ => rt_end X hr hlk hI hx h11 (by omega)) (fun _ => ?_)
    obtain ⟨fs', hx', hr2⟩ := rt_cell hI.1
    cases hx.symm.trans hx'
    obtain ⟨f5, g5, z5, rfl, -⟩ := R2.get (j := 5) hr2 rfl
    refine r_aload_n X dX5_readTape_74 rfl ?_
    refine r_get X fg_X5_28 dX5_readTape_75 hx g5 ?_
    refine r_iconst X dX5_readTape_78 (v := 2) rfl ?_
    refine r_icmp_eq X dX5_readTape_79 (tgt := 143) rfl (fun _ => rt_end X hr hlk hI hx h11 (by omega)) (fun _ => ?_)
    have fin : ∀ (h1 : PH) (fs1 : List PV) (x : Int32), RTI lam h0 h1 → h1[lam 79]? = some (eO 5 fs1) → fs1[11]? = some (vI (nI i)) → PW p l e (rmD 30 3 488) s m args below meth c G 5 (MQ below (pQ G (RTQ lam h0)) args s 3 488 (pF G)) 0 0 h1 126 [some (vR (lam 79)), some (vI kd), some (vI y2), some (vI x3), some (vI (nI i))] [vI x] := by
      intro h1 fs1 x hI1 hx1 h111
      have hl11 : 11 < fs1.length := (List.getElem?_eq_some_iff.mp h111).1
      refine r_istore_n X dX5_readTape_126 (by decide) ?_
      refine r_aload_n X dX5_readTape_127 rfl ?_
      refine r_dup X dX5_readTape_128 ?_
      refine r_get X fg_X5_46 dX5_readTape_129 hx1 h111 ?_
      refine r_iconst X dX5_readTape_132 (v := 1) rfl ?_
      refine r_iadd X dX5_readTape_133 ?_
      have hs1 : nI i + 1 = nI (i + 1) := nI_add i 1
      rw [hs1]
      refine r_put X fp_X5_46 dX5_readTape_134 hx1 hl11 rfl rfl ?_
      refine r_iinc X dX5_readTape_137 rfl (v := nI (i + 1)) (nI_add i 1) (by decide) ?_
      refine r_goto X dX5_readTape_140 (tgt := 63) rfl ?_
      refine ih (i + 1) (by omega) _ (fs1.set 11 (vI (nI (i + 1)))) x (rt_put hl hI1 hx1 (av := .inr (.inr (.inr (2147483648, 2147483665)))) rfl ⟨_, rfl, by rw [ky_nI (by omega)]; omega, by rw [ky_nI (by omega)]; omega⟩ (by decide)) ?_ ?_
      · rw [List.getElem?_set_self (List.getElem?_eq_some_iff.mp hx1).1]
      · rw [List.getElem?_set_self hl11]
    have bad : ∀ (h1 : PH) (fs1 : List PV), RTI lam h0 h1 → h1[lam 79]? = some (eO 5 fs1) → fs1[11]? = some (vI (nI i)) → PW p l e (rmD 30 3 488) s m args below meth c G 5 (MQ below (pQ G (RTQ lam h0)) args s 3 488 (pF G)) 0 0 h1 125 [some (vR (lam 79)), some (vI kd), some (vI y2), some (vI x3), some (vI (nI i))] [] := by
      intro h1 fs1 hI1 hx1 h111
      refine r_iconst X dX5_readTape_125 (v := 0) rfl ?_
      exact fin h1 fs1 0 hI1 hx1 h111
    have semi : ∀ (h1 : PH) (fs1 : List PV), RTI lam h0 h1 → h1[lam 79]? = some (eO 5 fs1) → fs1[11]? = some (vI (nI i)) → PW p l e (rmD 30 3 488) s m args below meth c G 5 (MQ below (pQ G (RTQ lam h0)) args s 3 488 (pF G)) 0 0 h1 112 [some (vR (lam 79)), some (vI kd), some (vI y2), some (vI x3), some (vI (nI i))] [] := by
      intro h1 fs1 hI1 hx1 h111
      refine r_aload_n X dX5_readTape_112 rfl ?_
      refine r_bipush X dX5_readTape_113 (v := 59) rfl ?_
      obtain ⟨Φ0, hM, hP⟩ := kc_q205_ok l G lam hl hm0 [vR (lam 79), vI 59] h1 ⟨rfl, ⟨59, rfl, inb_top 59⟩, trivial⟩ hI1.1 trivial
      refine r_callV X kv_X5_69 dX5_readTape_115 (As := [vI 59]) (rest := []) rfl rfl hx1 rfl hM (chkC_ok (rt_room (by decide) (by decide) (Nat.zero_le 8))).1 (Nat.zero_le 8) ⟨Nat.zero_le 3, Nat.zero_le 488⟩ ?_
      intro r h2 hΦ
      obtain ⟨⟨z, rfl, -⟩, hF, hH⟩ := hP r h2 hΦ
      obtain ⟨hI2, fs2, hx2, hf2⟩ := rt_call hl hI1 hx1 hH hF (by decide) (by decide)
      refine r_if_eq X dX5_readTape_118 (tgt := 125) rfl (fun _ => bad h2 fs2 hI2 hx2 (hf2.trans h111)) (fun _ => ?_)
      refine r_iconst X dX5_readTape_121 (v := 1) rfl ?_
      refine r_goto X dX5_readTape_122 (tgt := 126) rfl ?_
      exact fin h2 fs2 1 hI2 hx2 (hf2.trans h111)
    refine r_aload_n X dX5_readTape_82 rfl ?_
    refine r_iload_n X dX5_readTape_83 rfl ?_
    obtain ⟨Φ0, hM, hP⟩ := kc_q209_ok l G lam hl hm0 [vR (lam 79), vI kd] h ⟨rfl, ⟨kd, rfl, inb_top kd⟩, trivial⟩ hI.1 trivial
    refine r_callV X kv_X5_58 dX5_readTape_84 (As := [vI kd]) (rest := []) rfl rfl hx rfl hM (chkC_ok (rt_room (by decide) (by decide) (Nat.zero_le 8))).1 (Nat.zero_le 8) ⟨Nat.zero_le 3, Nat.zero_le 488⟩ ?_
    intro r h2 hΦ
    obtain ⟨⟨z, rfl, -⟩, hF, hH⟩ := hP r h2 hΦ
    obtain ⟨hI2, fs2, hx2, hf2⟩ := rt_call hl hI hx hH hF (by decide) (by decide)
    have h112 := hf2.trans h11
    refine r_if_eq X dX5_readTape_87 (tgt := 125) rfl (fun _ => bad h2 fs2 hI2 hx2 h112) (fun _ => ?_)
    refine r_iload_n X dX5_readTape_90 rfl ?_
    refine r_if_ne X dX5_readTape_91 (tgt := 104) rfl (fun _ => ?_) (fun _ => ?_)
    · refine r_aload_n X dX5_readTape_104 rfl ?_
      refine r_iload_n X dX5_readTape_105 rfl ?_
      obtain ⟨Φ1, hM1, hP1⟩ := kc_q210_ok l G lam hl hm0 [vR (lam 79), vI kd] h2 ⟨rfl, ⟨kd, rfl, inb_top kd⟩, trivial⟩ hI2.1 trivial
      refine r_callV X kv_X5_66 dX5_readTape_106 (As := [vI kd]) (rest := []) rfl rfl hx2 rfl hM1 (chkC_ok (rt_room (by decide) (by decide) (Nat.zero_le 8))).1 (Nat.zero_le 8) ⟨Nat.zero_le 3, Nat.zero_le 488⟩ ?_
      intro r h3 hΦ3
      obtain ⟨⟨z, rfl, -⟩, hF3, hH3⟩ := hP1 r h3 hΦ3
      obtain ⟨hI3, fs3, hx3, hf3⟩ := rt_call hl hI2 hx2 hH3 hF3 (by decide) (by decide)
      refine r_if_eq X dX5_readTape_109 (tgt := 125) rfl (fun _ => bad h3 fs3 hI3 hx3 (hf3.trans h112)) (fun _ => semi h3 fs3 hI3 hx3 (hf3.trans h112))
    · refine r_aload_n X dX5_readTape_94 rfl ?_
      obtain ⟨Φ1, hM1, hP1⟩ := kc_q231_ok l G lam hl hm0 [vR (lam 79)] h2 ⟨rfl, trivial⟩ hI2.1 trivial
      refine r_callV X kv_X5_62 dX5_readTape_95 (As := []) (rest := []) rfl rfl hx2 rfl hM1 (chkC_ok (rt_room (by decide) (by decide) (Nat.zero_le 8))).1 (Nat.zero_le 8) ⟨Nat.zero_le 3, Nat.zero_le 488⟩ ?_
      intro r h3 hΦ3
      obtain ⟨⟨z, rfl, -⟩, hF3, hH3⟩ := hP1 r h3 hΦ3
      obtain ⟨hI3, fs3, hx3, hf3⟩ := rt_call hl hI2 hx2 hH3 hF3 (by decide) (by decide)
      refine r_if_eq X dX5_readTape_98 (tgt := 125) rfl (fun _ => bad h3 fs3 hI3 hx3 (hf3.trans h112)) (fun _ => ?_)
      refine r_goto X dX5_readTape_101 (tgt := 112) rfl ?_
      exact semi h3 fs3 hI3 hx3 (hf3.trans h112)
end Tape2
set_option maxRecDepth 100000 in
set_option maxHeartbeats 4000000 in
theorem readTape_ok (l : Launch) (G : PG) (lam : Nat → Nat) (hl : LAMC lam) {h : PH} {kd y2 : Int32} (hH : HOK lam [] TCl h) : PMet l G yX5_readTape cX5_readTape 5 (some (.object "ThumbBallot$Text")) 30 3 488 [vR (lam 79), vI kd, vI y2] h (RTQ lam h) := by
  have hm0 := wordOf_ok l G lam
  refine PMet.intro (by decide) (show 3 ≤ 5 by decide) ?_
  intro p e s m args below meth c X hr hlk hnm
  have hI0 : RTI lam h h := ⟨hH, FRM.refl h⟩
  obtain ⟨fs, hx, hr2⟩ := rt_cell hH
  obtain ⟨f1, g1, z1, rfl, b1⟩ := R2.get (j := 1) hr2 rfl
  have hln : fs.length = 14 := (R2.len hr2).symm
  have hlh : lam 79 < h.length := (List.getElem?_eq_some_iff.mp hx).1
  refine r_aload_n X dX5_readTape_0 rfl ?_
  refine r_aload_n X dX5_readTape_1 rfl ?_
  refine r_get X fg_X5_15 dX5_readTape_2 hx g1 ?_
  refine r_put X fp_X5_19 dX5_readTape_5 hx (by omega) rfl rfl ?_
  have hI1 := rt_put (j := 2) (v := vI z1) hl hI0 hx rfl ⟨z1, rfl, b1⟩ (by decide)
  have put : ∀ {h1 : PH} {fs1 : List PV} (j : Nat) (v : PV) (av : AV), (RTI lam h h1 ∧ h1[lam 79]? = some (eO 5 fs1) ∧ fs1.length = 14) → nth c79 j = some av → vRel lam [] av v → (79, j) ∈ rtE → (RTI lam h (h1.set (lam 79) (eO 5 (fs1.set j v))) ∧ (h1.set (lam 79) (eO 5 (fs1.set j v)))[lam 79]? = some (eO 5 (fs1.set j v)) ∧ (fs1.set j v).length = 14) := by
    intro h1 fs1 j v av ⟨a1, a2, a3⟩ b1 b2 b3
    exact ⟨rt_put hl a1 a2 b1 b2 b3, List.getElem?_set_self (List.getElem?_eq_some_iff.mp a2).1, by rw [List.length_set]; exact a3⟩
  have t0 : RTI lam h h ∧ h[lam 79]? = some (eO 5 fs) ∧ fs.length = 14 := ⟨hI0, hx, hln⟩
  have t1 := put 2 (vI z1) _ t0 rfl ⟨z1, rfl, b1⟩ (by decide)
  refine r_aload_n X dX5_readTape_8 rfl ?_
  refine r_iconst X dX5_readTape_9 (v := 0) rfl ?_
  refine r_put X fp_X5_15 dX5_readTape_10 t1.2.1 (by have := t1.2.2; omega) rfl rfl ?_
  have t2 := put 1 (vI 0) _ t1 rfl ⟨0, rfl, by decide, by decide⟩ (by decide)
  refine r_aload_n X dX5_readTape_13 rfl ?_
  refine r_iconst X dX5_readTape_14 (v := 0) rfl ?_
  refine r_put X fp_X5_25 dX5_readTape_15 t2.2.1 (by have := t2.2.2; omega) rfl rfl ?_
  have t3 := put 4 (vI 0) _ t2 rfl ⟨0, rfl, by decide, by decide⟩ (by decide)
  refine r_aload_n X dX5_readTape_18 rfl ?_
  refine r_iconst X dX5_readTape_19 (v := 0) rfl ?_
  refine r_put X fp_X5_46 dX5_readTape_20 t3.2.1 (by have := t3.2.2; omega) rfl rfl ?_
  have t4 := put 11 (vI 0) _ t3 rfl ⟨0, rfl, by decide, by decide⟩ (by decide)
  refine r_aload_n X dX5_readTape_23 rfl ?_
  refine r_iconst X dX5_readTape_24 (v := 0) rfl ?_
  refine r_put X fp_X5_52 dX5_readTape_25 t4.2.1 (by have := t4.2.2; omega) rfl rfl ?_
  have t5 := put 13 (vI 0) _ t4 rfl ⟨0, rfl, by decide, by decide⟩ (by decide)
  refine r_aload_n X dX5_readTape_28 rfl ?_
  refine r_iload_n X dX5_readTape_29 rfl ?_
  refine r_put X fp_X5_40 dX5_readTape_30 t5.2.1 (by have := t5.2.2; omega) rfl rfl ?_
  have t6 := put 9 (vI y2) _ t5 rfl ⟨y2, rfl, inb_top y2⟩ (by decide)
  refine r_aload_n X dX5_readTape_33 rfl ?_
  refine r_iconst X dX5_readTape_34 (v := 0) rfl ?_
  refine r_put X fp_X5_34 dX5_readTape_35 t6.2.1 (by have := t6.2.2; omega) rfl rfl ?_
  have t7 := put 7 (vI 0) _ t6 rfl ⟨0, rfl, inb_top 0⟩ (by decide)
  refine r_aload_n X dX5_readTape_38 rfl ?_
  refine r_iconst X dX5_readTape_39 (v := -1) rfl ?_
  refine r_put X fp_X5_37 dX5_readTape_40 t7.2.1 (by have := t7.2.2; omega) rfl rfl ?_
  have t8 := put 8 (vI (-1)) _ t7 rfl ⟨-1, rfl, inb_top (-1)⟩ (by decide)
  have n11 : ((((((((fs.set 2 (vI z1)).set 1 (vI 0)).set 4 (vI 0)).set 11 (vI 0)).set 13 (vI 0)).set 9 (vI y2)).set 7 (vI 0)).set 8 (vI (-1)))[11]? = some (vI (nI 0)) := by
    rw [List.getElem?_set_ne (by decide), List.getElem?_set_ne (by decide), List.getElem?_set_ne (by decide), List.getElem?_set_ne (by decide), List.getElem?_set_self (by simp [hln])]
    rfl
  have nul : ∀ {h1 : PH}, RTI lam h h1 → PW p l e (rmD 30 3 488) s m args below meth c G 5 (MQ below (pQ G (RTQ lam h)) args s 3 488 (pF G)) 0 0 h1 52 [some (vR (lam 79)), some (vI kd), some (vI y2), none, none] [] := by
    intro h1 hI
    refine r_null X dX5_readTape_52 ?_
    exact r_ret_a X hr (Or.inl ⟨_, rfl⟩) hlk (v := none) dX5_readTape_53 (Nat.zero_le _) (Nat.zero_le _) (Or.inl ⟨rfl, hI⟩)
  refine r_iload_n X dX5_readTape_43 rfl ?_
  refine r_if_lt X dX5_readTape_44 (tgt := 52) rfl (fun _ => nul t8.1) (fun _ => ?_)
  refine r_iload_n X dX5_readTape_47 rfl ?_
  refine r_iconst X dX5_readTape_48 (v := 4) rfl ?_
  refine r_icmp_lt X dX5_readTape_49 (tgt := 54) rfl (fun _ => ?_) (fun _ => nul t8.1)
  refine r_aload_n X dX5_readTape_54 rfl ?_
  obtain ⟨Φ0, hM, hP⟩ := kc_q204_ok l G lam hl hm0 [vR (lam 79)] _ ⟨rfl, trivial⟩ t8.1.1 trivial
  refine r_callV X kv_X5_55 dX5_readTape_55 (As := []) (rest := []) rfl rfl t8.2.1 rfl hM (chkC_ok (rt_room (by decide) (by decide) (Nat.zero_le 8))).1 (Nat.zero_le 8) ⟨Nat.zero_le 3, Nat.zero_le 488⟩ ?_
  intro r h2 hΦ
  obtain ⟨rfl, hF, hH2⟩ := hP r h2 hΦ
  obtain ⟨hI2, fs2, hx2, hf2⟩ := rt_call hl t8.1 t8.2.1 hH2 hF (by decide) (by decide)
  refine r_iconst X dX5_readTape_58 (v := 1) rfl ?_
  refine r_istore_n X dX5_readTape_59 (by decide) ?_
  refine r_iconst X dX5_readTape_60 (v := 0) rfl ?_
  refine r_istore X dX5_readTape_61 (by decide) ?_
  exact rt_loop X hr hlk hl hm0 17 0 rfl h2 fs2 1 hI2 hx2 (hf2.trans n11)
