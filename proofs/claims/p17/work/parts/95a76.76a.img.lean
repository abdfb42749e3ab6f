/-! the class's image: canton, pages and the row of texts, exactly -/
theorem R2.un2 {α β : Type} {r : α → β → Prop} {a1 a2 : α} {t : List α} {l : List β} (h : R2 r (a1 :: a2 :: t) l) : ∃ b1 b2 u, l = b1 :: b2 :: u ∧ r a1 b1 ∧ r a2 b2 ∧ R2 r t u := by
  obtain ⟨b1, u1, rfl, h1, g1⟩ := R2.uncons h
  obtain ⟨b2, u2, rfl, h2, g2⟩ := R2.uncons g1
  exact ⟨b1, b2, u2, rfl, h1, h2, g2⟩
theorem l8_of {α : Type} {l : List α} (h : l.length = 8) : ∃ a b c d e f g i, l = [a, b, c, d, e, f, g, i] := by
  match l, h with
  | [a, b, c, d, e, f, g, i], _ => exact ⟨a, b, c, d, e, f, g, i, rfl⟩
theorem t_over (l : Launch) (G : PG) {h : PH} {a da ma b db mb : Nat} {f1 f2 g1 g2 : FA} {us : List PV} {y : Nat → Int32} (hu : us.length = 8) (ha : h[a]? = some (eO 0 (vR da :: vR ma :: us))) (hb : h[b]? = some (cnE db mb y)) (hda : h[da]? = some (eI 120 f1)) (hma : h[ma]? = some (eI 144 f2)) (hdb : h[db]? = some (eI 120 g1)) (hmb : h[mb]? = some (eI 144 g2)) (n1 : a ≠ b) (n2 : da ≠ a) (n3 : da ≠ b) (n4 : ma ≠ a) (n5 : ma ≠ b) (n6 : da ≠ ma) (n7 : da ≠ mb) : PMet l G yX0_takeOver cX0_takeOver 2 none 1 0 0 [vR a, vR b] h (qV (fun h' => h' = ((h.set da (eI 120 (cpW g1 f1 120))).set ma (eI 144 (cpW g2 f2 144))).set a (cnE da ma y))) := by
  obtain ⟨u2, u3, u4, u5, u6, u7, u8, u9, rfl⟩ := l8_of hu
  refine PMet.intro (by decide) (show 2 ≤ 2 by decide) ?_
  intro p e s m args below meth c X hr hlk hnm
  have sn : ∀ {h : PH} {i j : Nat} {x : PE}, i ≠ j → (h.set i x)[j]? = h[j]? := fun q => List.getElem?_set_ne q
  have la : a < h.length := (List.getElem?_eq_some_iff.mp ha).1
  have lm : ma < h.length := (List.getElem?_eq_some_iff.mp hma).1
  refine r_aload_n X dX0_takeOver_0 rfl ?_
  refine r_get X fg_X0_9 dX0_takeOver_1 hb rfl ?_
  refine r_iconst (v := 0) X dX0_takeOver_4 (by decide) ?_
  refine r_aload_n X dX0_takeOver_5 rfl ?_
  refine r_get X fg_X0_9 dX0_takeOver_6 ha rfl ?_
  refine r_iconst (v := 0) X dX0_takeOver_9 (by decide) ?_
  refine r_bipush (v := 120) X dX0_takeOver_10 rfl ?_
  refine r_copy X lc_X0_43 w_acn w_acs w_aci dX0_takeOver_12 hdb hda (by decide) (by decide) (by decide) (by decide) (by decide) rfl rfl ?_
  have e1 : (va_cpy g1 f1 (0 : Int32).toNatClampNeg (0 : Int32).toNatClampNeg (120 : Int32).toNatClampNeg : FA) = cpW g1 f1 120 := cpW_e (a := 0) (b := 0) (n := 120) rfl rfl rfl
  rw [e1]
  refine r_aload_n X dX0_takeOver_15 rfl ?_
  refine r_get X fg_X0_15 dX0_takeOver_16 ((sn n3).trans hb) rfl ?_
  refine r_iconst (v := 0) X dX0_takeOver_19 (by decide) ?_
  refine r_aload_n X dX0_takeOver_20 rfl ?_
  refine r_get X fg_X0_15 dX0_takeOver_21 ((sn n2).trans ha) rfl ?_
  refine r_iconst (v := 0) X dX0_takeOver_24 (by decide) ?_
  refine r_sipush (v := 144) X dX0_takeOver_25 rfl ?_
  refine r_copy X lc_X0_43 w_acn w_acs w_aci dX0_takeOver_28 ((sn n7).trans hmb) ((sn n6).trans hma) (by decide) (by decide) (by decide) (by decide) (by decide) rfl rfl ?_
  have e2 : (va_cpy g2 f2 (0 : Int32).toNatClampNeg (0 : Int32).toNatClampNeg (144 : Int32).toNatClampNeg : FA) = cpW g2 f2 144 := cpW_e (a := 0) (b := 0) (n := 144) rfl rfl rfl
  rw [e2]
  generalize hH : (h.set da (eI 120 (cpW g1 f1 120))).set ma (eI 144 (cpW g2 f2 144)) = H
  have aH : H[a]? = some (eO 0 [vR da, vR ma, u2, u3, u4, u5, u6, u7, u8, u9]) := by rw [← hH]; exact (sn n4).trans ((sn n2).trans ha)
  have bH : H[b]? = some (cnE db mb y) := by rw [← hH]; exact (sn n5).trans ((sn n3).trans hb)
  have lH : a < H.length := (List.getElem?_eq_some_iff.mp aH).1
  clear hH e1 e2
  refine r_aload_n X dX0_takeOver_31 rfl ?_
  refine r_aload_n X dX0_takeOver_32 rfl ?_
  refine r_get X fg_X0_18 dX0_takeOver_33 bH rfl ?_
  refine r_put X fp_X0_18 dX0_takeOver_36 aH (by show 2 < 10; decide) rfl rfl ?_
  refine r_aload_n X dX0_takeOver_39 rfl ?_
  refine r_aload_n X dX0_takeOver_40 rfl ?_
  refine r_get X fg_X0_22 dX0_takeOver_41 ((sn n1).trans bH) rfl ?_
  refine r_put X fp_X0_22 dX0_takeOver_44 (List.getElem?_set_self lH) (by show 3 < 10; decide) rfl rfl ?_
  rw [List.set_set]
  refine r_aload_n X dX0_takeOver_47 rfl ?_
  refine r_aload_n X dX0_takeOver_48 rfl ?_
  refine r_get X fg_X0_25 dX0_takeOver_49 ((sn n1).trans bH) rfl ?_
  refine r_put X fp_X0_25 dX0_takeOver_52 (List.getElem?_set_self lH) (by show 4 < 10; decide) rfl rfl ?_
  rw [List.set_set]
  refine r_aload_n X dX0_takeOver_55 rfl ?_
  refine r_aload_n X dX0_takeOver_56 rfl ?_
  refine r_get X fg_X0_28 dX0_takeOver_57 ((sn n1).trans bH) rfl ?_
  refine r_put X fp_X0_28 dX0_takeOver_60 (List.getElem?_set_self lH) (by show 5 < 10; decide) rfl rfl ?_
  rw [List.set_set]
  refine r_aload_n X dX0_takeOver_63 rfl ?_
  refine r_aload_n X dX0_takeOver_64 rfl ?_
  refine r_get X fg_X0_31 dX0_takeOver_65 ((sn n1).trans bH) rfl ?_
  refine r_put X fp_X0_31 dX0_takeOver_68 (List.getElem?_set_self lH) (by show 6 < 10; decide) rfl rfl ?_
  rw [List.set_set]
  refine r_aload_n X dX0_takeOver_71 rfl ?_
  refine r_aload_n X dX0_takeOver_72 rfl ?_
  refine r_get X fg_X0_34 dX0_takeOver_73 ((sn n1).trans bH) rfl ?_
  refine r_put X fp_X0_34 dX0_takeOver_76 (List.getElem?_set_self lH) (by show 7 < 10; decide) rfl rfl ?_
  rw [List.set_set]
  refine r_aload_n X dX0_takeOver_79 rfl ?_
  refine r_aload_n X dX0_takeOver_80 rfl ?_
  refine r_get X fg_X0_37 dX0_takeOver_81 ((sn n1).trans bH) rfl ?_
  refine r_put X fp_X0_37 dX0_takeOver_84 (List.getElem?_set_self lH) (by show 8 < 10; decide) rfl rfl ?_
  rw [List.set_set]
  refine r_aload_n X dX0_takeOver_87 rfl ?_
  refine r_aload_n X dX0_takeOver_88 rfl ?_
  refine r_get X fg_X0_40 dX0_takeOver_89 ((sn n1).trans bH) rfl ?_
  refine r_put X fp_X0_40 dX0_takeOver_92 (List.getElem?_set_self lH) (by show 9 < 10; decide) rfl rfl ?_
  rw [List.set_set]
  exact r_ret_v X hr hlk dX0_takeOver_95 (Nat.le_refl _) (Nat.le_refl _) ⟨rfl, rfl⟩
theorem t_pages (l : Launch) (G : PG) {h : PH} {a da b db : Nat} {f g : FA} (ha : h[a]? = some (eO 3 [vR da])) (hb : h[b]? = some (eO 3 [vR db])) (hda : h[da]? = some (eI 750 f)) (hdb : h[db]? = some (eI 750 g)) : PMet l G yX3_takePages cX3_takePages 2 none 1 0 0 [vR a, vR b] h (qV (fun h' => h' = h.set da (eI 750 (cpW g f 750)))) := by
  refine PMet.intro (by decide) (show 2 ≤ 2 by decide) ?_
  intro p e s m args below meth c X hr hlk hnm
  refine r_aload_n X dX3_takePages_0 rfl ?_
  refine r_get X fg_X3_9 dX3_takePages_1 hb rfl ?_
  refine r_iconst (v := 0) X dX3_takePages_4 (by decide) ?_
  refine r_aload_n X dX3_takePages_5 rfl ?_
  refine r_get X fg_X3_9 dX3_takePages_6 ha rfl ?_
  refine r_iconst (v := 0) X dX3_takePages_9 (by decide) ?_
  refine r_sipush (v := 750) X dX3_takePages_10 rfl ?_
  refine r_copy X lc_X3_24 w_acn w_acs w_aci dX3_takePages_13 hdb hda (by decide) (by decide) (by decide) (by decide) (by decide) rfl rfl ?_
  have e1 : (va_cpy g f (0 : Int32).toNatClampNeg (0 : Int32).toNatClampNeg (750 : Int32).toNatClampNeg : FA) = cpW g f 750 := cpW_e (a := 0) (b := 0) (n := 750) rfl rfl rfl
  rw [e1]
  exact r_ret_v X hr hlk dX3_takePages_16 (Nat.le_refl _) (Nat.le_refl _) ⟨rfl, rfl⟩
/-- what takeAll leaves: canton at c, pages' row at n, texts' row at t, lists from D on -/
def TKA (lam : Nat → Nat) (c n t D : Nat) (y : Nat → Int32) (g1 g2 gN : FA) (w wo : Nat → Option Nat) (h h' : PH) : Prop := (∀ a, a ≠ lam c → a ≠ lam (c + 1) → a ≠ lam (c + 2) → a ≠ lam n → a ≠ lam t → (∀ i, i < 9 → a ≠ lam (D + 2 * i) ∧ a ≠ lam (D + 1 + 2 * i)) → h'[a]? = h[a]?) ∧ h'[lam c]? = some (cnE (lam (c + 1)) (lam (c + 2)) y) ∧ (∃ k, h'[lam (c + 1)]? = some (eI 120 k) ∧ ∀ j, j < 120 → k j = g1 j) ∧ (∃ k, h'[lam (c + 2)]? = some (eI 144 k) ∧ ∀ j, j < 144 → k j = g2 j) ∧ (∃ k, h'[lam n]? = some (eI 750 k) ∧ ∀ j, j < 750 → k j = gN j) ∧ h'[lam t]? = some (eR 2 4 (fun j => if j < 4 then w j else wo j)) ∧ ∀ i, i < 9 → ∃ m f, m ≤ rmT i ∧ h'[lam (D + 2 * i)]? = some (eO 9 [vR (lam (D + 1 + 2 * i)), vI (nI m)]) ∧ h'[lam (D + 1 + 2 * i)]? = some (eI (rmT i) f)
set_option maxRecDepth 100000 in
set_option maxHeartbeats 4000000 in
theorem takeAll_X1 (l : Launch) (G : PG) {lam : Nat → Nat} (hl : LAMC lam) {h : PH} (hH : HOK lam [] TCl h) {y : Nat → Int32} {g1 g2 gN : FA} {w wo : Nat → Option Nat} (s0 : h[lam 2]? = some (cnE (lam 3) (lam 4) y)) (s1 : h[lam 3]? = some (eI 120 g1)) (s2 : h[lam 4]? = some (eI 144 g2)) (sN : h[lam 6]? = some (eI 750 gN)) (sT : h[lam 7]? = some (eR 2 4 w)) (dT : h[lam 36]? = some (eR 2 4 wo)) : PMet l G yX10_takeAll cX10_takeAll 3 none 3 0 0 [vR (lam 30), vR (lam 1)] h (qV (TKA lam 31 35 36 41 y g1 g2 gN w wo h)) := by
  refine PMet.intro (by decide) (show 2 ≤ 3 by decide) ?_
  intro p e s m args below meth c X hr hlk hnm
  obtain ⟨xA, hxA, fA, rfl, rA⟩ := hH 30 _ rfl
  obtain ⟨xB, hxB, fB, rfl, rB⟩ := hH 1 _ rfl
  obtain ⟨a0, gA0, qa0⟩ := R2.get (j := 0) rA rfl
  obtain ⟨a1, gA1, qa1⟩ := R2.get (j := 1) rA rfl
  obtain ⟨a2, gA2, qa2⟩ := R2.get (j := 2) rA rfl
  obtain ⟨a3, gA3, qa3⟩ := R2.get (j := 3) rA rfl
  obtain ⟨b0, gB0, qb0⟩ := R2.get (j := 0) rB rfl
  obtain ⟨b1, gB1, qb1⟩ := R2.get (j := 1) rB rfl
  obtain ⟨b2, gB2, qb2⟩ := R2.get (j := 2) rB rfl
  obtain ⟨b3, gB3, qb3⟩ := R2.get (j := 3) rB rfl
  have qa0 : a0 = vR (lam 31) := qa0
  have qa1 : a1 = vR (lam 34) := qa1
  have qa2 : a2 = vR (lam 36) := qa2
  have qa3 : a3 = vR (lam 37) := qa3
  have qb0 : b0 = vR (lam 2) := qb0
  have qb1 : b1 = vR (lam 5) := qb1
  have qb2 : b2 = vR (lam 7) := qb2
  have qb3 : b3 = vR (lam 8) := qb3
  subst qa0 qa1 qa2 qa3 qb0 qb1 qb2 qb3
  obtain ⟨xC, hxC, fC, rfl, rC⟩ := hH 31 _ rfl
  obtain ⟨c0, c1, us, rfl, qc0, qc1, rC2⟩ := R2.un2 rC
  have qc0 : c0 = vR (lam 32) := qc0
  have qc1 : c1 = vR (lam 33) := qc1
  subst qc0 qc1
  have hus : us.length = 8 := (R2.len rC2).symm
  obtain ⟨fT, hfT⟩ := arr_at (k := 32) (c := 120) (by decide) hH rfl
  obtain ⟨fM, hfM⟩ := arr_at (k := 33) (c := 144) (by decide) hH rfl
  obtain ⟨fN, hfN⟩ := arr_at (k := 35) (c := 750) (by decide) hH rfl
  obtain ⟨xP, hxP, fP, rfl, rP⟩ := hH 34 _ rfl
  obtain ⟨p0, vP, rfl, qp, rP2⟩ := R2.uncons rP
  have qp : p0 = vR (lam 35) := qp
  subst qp
  obtain rfl : vP = [] := by cases vP with
    | nil => rfl
    | cons _ _ => cases rP2
  obtain ⟨xQ, hxQ, fQ, rfl, rQ⟩ := hH 5 _ rfl
  obtain ⟨q0, vQ, rfl, qq, rQ2⟩ := R2.uncons rQ
  have qq : q0 = vR (lam 6) := qq
  subst qq
  obtain rfl : vQ = [] := by cases vQ with
    | nil => rfl
    | cons _ _ => cases rQ2
  have ww : ∀ k, k ∈ [31, 32, 33, 35, 36] → wrC k = true := by decide
  have nw : ∀ k, k ∈ [31, 32, 33, 35, 36] → ∀ k', k' ≠ k → lam k ≠ lam k' := fun k hk k' hn q => hn (hl k (ww k hk) k' q).symm
  refine r_aload_n X dX10_takeAll_0 rfl ?_
  refine r_get X fg_X10_12 dX10_takeAll_1 hxA gA0 ?_
  refine r_aload_n X dX10_takeAll_4 rfl ?_
  refine r_get X fg_X10_12 dX10_takeAll_5 hxB gB0 ?_
  refine r_callV X kv_X10_47 dX10_takeAll_8 (As := [vR (lam 2)]) (rest := []) rfl rfl hxC rfl (t_over l G hus hxC s0 hfT hfM s1 s2 (nw 31 (by decide) 2 (by decide)) (nw 32 (by decide) 31 (by decide)) (nw 32 (by decide) 2 (by decide)) (nw 33 (by decide) 31 (by decide)) (nw 33 (by decide) 2 (by decide)) (nw 32 (by decide) 33 (by decide)) (nw 32 (by decide) 4 (by decide))) ⟨by decide, by decide⟩ (Nat.zero_le 8) ⟨Nat.le_refl 0, Nat.le_refl 0⟩ (fun r h1 hq => ?_)
  obtain ⟨rfl, e1⟩ := hq
  have o1 : ∀ a, a ≠ lam 31 → a ≠ lam 32 → a ≠ lam 33 → h1[a]? = h[a]? := fun a q0 q1 q2 => by rw [e1, List.getElem?_set_ne q0.symm, List.getElem?_set_ne q2.symm, List.getElem?_set_ne q1.symm]
  have k1 : ∀ k, k ≠ 31 → k ≠ 32 → k ≠ 33 → h1[lam k]? = h[lam k]? := fun k q0 q1 q2 => o1 _ (nw 31 (by decide) k q0).symm (nw 32 (by decide) k q1).symm (nw 33 (by decide) k q2).symm
  have lC : lam 31 < h.length := (List.getElem?_eq_some_iff.mp hxC).1
  have lT : lam 32 < h.length := (List.getElem?_eq_some_iff.mp hfT).1
  have lM : lam 33 < h.length := (List.getElem?_eq_some_iff.mp hfM).1
  have c0 : h1[lam 31]? = some (cnE (lam 32) (lam 33) y) := by rw [e1]; exact List.getElem?_set_self (by rw [List.length_set, List.length_set]; exact lC)
  have c1 : h1[lam 32]? = some (eI 120 (cpW g1 fT 120)) := by
    rw [e1, List.getElem?_set_ne (nw 31 (by decide) 32 (by decide)), List.getElem?_set_ne (nw 33 (by decide) 32 (by decide))]
    exact List.getElem?_set_self lT
  have c2 : h1[lam 33]? = some (eI 144 (cpW g2 fM 144)) := by
    rw [e1, List.getElem?_set_ne (nw 31 (by decide) 33 (by decide))]
    exact List.getElem?_set_self (by rw [List.length_set]; exact lM)
  clear e1
  refine r_aload_n X dX10_takeAll_11 rfl ?_
  refine r_get X fg_X10_21 dX10_takeAll_12 ((k1 30 (by decide) (by decide) (by decide)).trans hxA) gA1 ?_
  refine r_aload_n X dX10_takeAll_15 rfl ?_
  refine r_get X fg_X10_21 dX10_takeAll_16 ((k1 1 (by decide) (by decide) (by decide)).trans hxB) gB1 ?_
  have hxP1 := (k1 34 (by decide) (by decide) (by decide)).trans hxP
  refine r_callV X kv_X10_51 dX10_takeAll_19 (As := [vR (lam 5)]) (rest := []) rfl rfl hxP1 rfl (t_pages l G hxP1 ((k1 5 (by decide) (by decide) (by decide)).trans hxQ) ((k1 35 (by decide) (by decide) (by decide)).trans hfN) ((k1 6 (by decide) (by decide) (by decide)).trans sN)) ⟨by decide, by decide⟩ (Nat.zero_le 8) ⟨Nat.le_refl 0, Nat.le_refl 0⟩ (fun r h2 hq => ?_)
  obtain ⟨rfl, e2⟩ := hq
  have o2 : ∀ a, a ≠ lam 35 → h2[a]? = h1[a]? := fun a q => by rw [e2, List.getElem?_set_ne q.symm]
  have k2 : ∀ k, k ≠ 35 → h2[lam k]? = h1[lam k]? := fun k q => o2 _ (nw 35 (by decide) k q).symm
  have cN : h2[lam 35]? = some (eI 750 (cpW gN fN 750)) := by rw [e2]; exact List.getElem?_set_self (List.getElem?_eq_some_iff.mp ((k1 35 (by decide) (by decide) (by decide)).trans hfN)).1
  clear e2
  have kk : ∀ k, k ≠ 31 → k ≠ 32 → k ≠ 33 → k ≠ 35 → h2[lam k]? = h[lam k]? := fun k q0 q1 q2 q3 => (k2 k q3).trans (k1 k q0 q1 q2)
  have hT36 : h2[lam 36]? = some (eR 2 4 wo) := (kk 36 (by decide) (by decide) (by decide) (by decide)).trans dT
  have hT7 : h2[lam 7]? = some (eR 2 4 w) := (kk 7 (by decide) (by decide) (by decide) (by decide)).trans sT
  obtain ⟨xS, hS7, wS, rfl, sS⟩ := hH 7 _ rfl
  have eW : wS = w := by
    have q := Option.some.inj (hS7.symm.trans sT)
    injection q with q
    injection q with q
    exact (Prod.mk.inj (Prod.mk.inj q).2).2
  subst eW
  have eT : ∀ i, i < 4 → wS i = some (lam (103 + 3 * i)) := by
    intro i hi
    match i, hi with
    | 0, _ => exact sS 0 _ rfl
    | 1, _ => exact sS 1 _ rfl
    | 2, _ => exact sS 2 _ rfl
    | 3, _ => exact sS 3 _ rfl
    | n + 4, hi => exact absurd hi (by omega)
  have tx : ∀ i, i < 4 → ∃ vs, h2[lam (103 + 3 * i)]? = some (eO 8 vs) := by
    intro i hi
    rw [kk (103 + 3 * i) (by omega) (by omega) (by omega) (by omega)]
    match i, hi with
    | 0, _ =>
      obtain ⟨y, hy, vs, rfl, -⟩ := hH 103 _ rfl
      exact ⟨vs, hy⟩
    | 1, _ =>
      obtain ⟨y, hy, vs, rfl, -⟩ := hH (103 + 3) _ rfl
      exact ⟨vs, hy⟩
    | 2, _ =>
      obtain ⟨y, hy, vs, rfl, -⟩ := hH (103 + 6) _ rfl
      exact ⟨vs, hy⟩
    | 3, _ =>
      obtain ⟨y, hy, vs, rfl, -⟩ := hH (103 + 9) _ rfl
      exact ⟨vs, hy⟩
    | n + 4, hi => exact absurd hi (by omega)
  have l36 : lam 36 < h2.length := (List.getElem?_eq_some_iff.mp hT36).1
  have up : ∀ {k : Nat} {x : PE} (v : Nat → Option Nat), k ≠ 36 → h2[lam k]? = some x → (h2.set (lam 36) (eR 2 4 v))[lam k]? = some x := fun v hk hx => by rw [List.getElem?_set_ne (nw 36 (by decide) _ hk)]; exact hx
  have hxA2 := (kk 30 (by decide) (by decide) (by decide) (by decide)).trans hxA
  have hxB2 := (kk 1 (by decide) (by decide) (by decide) (by decide)).trans hxB
  obtain ⟨xD, hLD, uD, rfl, sD⟩ := hH 37 _ rfl
  obtain ⟨xE, hLS, uS, rfl, sE⟩ := hH 8 _ rfl
  have hLD := (kk 37 (by decide) (by decide) (by decide) (by decide)).trans hLD
  have hLS := (kk 8 (by decide) (by decide) (by decide) (by decide)).trans hLS
  have eD : ∀ i, i < 9 → uD i = some (lam (41 + 2 * i)) := by
    intro i hi
    match i, hi with
    | 0, _ => exact sD 0 _ rfl
    | 1, _ => exact sD 1 _ rfl
    | 2, _ => exact sD 2 _ rfl
    | 3, _ => exact sD 3 _ rfl
    | 4, _ => exact sD 4 _ rfl
    | 5, _ => exact sD 5 _ rfl
    | 6, _ => exact sD 6 _ rfl
    | 7, _ => exact sD 7 _ rfl
    | 8, _ => exact sD 8 _ rfl
    | n + 9, hi => exact absurd hi (by omega)
  have eS : ∀ i, i < 9 → uS i = some (lam (12 + 2 * i)) := by
    intro i hi
    match i, hi with
    | 0, _ => exact sE 0 _ rfl
    | 1, _ => exact sE 1 _ rfl
    | 2, _ => exact sE 2 _ rfl
    | 3, _ => exact sE 3 _ rfl
    | 4, _ => exact sE 4 _ rfl
    | 5, _ => exact sE 5 _ rfl
    | 6, _ => exact sE 6 _ rfl
    | 7, _ => exact sE 7 _ rfl
    | 8, _ => exact sE 8 _ rfl
    | n + 9, hi => exact absurd hi (by omega)
  have after : PW p l e (rmD 3 0 0) s m args below meth c G 3 (MQ below (pQ G (qV (TKA lam 31 35 36 41 y g1 g2 gN wS wo h))) args s 0 0 (pF G)) 0 0 (h2.set (lam 36) (eR 2 4 (fun j => if j < 4 then wS j else wo j))) 47 [some (vR (lam 30)), some (vR (lam 1)), some (vI (nI 4))] [] := by
    refine r_iconst (v := nI 0) X dX10_takeAll_47 rfl ?_
    refine r_istore_n X dX10_takeAll_48 (by decide) ?_
    have rS : ∀ i, i < 9 → RLt (rmT i) (lam (12 + 2 * i)) (lam (13 + 2 * i)) (h2.set (lam 36) (eR 2 4 (fun j => if j < 4 then wS j else wo j))) := fun i hi => by
      obtain ⟨n, f, z1, z2, z3⟩ := RL_now hH i hi
      exact ⟨n, f, z1, up _ (by omega) ((kk _ (by omega) (by omega) (by omega) (by omega)).trans z2), up _ (by omega) ((kk _ (by omega) (by omega) (by omega) (by omega)).trans z3)⟩
    refine tk_l1 l G hl X hr hlk (up _ (by decide) hxA2) gA3 (up _ (by decide) hxB2) gB3 (up _ (by decide) hLD) (up _ (by decide) hLS) eD eS rS (fun hh hs hq => ?_) 9 0 rfl _ (fun a _ => rfl) (fun i hi _ => ?_) (fun i hi => absurd hi (Nat.not_lt_zero i))
    · have nL : ∀ k, k ∈ [31, 32, 33, 35, 36] → ∀ i, i < 9 → lam k ≠ lam (41 + 2 * i) ∧ lam k ≠ lam (42 + 2 * i) := fun k hk i hi => by
        have b : ∀ k, k ∈ [31, 32, 33, 35, 36] → ∀ i, i < 9 → 41 + 2 * i ≠ k ∧ 42 + 2 * i ≠ k := by decide
        exact ⟨nw k hk _ (b k hk i hi).1, nw k hk _ (b k hk i hi).2⟩
      have t3 : ∀ k, k ∈ [31, 32, 33, 35] → hh[lam k]? = h2[lam k]? := fun k hk => by
        have hk5 : k ∈ [31, 32, 33, 35, 36] := (show ∀ k, k ∈ [31, 32, 33, 35] → k ∈ [31, 32, 33, 35, 36] by decide) k hk
        have hk6 : k ≠ 36 := (show ∀ k, k ∈ [31, 32, 33, 35] → k ≠ 36 by decide) k hk
        rw [hs _ (nL k hk5), List.getElem?_set_ne (nw 36 (by decide) k hk6)]
      refine ⟨fun a q0 q1 q2 q3 q4 q5 => ?_, ?_, ⟨cpW g1 fT 120, ?_, fun j hj => if_pos hj⟩, ⟨cpW g2 fM 144, ?_, fun j hj => if_pos hj⟩, ⟨cpW gN fN 750, ?_, fun j hj => if_pos hj⟩, ?_, fun i hi => ?_⟩
      · rw [hs a q5, List.getElem?_set_ne q4.symm, o2 a q3, o1 a q0 q1 q2]
      · exact (t3 31 (by decide)).trans ((k2 31 (by decide)).trans c0)
      · exact (t3 32 (by decide)).trans ((k2 32 (by decide)).trans c1)
      · exact (t3 33 (by decide)).trans ((k2 33 (by decide)).trans c2)
      · exact (t3 35 (by decide)).trans cN
      · rw [hs _ (nL 36 (by decide))]
        exact List.getElem?_set_self l36
      · obtain ⟨n, g, f, z1, z2, z3, z4, z5, z6⟩ := hq i hi
        exact ⟨n, f, z1, z4, z5⟩
    · obtain ⟨n, f, z1, z2, z3⟩ := RL_img hH i hi
      exact ⟨n, f, z1, up _ (by omega) ((kk _ (by omega) (by omega) (by omega) (by omega)).trans z2), up _ (by omega) ((kk _ (by omega) (by omega) (by omega) (by omega)).trans z3)⟩
  have loop : ∀ r t : Nat, t + r = 4 → PW p l e (rmD 3 0 0) s m args below meth c G 3 (MQ below (pQ G (qV (TKA lam 31 35 36 41 y g1 g2 gN wS wo h))) args s 0 0 (pF G)) 0 0 (h2.set (lam 36) (eR 2 4 (fun j => if j < t then wS j else wo j))) 24 [some (vR (lam 30)), some (vR (lam 1)), some (vI (nI t))] [] := by
    intro r
    induction r with
    | zero =>
      intro t ht
      obtain rfl : t = 4 := by omega
      refine r_iload_n X dX10_takeAll_24 rfl ?_
      refine r_iconst (v := nI 4) X dX10_takeAll_25 rfl ?_
      refine r_icmp_ge_t (tgt := 47) X dX10_takeAll_26 rfl (Int32.le_refl _) ?_
      exact after
    | succ r ih =>
      intro t ht
      have t4 : t < 4 := by omega
      have hin : vp_in (nI t) 4 := vp_in_nI (by omega) (by omega)
      have cl : (nI t).toNatClampNeg = t := clamp_nI (by omega)
      obtain ⟨vs, htx⟩ := tx t t4
      refine r_iload_n X dX10_takeAll_24 rfl ?_
      refine r_iconst (v := nI 4) X dX10_takeAll_25 rfl ?_
      refine r_icmp_ge_f (tgt := 47) X dX10_takeAll_26 rfl (fun q => by have := (leI (by omega) (by omega)).mp q; omega) ?_
      refine r_aload_n X dX10_takeAll_29 rfl ?_
      refine r_get X fg_X10_27 dX10_takeAll_30 (up _ (by decide) hxA2) gA2 ?_
      refine r_iload_n X dX10_takeAll_33 rfl ?_
      refine r_aload_n X dX10_takeAll_34 rfl ?_
      refine r_get X fg_X10_27 dX10_takeAll_35 (up _ (by decide) hxB2) gB2 ?_
      refine r_iload_n X dX10_takeAll_38 rfl ?_
      refine r_aald X (t := 2) (C := RX8) rfl dX10_takeAll_39 (up _ (by decide) hT7) hin ?_
      rw [cl, eT t t4]
      refine r_aast X (t := 2) (C := RX8) rfl ck_X8.1 dX10_takeAll_40 (List.getElem?_set_self l36) (up _ (by omega) htx) hin ?_
      rw [List.set_set, cl]
      refine r_iinc (v := nI (t + 1)) X dX10_takeAll_41 rfl (nI_add t 1) (by decide) ?_
      refine r_goto (tgt := 24) X dX10_takeAll_44 rfl ?_
      have ef : (va_up (fun j => if j < t then wS j else wo j) t (some (lam (103 + 3 * t)))) = fun j => if j < t + 1 then wS j else wo j := by
        funext j
        show (if j = t then some (lam (103 + 3 * t)) else if j < t then wS j else wo j) = _
        by_cases q : j = t
        · subst q
          rw [if_pos rfl, if_pos (by omega), eT j t4]
        · rw [if_neg q]
          by_cases q2 : j < t
          · rw [if_pos q2, if_pos (by omega)]
          · rw [if_neg q2, if_neg (by omega)]
      rw [ef]
      exact ih (t + 1) (by omega)
  refine r_iconst (v := nI 0) X dX10_takeAll_22 rfl ?_
  refine r_istore_n X dX10_takeAll_23 (by decide) ?_
  have := loop 4 0 rfl
  rw [show (fun j => if j < 0 then wS j else wo j) = wo from funext (fun j => if_neg (Nat.not_lt_zero j)), set_id hT36] at this
  exact this
set_option maxRecDepth 100000 in
set_option maxHeartbeats 4000000 in
theorem takeAll_X0 (l : Launch) (G : PG) {lam : Nat → Nat} (hl : LAMC lam) {h : PH} (hH : HOK lam [] TCl h) {y : Nat → Int32} {g1 g2 gN : FA} {w wo : Nat → Option Nat} (s0 : h[lam 31]? = some (cnE (lam 32) (lam 33) y)) (s1 : h[lam 32]? = some (eI 120 g1)) (s2 : h[lam 33]? = some (eI 144 g2)) (sN : h[lam 35]? = some (eI 750 gN)) (sT : h[lam 36]? = some (eR 2 4 w)) (dT : h[lam 7]? = some (eR 2 4 wo)) : PMet l G yX10_takeAll cX10_takeAll 3 none 3 0 0 [vR (lam 1), vR (lam 30)] h (qV (TKA lam 2 6 7 12 y g1 g2 gN w wo h)) := by
  refine PMet.intro (by decide) (show 2 ≤ 3 by decide) ?_
  intro p e s m args below meth c X hr hlk hnm
  obtain ⟨xA, hxA, fA, rfl, rA⟩ := hH 1 _ rfl
  obtain ⟨xB, hxB, fB, rfl, rB⟩ := hH 30 _ rfl
  obtain ⟨a0, gA0, qa0⟩ := R2.get (j := 0) rA rfl
  obtain ⟨a1, gA1, qa1⟩ := R2.get (j := 1) rA rfl
  obtain ⟨a2, gA2, qa2⟩ := R2.get (j := 2) rA rfl
  obtain ⟨a3, gA3, qa3⟩ := R2.get (j := 3) rA rfl
  obtain ⟨b0, gB0, qb0⟩ := R2.get (j := 0) rB rfl
  obtain ⟨b1, gB1, qb1⟩ := R2.get (j := 1) rB rfl
  obtain ⟨b2, gB2, qb2⟩ := R2.get (j := 2) rB rfl
  obtain ⟨b3, gB3, qb3⟩ := R2.get (j := 3) rB rfl
  have qa0 : a0 = vR (lam 2) := qa0
  have qa1 : a1 = vR (lam 5) := qa1
  have qa2 : a2 = vR (lam 7) := qa2
  have qa3 : a3 = vR (lam 8) := qa3
  have qb0 : b0 = vR (lam 31) := qb0
  have qb1 : b1 = vR (lam 34) := qb1
  have qb2 : b2 = vR (lam 36) := qb2
  have qb3 : b3 = vR (lam 37) := qb3
  subst qa0 qa1 qa2 qa3 qb0 qb1 qb2 qb3
  obtain ⟨xC, hxC, fC, rfl, rC⟩ := hH 2 _ rfl
  obtain ⟨c0, c1, us, rfl, qc0, qc1, rC2⟩ := R2.un2 rC
  have qc0 : c0 = vR (lam 3) := qc0
  have qc1 : c1 = vR (lam 4) := qc1
  subst qc0 qc1
  have hus : us.length = 8 := (R2.len rC2).symm
  obtain ⟨fT, hfT⟩ := arr_at (k := 3) (c := 120) (by decide) hH rfl
  obtain ⟨fM, hfM⟩ := arr_at (k := 4) (c := 144) (by decide) hH rfl
  obtain ⟨fN, hfN⟩ := arr_at (k := 6) (c := 750) (by decide) hH rfl
  obtain ⟨xP, hxP, fP, rfl, rP⟩ := hH 5 _ rfl
  obtain ⟨p0, vP, rfl, qp, rP2⟩ := R2.uncons rP
  have qp : p0 = vR (lam 6) := qp
  subst qp
  obtain rfl : vP = [] := by cases vP with
    | nil => rfl
    | cons _ _ => cases rP2
  obtain ⟨xQ, hxQ, fQ, rfl, rQ⟩ := hH 34 _ rfl
  obtain ⟨q0, vQ, rfl, qq, rQ2⟩ := R2.uncons rQ
  have qq : q0 = vR (lam 35) := qq
  subst qq
  obtain rfl : vQ = [] := by cases vQ with
    | nil => rfl
    | cons _ _ => cases rQ2
  have ww : ∀ k, k ∈ [2, 3, 4, 6, 7] → wrC k = true := by decide
  have nw : ∀ k, k ∈ [2, 3, 4, 6, 7] → ∀ k', k' ≠ k → lam k ≠ lam k' := fun k hk k' hn q => hn (hl k (ww k hk) k' q).symm
  refine r_aload_n X dX10_takeAll_0 rfl ?_
  refine r_get X fg_X10_12 dX10_takeAll_1 hxA gA0 ?_
  refine r_aload_n X dX10_takeAll_4 rfl ?_
  refine r_get X fg_X10_12 dX10_takeAll_5 hxB gB0 ?_
  refine r_callV X kv_X10_47 dX10_takeAll_8 (As := [vR (lam 31)]) (rest := []) rfl rfl hxC rfl (t_over l G hus hxC s0 hfT hfM s1 s2 (nw 2 (by decide) 31 (by decide)) (nw 3 (by decide) 2 (by decide)) (nw 3 (by decide) 31 (by decide)) (nw 4 (by decide) 2 (by decide)) (nw 4 (by decide) 31 (by decide)) (nw 3 (by decide) 4 (by decide)) (nw 3 (by decide) 33 (by decide))) ⟨by decide, by decide⟩ (Nat.zero_le 8) ⟨Nat.le_refl 0, Nat.le_refl 0⟩ (fun r h1 hq => ?_)
  obtain ⟨rfl, e1⟩ := hq
  have o1 : ∀ a, a ≠ lam 2 → a ≠ lam 3 → a ≠ lam 4 → h1[a]? = h[a]? := fun a q0 q1 q2 => by rw [e1, List.getElem?_set_ne q0.symm, List.getElem?_set_ne q2.symm, List.getElem?_set_ne q1.symm]
  have k1 : ∀ k, k ≠ 2 → k ≠ 3 → k ≠ 4 → h1[lam k]? = h[lam k]? := fun k q0 q1 q2 => o1 _ (nw 2 (by decide) k q0).symm (nw 3 (by decide) k q1).symm (nw 4 (by decide) k q2).symm
  have lC : lam 2 < h.length := (List.getElem?_eq_some_iff.mp hxC).1
  have lT : lam 3 < h.length := (List.getElem?_eq_some_iff.mp hfT).1
  have lM : lam 4 < h.length := (List.getElem?_eq_some_iff.mp hfM).1
  have c0 : h1[lam 2]? = some (cnE (lam 3) (lam 4) y) := by rw [e1]; exact List.getElem?_set_self (by rw [List.length_set, List.length_set]; exact lC)
  have c1 : h1[lam 3]? = some (eI 120 (cpW g1 fT 120)) := by
    rw [e1, List.getElem?_set_ne (nw 2 (by decide) 3 (by decide)), List.getElem?_set_ne (nw 4 (by decide) 3 (by decide))]
    exact List.getElem?_set_self lT
  have c2 : h1[lam 4]? = some (eI 144 (cpW g2 fM 144)) := by
    rw [e1, List.getElem?_set_ne (nw 2 (by decide) 4 (by decide))]
    exact List.getElem?_set_self (by rw [List.length_set]; exact lM)
  clear e1
  refine r_aload_n X dX10_takeAll_11 rfl ?_
  refine r_get X fg_X10_21 dX10_takeAll_12 ((k1 1 (by decide) (by decide) (by decide)).trans hxA) gA1 ?_
  refine r_aload_n X dX10_takeAll_15 rfl ?_
  refine r_get X fg_X10_21 dX10_takeAll_16 ((k1 30 (by decide) (by decide) (by decide)).trans hxB) gB1 ?_
  have hxP1 := (k1 5 (by decide) (by decide) (by decide)).trans hxP
  refine r_callV X kv_X10_51 dX10_takeAll_19 (As := [vR (lam 34)]) (rest := []) rfl rfl hxP1 rfl (t_pages l G hxP1 ((k1 34 (by decide) (by decide) (by decide)).trans hxQ) ((k1 6 (by decide) (by decide) (by decide)).trans hfN) ((k1 35 (by decide) (by decide) (by decide)).trans sN)) ⟨by decide, by decide⟩ (Nat.zero_le 8) ⟨Nat.le_refl 0, Nat.le_refl 0⟩ (fun r h2 hq => ?_)
  obtain ⟨rfl, e2⟩ := hq
  have o2 : ∀ a, a ≠ lam 6 → h2[a]? = h1[a]? := fun a q => by rw [e2, List.getElem?_set_ne q.symm]
  have k2 : ∀ k, k ≠ 6 → h2[lam k]? = h1[lam k]? := fun k q => o2 _ (nw 6 (by decide) k q).symm
  have cN : h2[lam 6]? = some (eI 750 (cpW gN fN 750)) := by rw [e2]; exact List.getElem?_set_self (List.getElem?_eq_some_iff.mp ((k1 6 (by decide) (by decide) (by decide)).trans hfN)).1
  clear e2
  have kk : ∀ k, k ≠ 2 → k ≠ 3 → k ≠ 4 → k ≠ 6 → h2[lam k]? = h[lam k]? := fun k q0 q1 q2 q3 => (k2 k q3).trans (k1 k q0 q1 q2)
  have hT36 : h2[lam 7]? = some (eR 2 4 wo) := (kk 7 (by decide) (by decide) (by decide) (by decide)).trans dT
  have hT7 : h2[lam 36]? = some (eR 2 4 w) := (kk 36 (by decide) (by decide) (by decide) (by decide)).trans sT
  obtain ⟨xS, hS7, wS, rfl, sS⟩ := hH 36 _ rfl
  have eW : wS = w := by
    have q := Option.some.inj (hS7.symm.trans sT)
    injection q with q
    injection q with q
    exact (Prod.mk.inj (Prod.mk.inj q).2).2
  subst eW
  have eT : ∀ i, i < 4 → wS i = some (lam (115 + 3 * i)) := by
    intro i hi
    match i, hi with
    | 0, _ => exact sS 0 _ rfl
    | 1, _ => exact sS 1 _ rfl
    | 2, _ => exact sS 2 _ rfl
    | 3, _ => exact sS 3 _ rfl
    | n + 4, hi => exact absurd hi (by omega)
  have tx : ∀ i, i < 4 → ∃ vs, h2[lam (115 + 3 * i)]? = some (eO 8 vs) := by
    intro i hi
    rw [kk (115 + 3 * i) (by omega) (by omega) (by omega) (by omega)]
    match i, hi with
    | 0, _ =>
      obtain ⟨y, hy, vs, rfl, -⟩ := hH 115 _ rfl
      exact ⟨vs, hy⟩
    | 1, _ =>
      obtain ⟨y, hy, vs, rfl, -⟩ := hH (115 + 3) _ rfl
      exact ⟨vs, hy⟩
    | 2, _ =>
      obtain ⟨y, hy, vs, rfl, -⟩ := hH (115 + 6) _ rfl
      exact ⟨vs, hy⟩
    | 3, _ =>
      obtain ⟨y, hy, vs, rfl, -⟩ := hH (115 + 9) _ rfl
      exact ⟨vs, hy⟩
    | n + 4, hi => exact absurd hi (by omega)
  have l36 : lam 7 < h2.length := (List.getElem?_eq_some_iff.mp hT36).1
  have up : ∀ {k : Nat} {x : PE} (v : Nat → Option Nat), k ≠ 7 → h2[lam k]? = some x → (h2.set (lam 7) (eR 2 4 v))[lam k]? = some x := fun v hk hx => by rw [List.getElem?_set_ne (nw 7 (by decide) _ hk)]; exact hx
  have hxA2 := (kk 1 (by decide) (by decide) (by decide) (by decide)).trans hxA
  have hxB2 := (kk 30 (by decide) (by decide) (by decide) (by decide)).trans hxB
  obtain ⟨xD, hLD, uD, rfl, sD⟩ := hH 8 _ rfl
  obtain ⟨xE, hLS, uS, rfl, sE⟩ := hH 37 _ rfl
  have hLD := (kk 8 (by decide) (by decide) (by decide) (by decide)).trans hLD
  have hLS := (kk 37 (by decide) (by decide) (by decide) (by decide)).trans hLS
  have eD : ∀ i, i < 9 → uD i = some (lam (12 + 2 * i)) := by
    intro i hi
    match i, hi with
    | 0, _ => exact sD 0 _ rfl
    | 1, _ => exact sD 1 _ rfl
    | 2, _ => exact sD 2 _ rfl
    | 3, _ => exact sD 3 _ rfl
    | 4, _ => exact sD 4 _ rfl
    | 5, _ => exact sD 5 _ rfl
    | 6, _ => exact sD 6 _ rfl
    | 7, _ => exact sD 7 _ rfl
    | 8, _ => exact sD 8 _ rfl
    | n + 9, hi => exact absurd hi (by omega)
  have eS : ∀ i, i < 9 → uS i = some (lam (41 + 2 * i)) := by
    intro i hi
    match i, hi with
    | 0, _ => exact sE 0 _ rfl
    | 1, _ => exact sE 1 _ rfl
    | 2, _ => exact sE 2 _ rfl
    | 3, _ => exact sE 3 _ rfl
    | 4, _ => exact sE 4 _ rfl
    | 5, _ => exact sE 5 _ rfl
    | 6, _ => exact sE 6 _ rfl
    | 7, _ => exact sE 7 _ rfl
    | 8, _ => exact sE 8 _ rfl
    | n + 9, hi => exact absurd hi (by omega)
  have after : PW p l e (rmD 3 0 0) s m args below meth c G 3 (MQ below (pQ G (qV (TKA lam 2 6 7 12 y g1 g2 gN wS wo h))) args s 0 0 (pF G)) 0 0 (h2.set (lam 7) (eR 2 4 (fun j => if j < 4 then wS j else wo j))) 47 [some (vR (lam 1)), some (vR (lam 30)), some (vI (nI 4))] [] := by
    refine r_iconst (v := nI 0) X dX10_takeAll_47 rfl ?_
    refine r_istore_n X dX10_takeAll_48 (by decide) ?_
    have rS : ∀ i, i < 9 → RLt (rmT i) (lam (41 + 2 * i)) (lam (42 + 2 * i)) (h2.set (lam 7) (eR 2 4 (fun j => if j < 4 then wS j else wo j))) := fun i hi => by
      obtain ⟨n, f, z1, z2, z3⟩ := RL_img hH i hi
      exact ⟨n, f, z1, up _ (by omega) ((kk _ (by omega) (by omega) (by omega) (by omega)).trans z2), up _ (by omega) ((kk _ (by omega) (by omega) (by omega) (by omega)).trans z3)⟩
    refine tk_l0 l G hl X hr hlk (up _ (by decide) hxA2) gA3 (up _ (by decide) hxB2) gB3 (up _ (by decide) hLD) (up _ (by decide) hLS) eD eS rS (fun hh hs hq => ?_) 9 0 rfl _ (fun a _ => rfl) (fun i hi _ => ?_) (fun i hi => absurd hi (Nat.not_lt_zero i))
    · have nL : ∀ k, k ∈ [2, 3, 4, 6, 7] → ∀ i, i < 9 → lam k ≠ lam (12 + 2 * i) ∧ lam k ≠ lam (13 + 2 * i) := fun k hk i hi => by
        have b : ∀ k, k ∈ [2, 3, 4, 6, 7] → ∀ i, i < 9 → 12 + 2 * i ≠ k ∧ 13 + 2 * i ≠ k := by decide
        exact ⟨nw k hk _ (b k hk i hi).1, nw k hk _ (b k hk i hi).2⟩
      have t3 : ∀ k, k ∈ [2, 3, 4, 6] → hh[lam k]? = h2[lam k]? := fun k hk => by
        have hk5 : k ∈ [2, 3, 4, 6, 7] := (show ∀ k, k ∈ [2, 3, 4, 6] → k ∈ [2, 3, 4, 6, 7] by decide) k hk
        have hk6 : k ≠ 7 := (show ∀ k, k ∈ [2, 3, 4, 6] → k ≠ 7 by decide) k hk
        rw [hs _ (nL k hk5), List.getElem?_set_ne (nw 7 (by decide) k hk6)]
      refine ⟨fun a q0 q1 q2 q3 q4 q5 => ?_, ?_, ⟨cpW g1 fT 120, ?_, fun j hj => if_pos hj⟩, ⟨cpW g2 fM 144, ?_, fun j hj => if_pos hj⟩, ⟨cpW gN fN 750, ?_, fun j hj => if_pos hj⟩, ?_, fun i hi => ?_⟩
      · rw [hs a q5, List.getElem?_set_ne q4.symm, o2 a q3, o1 a q0 q1 q2]
      · exact (t3 2 (by decide)).trans ((k2 2 (by decide)).trans c0)
      · exact (t3 3 (by decide)).trans ((k2 3 (by decide)).trans c1)
      · exact (t3 4 (by decide)).trans ((k2 4 (by decide)).trans c2)
      · exact (t3 6 (by decide)).trans cN
      · rw [hs _ (nL 7 (by decide))]
        exact List.getElem?_set_self l36
      · obtain ⟨n, g, f, z1, z2, z3, z4, z5, z6⟩ := hq i hi
        exact ⟨n, f, z1, z4, z5⟩
    · obtain ⟨n, f, z1, z2, z3⟩ := RL_now hH i hi
      exact ⟨n, f, z1, up _ (by omega) ((kk _ (by omega) (by omega) (by omega) (by omega)).trans z2), up _ (by omega) ((kk _ (by omega) (by omega) (by omega) (by omega)).trans z3)⟩
  have loop : ∀ r t : Nat, t + r = 4 → PW p l e (rmD 3 0 0) s m args below meth c G 3 (MQ below (pQ G (qV (TKA lam 2 6 7 12 y g1 g2 gN wS wo h))) args s 0 0 (pF G)) 0 0 (h2.set (lam 7) (eR 2 4 (fun j => if j < t then wS j else wo j))) 24 [some (vR (lam 1)), some (vR (lam 30)), some (vI (nI t))] [] := by
    intro r
    induction r with
    | zero =>
      intro t ht
      obtain rfl : t = 4 := by omega
      refine r_iload_n X dX10_takeAll_24 rfl ?_
      refine r_iconst (v := nI 4) X dX10_takeAll_25 rfl ?_
      refine r_icmp_ge_t (tgt := 47) X dX10_takeAll_26 rfl (Int32.le_refl _) ?_
      exact after
    | succ r ih =>
      intro t ht
      have t4 : t < 4 := by omega
      have hin : vp_in (nI t) 4 := vp_in_nI (by omega) (by omega)
      have cl : (nI t).toNatClampNeg = t := clamp_nI (by omega)
      obtain ⟨vs, htx⟩ := tx t t4
      refine r_iload_n X dX10_takeAll_24 rfl ?_
      refine r_iconst (v := nI 4) X dX10_takeAll_25 rfl ?_
      refine r_icmp_ge_f (tgt := 47) X dX10_takeAll_26 rfl (fun q => by have := (leI (by omega) (by omega)).mp q; omega) ?_
      refine r_aload_n X dX10_takeAll_29 rfl ?_
      refine r_get X fg_X10_27 dX10_takeAll_30 (up _ (by decide) hxA2) gA2 ?_
      refine r_iload_n X dX10_takeAll_33 rfl ?_
      refine r_aload_n X dX10_takeAll_34 rfl ?_
      refine r_get X fg_X10_27 dX10_takeAll_35 (up _ (by decide) hxB2) gB2 ?_
      refine r_iload_n X dX10_takeAll_38 rfl ?_
      refine r_aald X (t := 2) (C := RX8) rfl dX10_takeAll_39 (up _ (by decide) hT7) hin ?_
      rw [cl, eT t t4]
      refine r_aast X (t := 2) (C := RX8) rfl ck_X8.1 dX10_takeAll_40 (List.getElem?_set_self l36) (up _ (by omega) htx) hin ?_
      rw [List.set_set, cl]
      refine r_iinc (v := nI (t + 1)) X dX10_takeAll_41 rfl (nI_add t 1) (by decide) ?_
      refine r_goto (tgt := 24) X dX10_takeAll_44 rfl ?_
      have ef : (va_up (fun j => if j < t then wS j else wo j) t (some (lam (115 + 3 * t)))) = fun j => if j < t + 1 then wS j else wo j := by
        funext j
        show (if j = t then some (lam (115 + 3 * t)) else if j < t then wS j else wo j) = _
        by_cases q : j = t
        · subst q
          rw [if_pos rfl, if_pos (by omega), eT j t4]
        · rw [if_neg q]
          by_cases q2 : j < t
          · rw [if_pos q2, if_pos (by omega)]
          · rw [if_neg q2, if_neg (by omega)]
      rw [ef]
      exact ih (t + 1) (by omega)
  refine r_iconst (v := nI 0) X dX10_takeAll_22 rfl ?_
  refine r_istore_n X dX10_takeAll_23 (by decide) ?_
  have := loop 4 0 rfl
  rw [show (fun j => if j < 0 then wS j else wo j) = wo from funext (fun j => if_neg (Nat.not_lt_zero j)), set_id hT36] at this
  exact this
