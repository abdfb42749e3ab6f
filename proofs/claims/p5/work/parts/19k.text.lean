/-! text of the class -/
abbrev txE : List (Nat × Nat) := rtE ++ [(7, 999), (59, 2)]
def FRG (lam : Nat → Nat) (W : List (Nat × Nat)) (h0 h : PH) : Prop := h0.length ≤ h.length ∧ ∀ a x0, h0[a]? = some x0 → ∃ x, h[a]? = some x ∧ kpt (fun j => ∃ k, (k, j) ∈ W ∧ lam k = a) x0 x
theorem FRG.of {lam : Nat → Nat} {W W' : List (Nat × Nat)} {h0 h : PH} (hW : ∀ q, q ∈ W' → q ∈ W) (a : FRM lam W' h0 h) : FRG lam W h0 h := by
  refine ⟨Nat.le_of_eq a.1.symm, fun q x hx => ?_⟩
  obtain ⟨y, h3, h4⟩ := a.2 q x hx
  exact ⟨y, h3, h4.mono (fun j ⟨k, hk, e⟩ => ⟨k, hW _ hk, e⟩)⟩
theorem FRG.trans {lam : Nat → Nat} {W : List (Nat × Nat)} {h0 h1 h2 : PH} (a : FRG lam W h0 h1) (b : FRG lam W h1 h2) : FRG lam W h0 h2 := by
  refine ⟨Nat.le_trans a.1 b.1, fun q x hx => ?_⟩
  obtain ⟨y, h3, h4⟩ := a.2 q x hx
  obtain ⟨z, h5, h6⟩ := b.2 q y h3
  exact ⟨z, h5, h4.trans h6⟩
theorem FRG.app {lam : Nat → Nat} {W : List (Nat × Nat)} {h : PH} (L : PH) : FRG lam W h (h ++ L) := by
  refine ⟨by simp, fun q x hx => ⟨x, ?_, kpt.refl x⟩⟩
  rw [List.getElem?_append_left (List.getElem?_eq_some_iff.mp hx).1]
  exact hx
theorem FRG.setR {lam : Nat → Nat} {W : List (Nat × Nat)} {h : PH} {k t n : Nat} {f g : Nat → Option Nat} (hx : h[lam k]? = some (eR t n f)) (hm : (k, 999) ∈ W) : FRG lam W h (h.set (lam k) (eR t n g)) := by
  refine ⟨Nat.le_of_eq List.length_set.symm, fun a x0 ha => ?_⟩
  by_cases e : a = lam k
  · subst e
    rw [hx] at ha
    cases ha
    exact ⟨_, List.getElem?_set_self (List.getElem?_eq_some_iff.mp hx).1, rfl, rfl, fun z => absurd ⟨k, hm, rfl⟩ z⟩
  · exact ⟨x0, by rw [List.getElem?_set_ne (fun z => e z.symm)]; exact ha, kpt.refl x0⟩
theorem HOK_app {lam : Nat → Nat} {ρ : List Int32} {T : List AC} {h : PH} (L : PH) (hH : HOK lam ρ T h) : HOK lam ρ T (h ++ L) := fun k c hc => by
  obtain ⟨x, hx, hcx⟩ := hH k c hc
  exact ⟨x, by rw [List.getElem?_append_left (List.getElem?_eq_some_iff.mp hx).1]; exact hx, hcx⟩
def TXQ (lam : Nat → Nat) (h : PH) : Option PV → PH → Prop := qI fun _ h' => ∃ lam', LAMC lam' ∧ HOK lam' [] TCl h' ∧ FRG lam txE h h' ∧ (∀ k, lam' k = lam k ∨ h.length ≤ lam' k) ∧ ∀ k, k < 103 → lam' k = lam k
theorem lamT_103 {lam : Nat → Nat} {kd n k : Nat} (h : k < 103) : lamT lam kd n k = lam k := lamT_o (inT_lt (by omega))
set_option maxRecDepth 100000 in
set_option maxHeartbeats 4000000 in
theorem text_ok (l : Launch) (G : PG) (lam : Nat → Nat) (hl : LAMC lam) {h : PH} {kd : Int32} (hH : HOK lam [] TCl h) : PMet l G yX11_text cX11_text 3 (some .int) 31 3 488 [vR (lam 0), vI kd] h (TXQ lam h) := by
  refine PMet.intro (by decide) (show 2 ≤ 3 by decide) ?_
  intro p e s m args below meth c X hr hlk hnm
  obtain ⟨x0, hx0, fs0, rfl, r0⟩ := hH 0 _ rfl
  obtain ⟨x1, hx1, fs1, rfl, r1⟩ := hH 1 _ rfl
  obtain ⟨x2, hx2, fs2, rfl, r2⟩ := hH 2 _ rfl
  obtain ⟨fs79, hx79, -⟩ := rt_cell hH
  obtain ⟨f00, g00, v00⟩ := R2.get (j := 0) r0 rfl
  obtain ⟨f04, g04, v04⟩ := R2.get (j := 4) r0 rfl
  obtain ⟨f10, g10, v10⟩ := R2.get (j := 0) r1 rfl
  obtain ⟨f22, g22, z, rfl, -⟩ := R2.get (j := 2) r2 rfl
  have v00' : f00 = vR (lam 1) := v00
  have v04' : f04 = vR (lam 79) := v04
  have v10' : f10 = vR (lam 2) := v10
  subst v00' v04' v10'
  refine r_aload_n X dX11_text_0 rfl ?_
  refine r_get X fg_X11_33 dX11_text_1 hx0 g04 ?_
  refine r_iload_n X dX11_text_4 rfl ?_
  refine r_aload_n X dX11_text_5 rfl ?_
  refine r_get X fg_X11_12 dX11_text_6 hx0 g00 ?_
  refine r_get X fg_X11_67 dX11_text_9 hx1 g10 ?_
  refine r_get X fg_X11_99 dX11_text_12 hx2 g22 ?_
  refine r_callV X kv_X11_154 dX11_text_15 (As := [vI kd, vI z]) (rest := []) rfl rfl hx79 rfl (readTape_ok l G lam hl hH) ⟨Nat.le_refl 31, show 8 + (5 + 11) + 64 * 30 ≤ 64 * 31 by decide⟩ (Nat.zero_le 8) ⟨Nat.le_refl 3, Nat.le_refl 488⟩ ?_
  intro r h' hΦ
  have neg : ∀ {h2 : PH} {w : Option PV}, HOK lam [] TCl h2 → FRG lam txE h h2 → PW p l e (rmD 31 3 488) s m args below meth c G 3 (MQ below (pQ G (TXQ lam h)) args s 3 488 (pF G)) (0 + 3) (0 + 488) h2 32 [some (vR (lam 0)), some (vI kd), w] [] := by
    intro h2 w hH2 hF2
    refine r_iconst X dX11_text_32 (v := -1) rfl ?_
    exact r_ret_i X hr hlk dX11_text_33 (Nat.le_refl _) (Nat.le_refl _) ⟨-1, rfl, lam, hl, hH2, hF2, fun _ => Or.inl rfl, fun _ _ => rfl⟩
  have sub : ∀ q : Nat × Nat, q ∈ rtE → q ∈ txE := fun q hq => List.mem_append_left _ hq
  rcases hΦ with ⟨rfl, hI⟩ | ⟨h1, k, u, f, g, hI, hk, hu, rfl, rfl⟩
  · refine r_astore_nN X dX11_text_18 (by decide) ?_
    refine r_aload_nN X dX11_text_19 rfl ?_
    refine r_ifnull_n X dX11_text_20 (tgt := 32) rfl ?_
    exact neg hI.1 (FRG.of sub hI.2)
  · have hF1 : FRG lam txE h h1 := FRG.of sub hI.2
    refine r_astore_n X dX11_text_18 (by decide) ?_
    refine r_aload_n X dX11_text_19 rfl ?_
    refine r_ifnull_r X dX11_text_20 ?_
    refine r_iload_n X dX11_text_23 rfl ?_
    refine r_if_lt X dX11_text_24 (tgt := 32) rfl (fun _ => neg (HOK_app _ hI.1) (hF1.trans (FRG.app _))) (fun q0 => ?_)
    refine r_iload_n X dX11_text_27 rfl ?_
    refine r_iconst X dX11_text_28 (v := 4) rfl ?_
    refine r_icmp_lt X dX11_text_29 (tgt := 34) rfl (fun q4 => ?_) (fun _ => neg (HOK_app _ hI.1) (hF1.trans (FRG.app _)))
    have i0 : 0 ≤ kd.toInt := by have := Int32.not_lt.mp q0; simpa using Int32.le_iff_toInt_le.mp this
    have i4 : kd.toInt < 4 := by have := Int32.lt_iff_toInt_lt.mp q4; simpa using this
    have hn4 : kd.toNatClampNeg < 4 := by show kd.toInt.toNat < 4; omega
    obtain ⟨y0, hy0, gs0, rfl, s0⟩ := hI.1 0 _ rfl
    obtain ⟨y1, hy1, gs1, rfl, s1⟩ := hI.1 1 _ rfl
    obtain ⟨y7, hy7, w, rfl, -⟩ := hI.1 7 _ rfl
    have hy7' : h1[lam 7]? = some (eR 2 4 w) := hy7
    obtain ⟨e00, k00, w00⟩ := R2.get (j := 0) s0 rfl
    obtain ⟨e12, k12, w12⟩ := R2.get (j := 2) s1 rfl
    have w00' : e00 = vR (lam 1) := w00
    have w12' : e12 = vR (lam 7) := w12
    subst w00' w12'
    have up : ∀ {i : Nat} {x : PE} (L : PH), h1[i]? = some x → (h1 ++ L)[i]? = some x := fun L z => by rw [List.getElem?_append_left (List.getElem?_eq_some_iff.mp z).1]; exact z
    refine r_aload_n X dX11_text_34 rfl ?_
    refine r_get X fg_X11_12 dX11_text_35 (up _ hy0) k00 ?_
    refine r_get X fg_X11_70 dX11_text_38 (up _ hy1) k12 ?_
    refine r_iload_n X dX11_text_41 rfl ?_
    refine r_aload_n X dX11_text_42 rfl ?_
    refine r_aast X (t := 2) (C := RX8) rfl ck_X8.1 dX11_text_43 (up _ hy7') (v := h1.length) (vs := [vR (h1.length + 1), vI (nI k), vR (h1.length + 2)]) (by simp) (vinT i0 i4) ?_
    obtain ⟨hl', hH'⟩ := text_lam (f := f) (g := g) (kd := kd.toNatClampNeg) hl hI.1 hn4 hk hu hy7'
    have hF2 : FRG lam txE h ((h1 ++ [eO 8 [vR (h1.length + 1), vI (nI k), vR (h1.length + 2)], eI (5 * k) f, eI u g]).set (lam 7) (eR 2 4 (va_up w kd.toNatClampNeg (some h1.length)))) := (hF1.trans (FRG.app _)).trans (FRG.setR (up _ hy7') (by decide))
    have hlen : h.length ≤ h1.length := hF1.1
    have last : ∀ {h3 : PH}, HOK (lamT lam kd.toNatClampNeg h1.length) [] TCl h3 → FRG lam txE h h3 → PW p l e (rmD 31 3 488) s m args below meth c G 3 (MQ below (pQ G (TXQ lam h)) args s 3 488 (pF G)) (0 + 3) (0 + 488) h3 61 [some (vR (lam 0)), some (vI kd), some (vR h1.length)] [] := by
      intro h3 hH3 hF3
      have tx : ∃ (xs : List PV) (y : Int32), h3[h1.length]? = some (eO 8 xs) ∧ xs[1]? = some (vI y) := by
        have hT0 : lamT lam kd.toNatClampNeg h1.length (103 + 3 * kd.toNatClampNeg) = h1.length := by
          have : inT (103 + 3 * kd.toNatClampNeg) (103 + 3 * kd.toNatClampNeg) = true := by simp [inT]
          simp [lamT, this]
        generalize hkn : kd.toNatClampNeg = kn at hn4 hT0 hH3
        rcases (show kn = 0 ∨ kn = 1 ∨ kn = 2 ∨ kn = 3 by omega) with rfl | rfl | rfl | rfl
        · obtain ⟨x, hx, xs, rfl, rr⟩ := hH3 103 _ rfl
          obtain ⟨b, gb, y, rfl, -⟩ := R2.get (j := 1) rr rfl
          rw [hT0] at hx
          exact ⟨xs, y, hx, gb⟩
        · obtain ⟨x, hx, xs, rfl, rr⟩ := hH3 106 _ rfl
          obtain ⟨b, gb, y, rfl, -⟩ := R2.get (j := 1) rr rfl
          rw [hT0] at hx
          exact ⟨xs, y, hx, gb⟩
        · obtain ⟨x, hx, xs, rfl, rr⟩ := hH3 109 _ rfl
          obtain ⟨b, gb, y, rfl, -⟩ := R2.get (j := 1) rr rfl
          rw [hT0] at hx
          exact ⟨xs, y, hx, gb⟩
        · obtain ⟨x, hx, xs, rfl, rr⟩ := hH3 112 _ rfl
          obtain ⟨b, gb, y, rfl, -⟩ := R2.get (j := 1) rr rfl
          rw [hT0] at hx
          exact ⟨xs, y, hx, gb⟩
      obtain ⟨xs, y, hx, gy⟩ := tx
      refine r_aload_n X dX11_text_61 rfl ?_
      refine r_get X fg_X11_158 dX11_text_62 hx gy ?_
      refine r_ret_i X hr hlk dX11_text_65 (Nat.le_refl _) (Nat.le_refl _) ⟨y, rfl, _, hl', hH3, hF3, fun q => ?_, fun q hq => lamT_103 hq⟩
      cases hi : inT (103 + 3 * kd.toNatClampNeg) q with
      | false => exact Or.inl (lamT_o hi)
      | true => right; simp only [lamT, hi, cond_true]; omega
    have forg : PW p l e (rmD 31 3 488) s m args below meth c G 3 (MQ below (pQ G (TXQ lam h)) args s 3 488 (pF G)) (0 + 3) (0 + 488) ((h1 ++ [eO 8 [vR (h1.length + 1), vI (nI k), vR (h1.length + 2)], eI (5 * k) f, eI u g]).set (lam 7) (eR 2 4 (va_up w kd.toNatClampNeg (some h1.length)))) 54 [some (vR (lam 0)), some (vI kd), some (vR h1.length)] [] := by
      have l0 : lamT lam kd.toNatClampNeg h1.length 0 = lam 0 := lamT_103 (by decide)
      have l59 : lamT lam kd.toNatClampNeg h1.length 59 = lam 59 := lamT_103 (by decide)
      obtain ⟨u0, hu0, us0, rfl, t0⟩ := hH' 0 _ rfl
      obtain ⟨u59, hu59, us59, rfl, -⟩ := hH' 59 _ rfl
      obtain ⟨b3, gb3, vb3⟩ := R2.get (j := 3) t0 rfl
      have vb3' : b3 = vR (lam 59) := by rw [← l59]; exact vb3
      subst vb3'
      rw [l0] at hu0
      rw [l59] at hu59
      refine r_aload_n X dX11_text_54 rfl ?_
      refine r_get X fg_X11_26 dX11_text_55 hu0 gb3 ?_
      obtain ⟨Φ0, hM, hP⟩ := kc_q157_ok l G (lamT lam kd.toNatClampNeg h1.length) hl' [vR (lam 59)] _ ⟨by rw [← l59]; rfl, trivial⟩ hH' trivial
      refine r_callV X kv_X11_92 dX11_text_58 (As := []) (rest := []) rfl rfl hu59 rfl hM ⟨show 1 + 1 ≤ 31 by decide, show 8 + (1 + 11) + 64 * 1 ≤ 64 * 31 by decide⟩ (Nat.zero_le 8) ⟨Nat.le_refl 3, Nat.le_refl 488⟩ ?_
      intro r h3 hΦ3
      obtain ⟨rfl, hF, hH3⟩ := hP r h3 hΦ3
      have hF3 : FRG lam txE ((h1 ++ [eO 8 [vR (h1.length + 1), vI (nI k), vR (h1.length + 2)], eI (5 * k) f, eI u g]).set (lam 7) (eR 2 4 (va_up w kd.toNatClampNeg (some h1.length)))) h3 := by
        refine ⟨Nat.le_of_eq hF.1.symm, fun q x hx => ?_⟩
        obtain ⟨y, h5, h6⟩ := hF.2 q x hx
        refine ⟨y, h5, h6.mono ?_⟩
        rintro j ⟨q', hq', e'⟩
        have : (q', j) = (59, 2) := List.mem_singleton.mp hq'
        cases this
        exact ⟨59, by decide, l59 ▸ e'⟩
      exact last hH3 (hF2.trans hF3)
    refine r_iload_n X dX11_text_44 rfl ?_
    refine r_iconst X dX11_text_45 (v := 1) rfl ?_
    refine r_icmp_eq X dX11_text_46 (tgt := 54) rfl (fun _ => forg) (fun _ => ?_)
    refine r_iload_n X dX11_text_49 rfl ?_
    refine r_iconst X dX11_text_50 (v := 2) rfl ?_
    exact r_icmp_ne X dX11_text_51 (tgt := 61) rfl (fun _ => last hH' hF2) (fun _ => forg)
