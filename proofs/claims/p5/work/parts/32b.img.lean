/-! image of the class: the told lists exactly -/
theorem t_forget (l : Launch) (G : PG) {h : PH} {a : Nat} {fs : List PV} (ha : h[a]? = some (eO 7 fs)) (hf : 2 < fs.length) : PMet l G yX7_forget cX7_forget 1 none 1 0 0 [vR a] h (qV (fun h' => h' = h.set a (eO 7 (fs.set 2 (vI 0))))) := by
  refine PMet.intro (by decide) (show 1 ≤ 1 by decide) ?_
  intro p e s m args below meth c X hr hlk hnm
  refine r_aload_n X dX7_forget_0 rfl ?_
  refine r_iconst (v := 0) X dX7_forget_1 (by decide) ?_
  refine r_put X fp_X7_21 dX7_forget_2 ha hf rfl rfl ?_
  exact r_ret_v X hr hlk dX7_forget_5 (Nat.le_refl _) (Nat.le_refl _) ⟨rfl, rfl⟩
theorem CPD.set {N S S1 D D1 a : Nat} {x : PE} {h h' : PH} (hC : CPD N S S1 D D1 h h') (h1 : D ≠ a) (h2 : D1 ≠ a) : CPD N S S1 D D1 h (h'.set a x) := by
  obtain ⟨n, g, f, k1, k2, k3, ⟨fs, k4, k5⟩, k6, k7⟩ := hC
  exact ⟨n, g, f, k1, k2, k3, ⟨fs, by rw [List.getElem?_set_ne h1.symm]; exact k4, k5⟩, by rw [List.getElem?_set_ne h2.symm]; exact k6, k7⟩
set_option maxRecDepth 100000 in
theorem im1_B (l : Launch) (G : PG) {lam : Nat → Nat} (hl : LAMC lam) {h : PH} (hH : HOK lam [] TCl h) : PMet l G (mY 165) (mC 165) (mN 165) (mR 165) 4 0 0 [vR (lam 0), vI 1] h (fun _ h' => ∀ i, i < 9 → CPD (rmT i) (lam (12 + 2 * i)) (lam (13 + 2 * i)) (lam (41 + 2 * i)) (lam (42 + 2 * i)) h h') := by
  refine PMet.intro (by decide) (show 2 ≤ 2 by decide) ?_
  intro p e s m args below meth c X hr hlk hnm
  obtain ⟨x0, hx0, f0, rfl, r0⟩ := hH 0 _ rfl
  obtain ⟨v0, g0, q0⟩ := R2.get (j := 0) r0 rfl
  obtain ⟨v1, g1, q1⟩ := R2.get (j := 1) r0 rfl
  have q0 : v0 = vR (lam 1) := q0
  have q1 : v1 = vR (lam 30) := q1
  subst q0 q1
  have hlen : f0.length = 11 := (R2.len r0).symm
  obtain ⟨x30, hx30, f30, rfl, -⟩ := hH 30 _ rfl
  refine r_iload_n X dX11_image_0 rfl ?_
  refine r_if_eq_f (tgt := 22) X dX11_image_1 rfl (by decide) ?_
  refine r_aload_n X dX11_image_4 rfl ?_
  refine r_get X fg_X11_16 dX11_image_5 hx0 g1 ?_
  refine r_aload_n X dX11_image_8 rfl ?_
  refine r_get X fg_X11_12 dX11_image_9 hx0 g0 ?_
  refine r_callV X kv_X11_308 dX11_image_12 (As := [vR (lam 1)]) (rest := []) rfl rfl hx30 rfl (takeAll_1 l G hl hH) ⟨by decide, by decide⟩ (Nat.zero_le 8) ⟨Nat.le_refl 0, Nat.le_refl 0⟩ (fun r h1 hq => ?_)
  obtain ⟨rfl, hq1, hq2⟩ := hq
  have hx0' : h1[lam 0]? = some (eO 11 f0) := (hq2 0 (Or.inl rfl)).trans hx0
  refine r_aload_n X dX11_image_15 rfl ?_
  refine r_iconst (v := 1) X dX11_image_16 (by decide) ?_
  refine r_put X fp_X11_19 dX11_image_17 hx0' (by rw [hlen]; decide) rfl rfl ?_
  refine r_iconst (v := 1) X dX11_image_20 (by decide) ?_
  have w0 : ∀ i, i < 9 → wrC (41 + 2 * i) = true := by decide
  have w1 : ∀ i, i < 9 → wrC (42 + 2 * i) = true := by decide
  exact r_ret_z X hr hlk (Or.inr rfl) dX11_image_21 (Nat.le_refl _) (Nat.le_refl _) (fun i hi => (hq1 i hi).set (fun q => by have := hl _ (w0 i hi) _ q; omega) (fun q => by have := hl _ (w1 i hi) _ q; omega))
set_option maxRecDepth 100000 in
theorem im0_B (l : Launch) (G : PG) {lam : Nat → Nat} (hl : LAMC lam) {h : PH} (hT : HOK lam [] (TBc 1) h) : PMet l G (mY 165) (mC 165) (mN 165) (mR 165) 4 0 0 [vR (lam 0), vI 0] h (fun _ h' => ∀ i, i < 9 → CPD (rmT i) (lam (41 + 2 * i)) (lam (42 + 2 * i)) (lam (12 + 2 * i)) (lam (13 + 2 * i)) h h') := by
  refine PMet.intro (by decide) (show 2 ≤ 2 by decide) ?_
  intro p e s m args below meth c X hr hlk hnm
  have hH : HOK lam [] TCl h := TB_TC (by decide) hT
  obtain ⟨x0, hx0, f0, rfl, r0⟩ := hT 0 _ rfl
  obtain ⟨v0, g0, q0⟩ := R2.get (j := 0) r0 rfl
  obtain ⟨v1, g1, q1⟩ := R2.get (j := 1) r0 rfl
  obtain ⟨v2, g2, z2, rfl, q2⟩ := R2.get (j := 2) r0 rfl
  obtain ⟨v3, g3, q3⟩ := R2.get (j := 3) r0 rfl
  have q0 : v0 = vR (lam 1) := q0
  have q1 : v1 = vR (lam 30) := q1
  have q3 : v3 = vR (lam 59) := q3
  have q2 : z2 = 1 := (inb_c q2).trans (by decide)
  subst q0 q1 q2 q3
  obtain ⟨x1, hx1, f1, rfl, -⟩ := hH 1 _ rfl
  obtain ⟨x59, hx59, f59, rfl, r59⟩ := hH 59 _ rfl
  have hlen : f59.length = 3 := (R2.len r59).symm
  refine r_iload_n X dX11_image_0 rfl ?_
  refine r_if_eq_t (tgt := 22) X dX11_image_1 rfl rfl ?_
  refine r_aload_n X dX11_image_22 rfl ?_
  refine r_get X fg_X11_19 dX11_image_23 hx0 g2 ?_
  refine r_if_eq_f (tgt := 47) X dX11_image_26 rfl (by decide) ?_
  refine r_aload_n X dX11_image_29 rfl ?_
  refine r_get X fg_X11_12 dX11_image_30 hx0 g0 ?_
  refine r_aload_n X dX11_image_33 rfl ?_
  refine r_get X fg_X11_16 dX11_image_34 hx0 g1 ?_
  refine r_callV X kv_X11_308 dX11_image_37 (As := [vR (lam 30)]) (rest := []) rfl rfl hx1 rfl (takeAll_0 l G hl hH) ⟨by decide, by decide⟩ (Nat.zero_le 8) ⟨Nat.le_refl 0, Nat.le_refl 0⟩ (fun r h1 hq => ?_)
  obtain ⟨rfl, hq1, hq2⟩ := hq
  have hx0' : h1[lam 0]? = some (eO 11 f0) := (hq2 0 (Or.inl rfl)).trans hx0
  have hx59' : h1[lam 59]? = some (eO 7 f59) := (hq2 59 (Or.inr rfl)).trans hx59
  refine r_aload_n X dX11_image_40 rfl ?_
  refine r_get X fg_X11_26 dX11_image_41 hx0' g3 ?_
  refine r_callV X kv_X11_92 dX11_image_44 (As := []) (rest := []) rfl rfl hx59' rfl (t_forget l G hx59' (by rw [hlen]; decide)) ⟨by decide, by decide⟩ (Nat.zero_le 8) ⟨Nat.le_refl 0, Nat.le_refl 0⟩ (fun r h2 hq => ?_)
  obtain ⟨rfl, rfl⟩ := hq
  have n59 : lam 59 ≠ lam 0 := fun q => by have := hl 59 rfl _ q; omega
  refine r_aload_n X dX11_image_47 rfl ?_
  refine r_get X fg_X11_19 dX11_image_48 (by rw [List.getElem?_set_ne n59]; exact hx0') g2 ?_
  have w0 : ∀ i, i < 9 → wrC (12 + 2 * i) = true := by decide
  have w1 : ∀ i, i < 9 → wrC (13 + 2 * i) = true := by decide
  exact r_ret_z X hr hlk (Or.inr rfl) dX11_image_51 (Nat.le_refl _) (Nat.le_refl _) (fun i hi => (hq1 i hi).set (fun q => by have := hl _ (w0 i hi) _ q; omega) (fun q => by have := hl _ (w1 i hi) _ q; omega))
