/-! image of the class, exactly; what holds of its cells then -/
set_option maxRecDepth 100000 in
theorem im1_X (l : Launch) (G : PG) {lam : Nat → Nat} (hl : LAMC lam) {h : PH} (hH : HOK lam [] TCl h) {c0 : Nat} (hc0 : c0 = lam 0) {y : Nat → Int32} {g1 g2 gN : FA} {w wo : Nat → Option Nat} (s0 : h[lam 2]? = some (cnE (lam 3) (lam 4) y)) (s1 : h[lam 3]? = some (eI 120 g1)) (s2 : h[lam 4]? = some (eI 144 g2)) (sN : h[lam 6]? = some (eI 750 gN)) (sT : h[lam 7]? = some (eR 2 4 w)) (dT : h[lam 36]? = some (eR 2 4 wo)) : PMet l G (mY 165) (mC 165) (mN 165) (mR 165) 4 0 0 [vR c0, vI 1] h (fun r h' => r = some (vI 1) ∧ ∃ h1 f0, TKA lam 31 35 36 41 y g1 g2 gN w wo h h1 ∧ h[lam 0]? = some (eO 11 f0) ∧ h' = h1.set (lam 0) (eO 11 (f0.set 2 (vI 1)))) := by
  subst hc0
  refine PMet.intro (by decide) (show 2 ≤ 2 by decide) ?_
  intro p e s m args below meth c X hr hlk hnm
  obtain ⟨x0, hx0, f0, rfl, r0⟩ := hH 0 _ rfl
  obtain ⟨v0, a0, q0⟩ := R2.get (j := 0) r0 rfl
  obtain ⟨v1, a1, q1⟩ := R2.get (j := 1) r0 rfl
  have q0 : v0 = vR (lam 1) := q0
  have q1 : v1 = vR (lam 30) := q1
  subst q0 q1
  have hlen : f0.length = 11 := (R2.len r0).symm
  obtain ⟨x30, hx30, f30, rfl, -⟩ := hH 30 _ rfl
  refine r_iload_n X dX11_image_0 rfl ?_
  refine r_if_eq_f (tgt := 22) X dX11_image_1 rfl (by decide) ?_
  refine r_aload_n X dX11_image_4 rfl ?_
  refine r_get X fg_X11_16 dX11_image_5 hx0 a1 ?_
  refine r_aload_n X dX11_image_8 rfl ?_
  refine r_get X fg_X11_12 dX11_image_9 hx0 a0 ?_
  refine r_callV X kv_X11_308 dX11_image_12 (As := [vR (lam 1)]) (rest := []) rfl rfl hx30 rfl (takeAll_X1 l G hl hH s0 s1 s2 sN sT dT) ⟨by decide, by decide⟩ (Nat.zero_le 8) ⟨Nat.le_refl 0, Nat.le_refl 0⟩ (fun r h1 hq => ?_)
  obtain ⟨rfl, hq1⟩ := hq
  have w0 : ∀ i, i < 9 → wrC (41 + 2 * i) = true ∧ wrC (42 + 2 * i) = true := by decide
  have w1 : ∀ k, k ∈ [31, 32, 33, 35, 36] → wrC k = true ∧ k ≠ 0 := by decide
  have n0 : ∀ k, k ∈ [31, 32, 33, 35, 36] → lam 0 ≠ lam k := fun k hk q => (w1 k hk).2 (hl k (w1 k hk).1 _ q.symm)
  have hx0' : h1[lam 0]? = some (eO 11 f0) := (hq1.1 _ (n0 31 (by decide)) (n0 32 (by decide)) (n0 33 (by decide)) (n0 35 (by decide)) (n0 36 (by decide)) (fun i hi => ⟨fun q => by have := hl _ (w0 i hi).1 _ q.symm; omega, fun q => by have := hl _ (w0 i hi).2 _ q.symm; omega⟩)).trans hx0
  refine r_aload_n X dX11_image_15 rfl ?_
  refine r_iconst (v := 1) X dX11_image_16 (by decide) ?_
  refine r_put X fp_X11_19 dX11_image_17 hx0' (by rw [hlen]; decide) rfl rfl ?_
  refine r_iconst (v := 1) X dX11_image_20 (by decide) ?_
  exact r_ret_z X hr hlk (Or.inr rfl) dX11_image_21 (Nat.le_refl _) (Nat.le_refl _) ⟨rfl, h1, f0, hq1, hx0, rfl⟩
set_option maxRecDepth 100000 in
theorem im0_X (l : Launch) (G : PG) {lam : Nat → Nat} (hl : LAMC lam) {h : PH} (hT : HOK lam [] (TBc 1) h) {c0 : Nat} (hc0 : c0 = lam 0) {y : Nat → Int32} {g1 g2 gN : FA} {w wo : Nat → Option Nat} (s0 : h[lam 31]? = some (cnE (lam 32) (lam 33) y)) (s1 : h[lam 32]? = some (eI 120 g1)) (s2 : h[lam 33]? = some (eI 144 g2)) (sN : h[lam 35]? = some (eI 750 gN)) (sT : h[lam 36]? = some (eR 2 4 w)) (dT : h[lam 7]? = some (eR 2 4 wo)) : PMet l G (mY 165) (mC 165) (mN 165) (mR 165) 4 0 0 [vR c0, vI 0] h (fun r h' => r = some (vI 1) ∧ ∃ h1 f0, TKA lam 2 6 7 12 y g1 g2 gN w wo h h1 ∧ h[lam 59]? = some (eO 7 f0) ∧ h' = h1.set (lam 59) (eO 7 (f0.set 2 (vI 0)))) := by
  subst hc0
  refine PMet.intro (by decide) (show 2 ≤ 2 by decide) ?_
  intro p e s m args below meth c X hr hlk hnm
  have hH : HOK lam [] TCl h := TB_TC (by decide) hT
  obtain ⟨x0, hx0, f0, rfl, r0⟩ := hT 0 _ rfl
  obtain ⟨v0, a0, q0⟩ := R2.get (j := 0) r0 rfl
  obtain ⟨v1, a1, q1⟩ := R2.get (j := 1) r0 rfl
  obtain ⟨v2, a2, z2, rfl, q2⟩ := R2.get (j := 2) r0 rfl
  obtain ⟨v3, a3, q3⟩ := R2.get (j := 3) r0 rfl
  have q0 : v0 = vR (lam 1) := q0
  have q1 : v1 = vR (lam 30) := q1
  have q3 : v3 = vR (lam 59) := q3
  have q2 : z2 = 1 := (inb_c q2).trans (by decide)
  subst q0 q1 q2 q3
  obtain ⟨x1, hx1, f1, rfl, -⟩ := hH 1 _ rfl
  obtain ⟨x59, hx59, f59, rfl, r59⟩ := hH 59 _ rfl
  have hlen : f59.length = 3 := (R2.len r59).symm
  refine r_iload_n X dX11_image_0 rfl ?_
  refine r_if_eq_t (tgt := 22) X dX11_image_1 rfl rfl ?_
  refine r_aload_n X dX11_image_22 rfl ?_
  refine r_get X fg_X11_19 dX11_image_23 hx0 a2 ?_
  refine r_if_eq_f (tgt := 47) X dX11_image_26 rfl (by decide) ?_
  refine r_aload_n X dX11_image_29 rfl ?_
  refine r_get X fg_X11_12 dX11_image_30 hx0 a0 ?_
  refine r_aload_n X dX11_image_33 rfl ?_
  refine r_get X fg_X11_16 dX11_image_34 hx0 a1 ?_
  refine r_callV X kv_X11_308 dX11_image_37 (As := [vR (lam 30)]) (rest := []) rfl rfl hx1 rfl (takeAll_X0 l G hl hH s0 s1 s2 sN sT dT) ⟨by decide, by decide⟩ (Nat.zero_le 8) ⟨Nat.le_refl 0, Nat.le_refl 0⟩ (fun r h1 hq => ?_)
  obtain ⟨rfl, hq1⟩ := hq
  have w0 : ∀ i, i < 9 → wrC (12 + 2 * i) = true ∧ wrC (13 + 2 * i) = true := by decide
  have w1 : ∀ k, k ∈ [2, 3, 4, 6, 7] → wrC k = true ∧ k ≠ 0 ∧ k ≠ 59 := by decide
  have n0 : ∀ k, k ∈ [2, 3, 4, 6, 7] → lam 0 ≠ lam k := fun k hk q => (w1 k hk).2.1 (hl k (w1 k hk).1 _ q.symm)
  have n59 : ∀ k, k ∈ [2, 3, 4, 6, 7] → lam 59 ≠ lam k := fun k hk q => (w1 k hk).2.2 (hl k (w1 k hk).1 _ q.symm)
  have hx0' : h1[lam 0]? = some (eO 11 f0) := (hq1.1 _ (n0 2 (by decide)) (n0 3 (by decide)) (n0 4 (by decide)) (n0 6 (by decide)) (n0 7 (by decide)) (fun i hi => ⟨fun q => by have := hl _ (w0 i hi).1 _ q.symm; omega, fun q => by have := hl _ (w0 i hi).2 _ q.symm; omega⟩)).trans hx0
  have hx59' : h1[lam 59]? = some (eO 7 f59) := (hq1.1 _ (n59 2 (by decide)) (n59 3 (by decide)) (n59 4 (by decide)) (n59 6 (by decide)) (n59 7 (by decide)) (fun i hi => ⟨fun q => by have := hl _ (w0 i hi).1 _ q.symm; omega, fun q => by have := hl _ (w0 i hi).2 _ q.symm; omega⟩)).trans hx59
  refine r_aload_n X dX11_image_40 rfl ?_
  refine r_get X fg_X11_26 dX11_image_41 hx0' a3 ?_
  refine r_callV X kv_X11_92 dX11_image_44 (As := []) (rest := []) rfl rfl hx59' rfl (t_forget l G hx59' (by rw [hlen]; decide)) ⟨by decide, by decide⟩ (Nat.zero_le 8) ⟨Nat.le_refl 0, Nat.le_refl 0⟩ (fun r h2 hq => ?_)
  obtain ⟨rfl, rfl⟩ := hq
  have z59 : lam 59 ≠ lam 0 := fun q => by have := hl 59 rfl _ q; omega
  refine r_aload_n X dX11_image_47 rfl ?_
  refine r_get X fg_X11_19 dX11_image_48 (by rw [List.getElem?_set_ne z59]; exact hx0') a2 ?_
  exact r_ret_z X hr hlk (Or.inr rfl) dX11_image_51 (Nat.le_refl _) (Nat.le_refl _) ⟨rfl, h1, f59, hq1, hx59, rfl⟩
/-- image that there is none of -/
theorem imN_X (l : Launch) (G : PG) {lam : Nat → Nat} {h : PH} (hT : HOK lam [] (TBc 0) h) {c0 : Nat} (hc0 : c0 = lam 0) : PMet l G (mY 165) (mC 165) (mN 165) (mR 165) 4 0 0 [vR c0, vI 0] h (fun r h' => r = some (vI 0) ∧ h' = h) := by
  subst hc0
  refine PMet.intro (by decide) (show 2 ≤ 2 by decide) ?_
  intro p e s m args below meth c X hr hlk hnm
  obtain ⟨x0, hx0, f0, rfl, r0⟩ := hT 0 _ rfl
  obtain ⟨v2, a2, z2, rfl, q2⟩ := R2.get (j := 2) r0 rfl
  have q2 : z2 = 0 := (inb_c q2).trans (by decide)
  subst q2
  refine r_iload_n X dX11_image_0 rfl ?_
  refine r_if_eq_t (tgt := 22) X dX11_image_1 rfl rfl ?_
  refine r_aload_n X dX11_image_22 rfl ?_
  refine r_get X fg_X11_19 dX11_image_23 hx0 a2 ?_
  refine r_if_eq_t (tgt := 47) X dX11_image_26 rfl rfl ?_
  refine r_aload_n X dX11_image_47 rfl ?_
  refine r_get X fg_X11_19 dX11_image_48 hx0 a2 ?_
  exact r_ret_z X hr hlk (Or.inl rfl) dX11_image_51 (Nat.le_refl _) (Nat.le_refl _) ⟨rfl, rfl⟩
/-- some cells told anew -/
theorem HOK_ch {lam : Nat → Nat} {T T' : List AC} {h hh : PH} {C : Nat → Prop} (hH : HOK lam [] T h) (hT : ∀ k, ¬ C k → nth T' k = nth T k) (hs : ∀ k, ¬ C k → hh[lam k]? = h[lam k]?) (hc : ∀ k, C k → ∀ c, nth T' k = some c → ∃ x, hh[lam k]? = some x ∧ cellOK lam [] c x) : HOK lam [] T' hh := by
  intro k c hk
  by_cases q : C k
  · exact hc k q c hk
  · obtain ⟨x, h1, h2⟩ := hH k c ((hT k q).symm.trans hk)
    exact ⟨x, (hs k q).trans h1, h2⟩
theorem row_re {lam : Nat → Nat} {T : List AC} {h : PH} {k N : Nat} {ln : AV} {f0 : FA} (hT : HOK lam [] T h) (hk : nth T k = some (.inl (.inl (ln, 0, [(N, 0, 4294967295)])))) (h0 : h[lam k]? = some (eI N f0)) (f : FA) : cellOK lam [] (.inl (.inl (ln, 0, [(N, 0, 4294967295)]))) (eI N f) := by
  obtain ⟨x, hx, N', g, rfl, a1, a2, a3, a4⟩ := hT k _ hk
  obtain ⟨rfl, -⟩ := row_eq hx h0
  exact ⟨N', f, rfl, a1, a2, ⟨fun j _ => inb_top _, trivial⟩, PRD_0⟩
theorem cnE_ok {lam : Nat → Nat} {a b : Nat} {y : Nat → Int32} : cellOK lam [] (.inr (0, [.inr (.inl (some a)), .inr (.inl (some b)), .inr (.inr (.inr (0, 4294967295))), .inr (.inr (.inr (0, 4294967295))), .inr (.inr (.inr (0, 4294967295))), .inr (.inr (.inr (0, 4294967295))), .inr (.inr (.inr (0, 4294967295))), .inr (.inr (.inr (0, 4294967295))), .inr (.inr (.inr (0, 4294967295))), .inr (.inr (.inr (0, 4294967295)))])) (cnE (lam a) (lam b) y) := ⟨_, rfl, rfl, rfl, ⟨_, rfl, inb_top _⟩, ⟨_, rfl, inb_top _⟩, ⟨_, rfl, inb_top _⟩, ⟨_, rfl, inb_top _⟩, ⟨_, rfl, inb_top _⟩, ⟨_, rfl, inb_top _⟩, ⟨_, rfl, inb_top _⟩, ⟨_, rfl, inb_top _⟩, trivial⟩
theorem nth_stl {T : List AC} {c : AC} {k j : Nat} (h : k ≠ j) : nth (stl T c j) k = nth T k := by rw [stl_eq, nth_eq, List.getElem?_set_ne (fun q => h q.symm), nth_eq]
theorem tl_img : ∀ i, i < 9 → nth TCl (41 + 2 * i) = some (.inr (9, [.inr (.inl (some (42 + 2 * i))), .inr (.inr (.inr (2147483648, 2147483648 + rmT i)))])) ∧ nth TCl (42 + 2 * i) = some (.inl (.inl (.inl (2147483648 + rmT i), 0, [(rmT i, 0, 4294967295)]))) := by
  intro i hi
  match i, hi with
  | 0, _ => exact ⟨rfl, rfl⟩
  | 1, _ => exact ⟨rfl, rfl⟩
  | 2, _ => exact ⟨rfl, rfl⟩
  | 3, _ => exact ⟨rfl, rfl⟩
  | 4, _ => exact ⟨rfl, rfl⟩
  | 5, _ => exact ⟨rfl, rfl⟩
  | 6, _ => exact ⟨rfl, rfl⟩
  | 7, _ => exact ⟨rfl, rfl⟩
  | 8, _ => exact ⟨rfl, rfl⟩
  | n + 9, hi => exact absurd hi (by omega)
theorem tl_now : ∀ i, i < 9 → nth TCl (12 + 2 * i) = some (.inr (9, [.inr (.inl (some (13 + 2 * i))), .inr (.inr (.inr (2147483648, 2147483648 + rmT i)))])) ∧ nth TCl (13 + 2 * i) = some (.inl (.inl (.inl (2147483648 + rmT i), 0, [(rmT i, 0, 4294967295)]))) := by
  intro i hi
  match i, hi with
  | 0, _ => exact ⟨rfl, rfl⟩
  | 1, _ => exact ⟨rfl, rfl⟩
  | 2, _ => exact ⟨rfl, rfl⟩
  | 3, _ => exact ⟨rfl, rfl⟩
  | 4, _ => exact ⟨rfl, rfl⟩
  | 5, _ => exact ⟨rfl, rfl⟩
  | 6, _ => exact ⟨rfl, rfl⟩
  | 7, _ => exact ⟨rfl, rfl⟩
  | 8, _ => exact ⟨rfl, rfl⟩
  | n + 9, hi => exact absurd hi (by omega)
/-- cells of an image that goes over -/
def CI1 (k : Nat) : Prop := k = 0 ∨ k = 31 ∨ k = 32 ∨ k = 33 ∨ k = 35 ∨ k = 36 ∨ ∃ i, i < 9 ∧ (k = 41 + 2 * i ∨ k = 42 + 2 * i)
theorem CI1_w {k : Nat} (h : CI1 k) : wrC k = true := by
  rcases h with rfl | rfl | rfl | rfl | rfl | rfl | ⟨i, hi, rfl | rfl⟩
  · rfl
  · rfl
  · rfl
  · rfl
  · rfl
  · rfl
  · exact (show ∀ i, i < 9 → wrC (41 + 2 * i) = true by decide) i hi
  · exact (show ∀ i, i < 9 → wrC (42 + 2 * i) = true by decide) i hi
/-- a cell that is none of these stays -/
theorem TKA.frI1 {lam : Nat → Nat} {y : Nat → Int32} {g1 g2 gN : FA} {w wo : Nat → Option Nat} {h h1 : PH} {x : PE} (hK : TKA lam 31 35 36 41 y g1 g2 gN w wo h h1) {a : Nat} (ha : ∀ k, CI1 k → a ≠ lam k) : (h1.set (lam 0) x)[a]? = h[a]? := by
  rw [List.getElem?_set_ne (fun q => ha 0 (Or.inl rfl) q.symm)]
  exact hK.1 a (ha 31 (Or.inr (Or.inl rfl))) (ha 32 (Or.inr (Or.inr (Or.inl rfl)))) (ha 33 (Or.inr (Or.inr (Or.inr (Or.inl rfl))))) (ha 35 (Or.inr (Or.inr (Or.inr (Or.inr (Or.inl rfl)))))) (ha 36 (Or.inr (Or.inr (Or.inr (Or.inr (Or.inr (Or.inl rfl))))))) (fun i hi => ⟨ha _ (Or.inr (Or.inr (Or.inr (Or.inr (Or.inr (Or.inr ⟨i, hi, Or.inl rfl⟩)))))), ha _ (Or.inr (Or.inr (Or.inr (Or.inr (Or.inr (Or.inr ⟨i, hi, Or.inr rfl⟩))))))⟩)
set_option maxRecDepth 100000 in
set_option maxHeartbeats 4000000 in
theorem HOK_I1 {lam : Nat → Nat} (hl : LAMC lam) {h h1 : PH} {b : Nat} (hb : b ≤ 1) (hT : HOK lam [] (TBc b) h) {y : Nat → Int32} {g1 g2 gN : FA} {w wo : Nat → Option Nat} (hK : TKA lam 31 35 36 41 y g1 g2 gN w wo h h1) {f0 : List PV} (hZ : h[lam 0]? = some (eO 11 f0)) (hw : h[lam 7]? = some (eR 2 4 w)) : HOK lam [] TI1 (h1.set (lam 0) (eO 11 (f0.set 2 (vI 1)))) := by
  have hH : HOK lam [] TCl h := TB_TC hb hT
  have ne : ∀ k, ¬ CI1 k → ∀ k', CI1 k' → lam k ≠ lam k' := fun k hk k' hk' q => hk (by rw [← hl k' (CI1_w hk') k q.symm]; exact hk')
  have up : ∀ k, k ≠ 0 → ∀ x, h1[lam k]? = some x → (h1.set (lam 0) (eO 11 (f0.set 2 (vI 1))))[lam k]? = some x := fun k hk x hx => by
    rw [List.getElem?_set_ne (fun q => hk (hl 0 rfl k q).symm)]
    exact hx
  have lz : lam 0 < h1.length := by
    have q := hK.1 (lam 0) (fun q => absurd (hl 0 rfl _ q) (by decide)) (fun q => absurd (hl 0 rfl _ q) (by decide)) (fun q => absurd (hl 0 rfl _ q) (by decide)) (fun q => absurd (hl 0 rfl _ q) (by decide)) (fun q => absurd (hl 0 rfl _ q) (by decide)) (fun i hi => ⟨fun q => by have := hl 0 rfl _ q; omega, fun q => by have := hl 0 rfl _ q; omega⟩)
    exact (List.getElem?_eq_some_iff.mp (q.trans hZ)).1
  have fr := fun k (hk : ¬ CI1 k) => hK.frI1 (x := eO 11 (f0.set 2 (vI 1))) (a := lam k) (ne k hk)
  obtain ⟨-, k0, ⟨u1, k1, -⟩, ⟨u2, k2, -⟩, ⟨uN, kN, -⟩, kT, kL⟩ := hK
  obtain ⟨v1, j1⟩ := arr_at (k := 32) (c := 120) (by decide) hH rfl
  obtain ⟨v2, j2⟩ := arr_at (k := 33) (c := 144) (by decide) hH rfl
  obtain ⟨vN, jN⟩ := arr_at (k := 35) (c := 750) (by decide) hH rfl
  refine HOK_ch (C := CI1) hH (fun k hk => ?_) fr (fun k hk c hc => ?_)
  · exact (nth_stl (T := TBc 1) (j := 36) (fun q => hk (Or.inr (Or.inr (Or.inr (Or.inr (Or.inr (Or.inl q)))))))).trans (nth_stl (T := TCl) (j := 0) (fun q => hk (Or.inl q)))
  · rcases hk with rfl | rfl | rfl | rfl | rfl | rfl | ⟨i, hi, rfl | rfl⟩
    · refine ⟨_, List.getElem?_set_self lz, ?_⟩
      obtain ⟨x, hx, xs, rfl, rr⟩ := hH 0 _ rfl
      obtain rfl : xs = f0 := by
        have q := Option.some.inj (hx.symm.trans hZ)
        injection q with q
        exact (Prod.mk.inj q).2
      have h2 := R2.put (j := 2) (a := (.inr (.inr (.inr (2147483648 + 1, 2147483648 + 1))) : AV)) (show vRel lam [] (.inr (.inr (.inr (2147483648 + 1, 2147483648 + 1)))) (vI 1) from ⟨1, rfl, by decide, by decide⟩) (R2.setc (a := .inr (.inr (.inr (2147483648, 2147483649)))) (b := vI 1) ⟨1, rfl, by decide, by decide⟩ rr rfl) (List.getElem?_set_self (by rw [← R2.len rr]; decide))
      have ec := Option.some.inj ((show nth TI1 0 = some _ from rfl).symm.trans hc)
      rw [← ec]
      exact ⟨_, rfl, h2⟩
    · have hc := (show nth TI1 31 = nth TCl 31 from rfl).symm.trans hc
      have hc := Option.some.inj hc
      rw [← hc]
      exact ⟨_, up 31 (by decide) _ k0, cnE_ok⟩
    · have hc := Option.some.inj ((show nth TI1 32 = nth TCl 32 from rfl).symm.trans hc)
      rw [← hc]
      exact ⟨_, up 32 (by decide) _ k1, row_re hH (k := 32) rfl j1 u1⟩
    · have hc := Option.some.inj ((show nth TI1 33 = nth TCl 33 from rfl).symm.trans hc)
      rw [← hc]
      exact ⟨_, up 33 (by decide) _ k2, row_re hH (k := 33) rfl j2 u2⟩
    · have hc := Option.some.inj ((show nth TI1 35 = nth TCl 35 from rfl).symm.trans hc)
      rw [← hc]
      exact ⟨_, up 35 (by decide) _ kN, row_re hH (k := 35) rfl jN uN⟩
    · have hc := Option.some.inj ((show nth TI1 36 = some (.inl (.inr (2, [some 103, some 106, some 109, some 112]))) from rfl).symm.trans hc)
      rw [← hc]
      refine ⟨_, up 36 (by decide) _ kT, _, rfl, fun j o hj => ?_⟩
      obtain ⟨x, hx, ws, rfl, ww⟩ := hH 7 _ rfl
      have eW : ws = w := by
        have q := Option.some.inj (hx.symm.trans hw)
        injection q with q
        injection q with q
        exact (Prod.mk.inj (Prod.mk.inj q).2).2
      subst eW
      have q := ww j o hj
      have j4 : j < 4 := by
        rw [nth_eq] at hj
        exact (List.getElem?_eq_some_iff.mp hj).1
      show (if j < 4 then ws j else wo j) = _
      rw [if_pos j4]
      exact q
    · obtain ⟨m, f, m1, m2, m3⟩ := kL i hi
      have e := (nth_stl (T := TBc 1) (c := .inl (.inr (2, [some 103, some 106, some 109, some 112]))) (j := 36) (k := 41 + 2 * i) (by omega)).trans (nth_stl (T := TCl) (j := 0) (by omega))
      have hc := Option.some.inj ((tl_img i hi).1.symm.trans (e.symm.trans hc))
      rw [← hc]
      exact ⟨_, up _ (by omega) _ m2, _, rfl, rfl, ⟨_, rfl, inb_nI (lo := 0) (Nat.zero_le _) m1 (by have := rmT_le i hi; omega)⟩, trivial⟩
    · obtain ⟨m, f, m1, m2, m3⟩ := kL i hi
      obtain ⟨n, g, n1, n2, n3⟩ := RL_img hH i hi
      have e := (nth_stl (T := TBc 1) (c := .inl (.inr (2, [some 103, some 106, some 109, some 112]))) (j := 36) (k := 42 + 2 * i) (by omega)).trans (nth_stl (T := TCl) (j := 0) (by omega))
      have hc := Option.some.inj ((tl_img i hi).2.symm.trans (e.symm.trans hc))
      rw [← hc]
      exact ⟨_, up _ (by omega) _ m3, row_re hH (tl_img i hi).2 n3 f⟩
/-- cells of an image that goes over -/
def CI0 (k : Nat) : Prop := k = 59 ∨ k = 2 ∨ k = 3 ∨ k = 4 ∨ k = 6 ∨ k = 7 ∨ ∃ i, i < 9 ∧ (k = 12 + 2 * i ∨ k = 13 + 2 * i)
theorem CI0_w {k : Nat} (h : CI0 k) : wrC k = true := by
  rcases h with rfl | rfl | rfl | rfl | rfl | rfl | ⟨i, hi, rfl | rfl⟩
  · rfl
  · rfl
  · rfl
  · rfl
  · rfl
  · rfl
  · exact (show ∀ i, i < 9 → wrC (12 + 2 * i) = true by decide) i hi
  · exact (show ∀ i, i < 9 → wrC (13 + 2 * i) = true by decide) i hi
/-- a cell that is none of these stays -/
theorem TKA.frI0 {lam : Nat → Nat} {y : Nat → Int32} {g1 g2 gN : FA} {w wo : Nat → Option Nat} {h h1 : PH} {x : PE} (hK : TKA lam 2 6 7 12 y g1 g2 gN w wo h h1) {a : Nat} (ha : ∀ k, CI0 k → a ≠ lam k) : (h1.set (lam 59) x)[a]? = h[a]? := by
  rw [List.getElem?_set_ne (fun q => ha 59 (Or.inl rfl) q.symm)]
  exact hK.1 a (ha 2 (Or.inr (Or.inl rfl))) (ha 3 (Or.inr (Or.inr (Or.inl rfl)))) (ha 4 (Or.inr (Or.inr (Or.inr (Or.inl rfl))))) (ha 6 (Or.inr (Or.inr (Or.inr (Or.inr (Or.inl rfl)))))) (ha 7 (Or.inr (Or.inr (Or.inr (Or.inr (Or.inr (Or.inl rfl))))))) (fun i hi => ⟨ha _ (Or.inr (Or.inr (Or.inr (Or.inr (Or.inr (Or.inr ⟨i, hi, Or.inl rfl⟩)))))), ha _ (Or.inr (Or.inr (Or.inr (Or.inr (Or.inr (Or.inr ⟨i, hi, Or.inr rfl⟩))))))⟩)
set_option maxRecDepth 100000 in
set_option maxHeartbeats 4000000 in
theorem HOK_I0 {lam : Nat → Nat} (hl : LAMC lam) {h h1 : PH} (hT : HOK lam [] (TBc 1) h) {y : Nat → Int32} {g1 g2 gN : FA} {w wo : Nat → Option Nat} (hK : TKA lam 2 6 7 12 y g1 g2 gN w wo h h1) {f0 : List PV} (hZ : h[lam 59]? = some (eO 7 f0)) (hw : h[lam 36]? = some (eR 2 4 w)) : HOK lam [] TI2 (h1.set (lam 59) (eO 7 (f0.set 2 (vI 0)))) := by
  have hH : HOK lam [] TCl h := TB_TC (by decide) hT
  have ne : ∀ k, ¬ CI0 k → ∀ k', CI0 k' → lam k ≠ lam k' := fun k hk k' hk' q => hk (by rw [← hl k' (CI0_w hk') k q.symm]; exact hk')
  have up : ∀ k, k ≠ 59 → ∀ x, h1[lam k]? = some x → (h1.set (lam 59) (eO 7 (f0.set 2 (vI 0))))[lam k]? = some x := fun k hk x hx => by
    rw [List.getElem?_set_ne (fun q => hk (hl 59 rfl k q).symm)]
    exact hx
  have lz : lam 59 < h1.length := by
    have q := hK.1 (lam 59) (fun q => absurd (hl 59 rfl _ q) (by decide)) (fun q => absurd (hl 59 rfl _ q) (by decide)) (fun q => absurd (hl 59 rfl _ q) (by decide)) (fun q => absurd (hl 59 rfl _ q) (by decide)) (fun q => absurd (hl 59 rfl _ q) (by decide)) (fun i hi => ⟨fun q => by have := hl 59 rfl _ q; omega, fun q => by have := hl 59 rfl _ q; omega⟩)
    exact (List.getElem?_eq_some_iff.mp (q.trans hZ)).1
  have fr := fun k (hk : ¬ CI0 k) => hK.frI0 (x := eO 7 (f0.set 2 (vI 0))) (a := lam k) (ne k hk)
  obtain ⟨-, k0, ⟨u1, k1, -⟩, ⟨u2, k2, -⟩, ⟨uN, kN, -⟩, kT, kL⟩ := hK
  obtain ⟨v1, j1⟩ := arr_at (k := 3) (c := 120) (by decide) hH rfl
  obtain ⟨v2, j2⟩ := arr_at (k := 4) (c := 144) (by decide) hH rfl
  obtain ⟨vN, jN⟩ := arr_at (k := 6) (c := 750) (by decide) hH rfl
  refine HOK_ch (C := CI0) hT (fun k hk => ?_) fr (fun k hk c hc => ?_)
  · exact nth_stl (T := TBc 1) (j := 7) (fun q => hk (Or.inr (Or.inr (Or.inr (Or.inr (Or.inr (Or.inl q)))))))
  · rcases hk with rfl | rfl | rfl | rfl | rfl | rfl | ⟨i, hi, rfl | rfl⟩
    · refine ⟨_, List.getElem?_set_self lz, ?_⟩
      obtain ⟨x, hx, xs, rfl, rr⟩ := hH 59 _ rfl
      obtain rfl : xs = f0 := by
        have q := Option.some.inj (hx.symm.trans hZ)
        injection q with q
        exact (Prod.mk.inj q).2
      have h2 := R2.setc (a := .inr (.inr (.inr (2147483648, 2147483654)))) (b := vI 0) ⟨0, rfl, by decide, by decide⟩ rr (j := 2) rfl
      have ec := Option.some.inj ((show nth TI2 59 = nth TCl 59 from rfl).symm.trans hc)
      rw [← ec]
      exact ⟨_, rfl, h2⟩
    · have hc := Option.some.inj ((show nth TI2 2 = nth TCl 2 from rfl).symm.trans hc)
      rw [← hc]
      exact ⟨_, up 2 (by decide) _ k0, cnE_ok⟩
    · have hc := Option.some.inj ((show nth TI2 3 = nth TCl 3 from rfl).symm.trans hc)
      rw [← hc]
      exact ⟨_, up 3 (by decide) _ k1, row_re hH (k := 3) rfl j1 u1⟩
    · have hc := Option.some.inj ((show nth TI2 4 = nth TCl 4 from rfl).symm.trans hc)
      rw [← hc]
      exact ⟨_, up 4 (by decide) _ k2, row_re hH (k := 4) rfl j2 u2⟩
    · have hc := Option.some.inj ((show nth TI2 6 = nth TCl 6 from rfl).symm.trans hc)
      rw [← hc]
      exact ⟨_, up 6 (by decide) _ kN, row_re hH (k := 6) rfl jN uN⟩
    · have hc := Option.some.inj ((show nth TI2 7 = some (.inl (.inr (2, [some 115, some 118, some 121, some 124]))) from rfl).symm.trans hc)
      rw [← hc]
      refine ⟨_, up 7 (by decide) _ kT, _, rfl, fun j o hj => ?_⟩
      obtain ⟨x, hx, ws, rfl, ww⟩ := hH 36 _ rfl
      have eW : ws = w := by
        have q := Option.some.inj (hx.symm.trans hw)
        injection q with q
        injection q with q
        exact (Prod.mk.inj (Prod.mk.inj q).2).2
      subst eW
      have q := ww j o hj
      have j4 : j < 4 := by
        rw [nth_eq] at hj
        exact (List.getElem?_eq_some_iff.mp hj).1
      show (if j < 4 then ws j else wo j) = _
      rw [if_pos j4]
      exact q
    · obtain ⟨m, f, m1, m2, m3⟩ := kL i hi
      have e := (nth_stl (T := TBc 1) (c := .inl (.inr (2, [some 115, some 118, some 121, some 124]))) (j := 7) (k := 12 + 2 * i) (by omega)).trans (nth_stl (T := TCl) (j := 0) (by omega))
      have hc := Option.some.inj ((tl_now i hi).1.symm.trans (e.symm.trans hc))
      rw [← hc]
      exact ⟨_, up _ (by omega) _ m2, _, rfl, rfl, ⟨_, rfl, inb_nI (lo := 0) (Nat.zero_le _) m1 (by have := rmT_le i hi; omega)⟩, trivial⟩
    · obtain ⟨m, f, m1, m2, m3⟩ := kL i hi
      obtain ⟨n, g, n1, n2, n3⟩ := RL_now hH i hi
      have e := (nth_stl (T := TBc 1) (c := .inl (.inr (2, [some 115, some 118, some 121, some 124]))) (j := 7) (k := 13 + 2 * i) (by omega)).trans (nth_stl (T := TCl) (j := 0) (by omega))
      have hc := Option.some.inj ((tl_now i hi).2.symm.trans (e.symm.trans hc))
      rw [← hc]
      exact ⟨_, up _ (by omega) _ m3, row_re hH (tl_now i hi).2 n3 f⟩
