theorem pos_nI {x : Int32} : x = nI (ix x) := (ofNat_ix x).symm
theorem ky_nI {a : Nat} (h : a < 2147483648) : ky (nI a) = a + 2147483648 := by
  have e : ix (nI a) = a := by rw [nI, ix_ofNat]; exact Nat.mod_eq_of_lt (by omega)
  rw [ky_small (by rw [e]; exact h), e]
theorem idiv_ok {la ha lb hb : Nat} {x y : Int32} (hx : inb la ha x) (hy : inb lb hb y) : inb (idiv la ha lb hb).1 (idiv la ha lb hb).2 (x / y) := by
  obtain ⟨x1, x2⟩ := hx
  obtain ⟨y1, y2⟩ := hy
  unfold idiv
  cases hc : (Nat.ble 2147483648 la && Nat.blt 2147483648 lb) with
  | false => exact inb_top _
  | true =>
    rw [Bool.and_eq_true, Nat.ble_eq, blt_t] at hc
    have px := ky_pos (x := x) (by omega)
    have py := ky_pos (x := y) (by omega)
    have e : x / y = nI (ix x / ix y) := by
      have q := pk_div (a := ix x) (d := ix y) (by have := px.2; omega) (by omega) (by have := py.2; omega)
      rw [← pos_nI, ← pos_nI] at q
      exact q
    have hle : ix x / ix y ≤ ix x := Nat.div_le_self _ _
    have m1 : (la - 2147483648) / (hb - 2147483648) ≤ ix x / ix y := Nat.div_le_div (by omega) (by omega) (by omega)
    have m2 : ix x / ix y ≤ (ha - 2147483648) / (lb - 2147483648) := Nat.div_le_div (by omega) (by omega) (by omega)
    rw [e, cond_true]
    refine ⟨?_, ?_⟩
    · rw [ky_nI (by omega)]; exact Nat.add_le_add_right m1 _
    · rw [ky_nI (by omega)]; exact Nat.add_le_add_right m2 _
theorem irem_ok {la ha lb hb : Nat} {x y : Int32} (hx : inb la ha x) (hy : inb lb hb y) : inb (irem la ha lb hb).1 (irem la ha lb hb).2 (x - x / y * y) := by
  obtain ⟨x1, x2⟩ := hx
  obtain ⟨y1, y2⟩ := hy
  unfold irem
  cases hc : (Nat.ble 2147483648 la && Nat.blt 2147483648 lb) with
  | false => exact inb_top _
  | true =>
    rw [Bool.and_eq_true, Nat.ble_eq, blt_t] at hc
    have px := ky_pos (x := x) (by omega)
    have py := ky_pos (x := y) (by omega)
    have e : x - x / y * y = nI (ix x % ix y) := by
      have q := pk_rem (a := ix x) (d := ix y) (by have := px.2; omega) (by omega) (by have := py.2; omega)
      rw [← pos_nI, ← pos_nI] at q
      exact q
    have h1 : ix x % ix y ≤ ix x := Nat.mod_le _ _
    have h2 : ix x % ix y < ix y := Nat.mod_lt _ (by omega)
    rw [e, cond_true]
    cases hq : (Nat.beq la ha && Nat.beq lb hb) with
    | true =>
      rw [Bool.and_eq_true, Nat.beq_eq, Nat.beq_eq] at hq
      have q1 : ix x = la - 2147483648 := by omega
      have q2 : ix y = lb - 2147483648 := by omega
      rw [cond_true]
      have q3 : ky (nI (ix x % ix y)) = (la - 2147483648) % (lb - 2147483648) + 2147483648 := by rw [ky_nI (by omega), q1, q2]
      exact ⟨Nat.le_of_eq q3.symm, Nat.le_of_eq q3⟩
    | false =>
    rw [cond_false]
    refine ⟨?_, ?_⟩
    · rw [ky_nI (by omega)]; exact Nat.le_add_left _ _
    · rw [ky_nI (by omega)]
      cases hd : Nat.blt ha hb with
      | true => rw [cond_true]; omega
      | false => rw [cond_false]; omega
section XQ
variable {lam : Nat → Nat} {W : List (Nat × Nat)} {NH : Nat} {H0 : PH} {l : Launch} {G : PG} {d : Nat} {own : String} {cc : ByteArray} {nL : Nat} {ret : Option FieldType} {code : List PO} {K : Nat → List (Option PV) → List PV → PH → Prop} {i0 t : Nat} {ρ : List Int32} {ls : AL} {st : List AV} {S : AS} {cls : List (Option PV)} {cst : List PV} {h : PH} {xs : List AX} {pc a b : Nat} {v : Int32} {tg : List Nat}
theorem xo_div (hC : CLO l G d own cc nL code K i0 pc) (hE : eOK own cc nL ret code (pc, 17, a, b, v, tg) (hpc (drp t code))) (hg : GST lam W NH H0 ρ ls st S cls cst h) (hK : SUC lam W NH H0 K ρ xs) (hs : x_div t ls st S = some xs) : K i0 cls cst h := by
  unfold x_div at hs
  split at hs
  · rename_i y x st'
    obtain ⟨n, env, fs, mm, H⟩ := S
    obtain ⟨g1, g2, hn, hEn, hF, hM, hH, hL, hR⟩ := hg
    obtain ⟨w0, cst0, rfl, ⟨zy, hy, rfl⟩, g3⟩ := g2.uncons
    obtain ⟨w1, cst1, rfl, ⟨zx, hx, rfl⟩, g4⟩ := g3.uncons
    simp only at hs
    obtain ⟨e1, hs2⟩ := bif_some hs
    clear hs
    have bx := bnd_ok hn hEn hx
    have bY := bnd_ok hn hEn hy
    have hne : ¬ zy = 0 := by
      intro e
      subst e
      rw [Bool.or_eq_true, blt_t, blt_t] at e1
      have := bY.1; have := bY.2
      rw [ky0] at *
      omega
    have key := hE l G d h cls cst1 zx zy hne
    have hb := idiv_ok bx bY
    generalize idiv (bnd n env x).1 (bnd n env x).2 (bnd n env y).1 (bnd n env y).2 = q at hs2 hb
    obtain ⟨lo, hi⟩ := q
    simp only at hs2
    revert hs2
    refine nsy_ok (P := fun o => o = some xs → K i0 cls (vI zy :: vI zx :: cst1) h) hn hEn hb (fun q => absurd q (by decide)) ?_
    intro c n' env' τ e1 e2 e3 hs
    exact hC t _ _ _ _ _ _ key (hK.one hs τ ⟨g1.upo τ, ⟨⟨_, e3, rfl⟩, g4.upv τ⟩, e1, e2, hF.up τ, hM.up τ, hH.up τ, hL, hR⟩)
  · cases hs
theorem xo_rem (hC : CLO l G d own cc nL code K i0 pc) (hE : eOK own cc nL ret code (pc, 18, a, b, v, tg) (hpc (drp t code))) (hg : GST lam W NH H0 ρ ls st S cls cst h) (hK : SUC lam W NH H0 K ρ xs) (hs : x_rem t ls st S = some xs) : K i0 cls cst h := by
  unfold x_rem at hs
  split at hs
  · rename_i y x st'
    obtain ⟨n, env, fs, mm, H⟩ := S
    obtain ⟨g1, g2, hn, hEn, hF, hM, hH, hL, hR⟩ := hg
    obtain ⟨w0, cst0, rfl, ⟨zy, hy, rfl⟩, g3⟩ := g2.uncons
    obtain ⟨w1, cst1, rfl, ⟨zx, hx, rfl⟩, g4⟩ := g3.uncons
    simp only at hs
    obtain ⟨e1, hs2⟩ := bif_some hs
    clear hs
    have bx := bnd_ok hn hEn hx
    have bY := bnd_ok hn hEn hy
    have hne : ¬ zy = 0 := by
      intro e
      subst e
      rw [Bool.or_eq_true, blt_t, blt_t] at e1
      have := bY.1; have := bY.2
      rw [ky0] at *
      omega
    have key := hE l G d h cls cst1 zx zy hne
    have hb := irem_ok bx bY
    generalize irem (bnd n env x).1 (bnd n env x).2 (bnd n env y).1 (bnd n env y).2 = q at hs2 hb
    obtain ⟨lo, hi⟩ := q
    simp only at hs2
    revert hs2
    refine nsy_ok (P := fun o => o = some xs → K i0 cls (vI zy :: vI zx :: cst1) h) hn hEn hb (fun q => absurd q (by decide)) ?_
    intro c n' env' τ e1 e2 e3 hs
    exact hC t _ _ _ _ _ _ key (hK.one hs τ ⟨g1.upo τ, ⟨⟨_, e3, rfl⟩, g4.upv τ⟩, e1, e2, hF.up τ, hM.up τ, hH.up τ, hL, hR⟩)
  · cases hs
theorem xo_neg (hC : CLO l G d own cc nL code K i0 pc) (hE : eOK own cc nL ret code (pc, 20, a, b, v, tg) (hpc (drp t code))) (hg : GST lam W NH H0 ρ ls st S cls cst h) (hK : SUC lam W NH H0 K ρ xs) (hs : x_neg t ls st S = some xs) : K i0 cls cst h := by
  unfold x_neg at hs
  split at hs
  · rename_i x st'
    obtain ⟨n, env, fs, mm, H⟩ := S
    obtain ⟨g1, g2, hn, hEn, hF, hM, hH, hL, hR⟩ := hg
    obtain ⟨w0, cst1, rfl, ⟨zx, hx, rfl⟩, g4⟩ := g2.uncons
    simp only at hs
    have key := hE l G d h cls cst1 zx
    revert hs
    refine nsy_ok (P := fun o => o = some xs → K i0 cls (vI zx :: cst1) h) (z := -zx) hn hEn (inb_top _) (fun q => absurd q (by decide)) ?_
    intro c n' env' τ e1 e2 e3 hs
    exact hC t _ _ _ _ _ _ key (hK.one hs τ ⟨g1.upo τ, ⟨⟨_, e3, rfl⟩, g4.upv τ⟩, e1, e2, hF.up τ, hM.up τ, hH.up τ, hL, hR⟩)
  · cases hs
theorem xo_abs (hC : CLO l G d own cc nL code K i0 pc) (hE : eOK own cc nL ret code (pc, 29, a, b, v, tg) (hpc (drp t code))) (hg : GST lam W NH H0 ρ ls st S cls cst h) (hK : SUC lam W NH H0 K ρ xs) (hs : x_abs t ls st S = some xs) : K i0 cls cst h := by
  unfold x_abs at hs
  split at hs
  · rename_i x st'
    obtain ⟨n, env, fs, mm, H⟩ := S
    obtain ⟨g1, g2, hn, hEn, hF, hM, hH, hL, hR⟩ := hg
    obtain ⟨w0, cst1, rfl, ⟨zx, hx, rfl⟩, g4⟩ := g2.uncons
    simp only at hs
    obtain ⟨e1, hs2⟩ := bif_some hs
    clear hs
    have key := hE l G d h cls cst1 zx (by rw [← g4.len]; exact Nat.ble_eq.mp e1)
    revert hs2
    refine nsy_ok (P := fun o => o = some xs → K i0 cls (vI zx :: cst1) h) (z := if 0 ≤ zx then zx else 0 - zx) hn hEn (inb_top _) (fun q => absurd q (by decide)) ?_
    intro c n' env' τ e1 e2 e3 hs
    exact hC t _ _ _ _ _ _ key (hK.one hs τ ⟨g1.upo τ, ⟨⟨_, e3, rfl⟩, g4.upv τ⟩, e1, e2, hF.up τ, hM.up τ, hH.up τ, hL, hR⟩)
  · cases hs
theorem xo_max (hC : CLO l G d own cc nL code K i0 pc) (hE : eOK own cc nL ret code (pc, 27, a, b, v, tg) (hpc (drp t code))) (hg : GST lam W NH H0 ρ ls st S cls cst h) (hK : SUC lam W NH H0 K ρ xs) (hs : x_max false t ls st S = some xs) : K i0 cls cst h := by
  unfold x_max at hs
  split at hs
  · rename_i y x st'
    obtain ⟨n, env, fs, mm, H⟩ := S
    obtain ⟨g1, g2, hn, hEn, hF, hM, hH, hL, hR⟩ := hg
    obtain ⟨w0, cst0, rfl, ⟨zy, hy, rfl⟩, g3⟩ := g2.uncons
    obtain ⟨w1, cst1, rfl, ⟨zx, hx, rfl⟩, g4⟩ := g3.uncons
    simp only at hs
    obtain ⟨e1, hs2⟩ := bif_some hs
    clear hs
    rw [cond_false] at hs2
    have key := hE l G d h cls cst1 zx zy (by rw [← g4.len]; exact Nat.ble_eq.mp e1)
    obtain ⟨xa, xb, h1, h2, rfl⟩ := oapp_inv hs2
    cases hb : pcmp 2 zx zy with
    | true =>
      rw [if_pos (of_decide_eq_true (cmp_lt.symm.trans hb))] at key
      refine hC t _ _ _ _ _ _ key ?_
      revert h1
      refine brn_ok (P := fun o => o = some xa → K t cls (vI zy :: cst1) h) hn hEn hF hx hy hb ?_
      intro e f e1 e2 e3 hs
      exact hK.l.one hs [] ⟨g1, ⟨⟨zy, hy, rfl⟩, g4⟩, e1, e2, e3, hM, hH, hL, hR⟩
    | false =>
      rw [if_neg (of_decide_eq_false (cmp_lt.symm.trans hb))] at key
      refine hC t _ _ _ _ _ _ key ?_
      revert h2
      refine brn_ok (P := fun o => o = some xb → K t cls (vI zx :: cst1) h) hn hEn hF hx hy hb ?_
      intro e f e1 e2 e3 hs
      exact hK.r.one hs [] ⟨g1, ⟨⟨zx, hx, rfl⟩, g4⟩, e1, e2, e3, hM, hH, hL, hR⟩
  · cases hs
theorem xo_min (hC : CLO l G d own cc nL code K i0 pc) (hE : eOK own cc nL ret code (pc, 28, a, b, v, tg) (hpc (drp t code))) (hg : GST lam W NH H0 ρ ls st S cls cst h) (hK : SUC lam W NH H0 K ρ xs) (hs : x_max true t ls st S = some xs) : K i0 cls cst h := by
  unfold x_max at hs
  split at hs
  · rename_i y x st'
    obtain ⟨n, env, fs, mm, H⟩ := S
    obtain ⟨g1, g2, hn, hEn, hF, hM, hH, hL, hR⟩ := hg
    obtain ⟨w0, cst0, rfl, ⟨zy, hy, rfl⟩, g3⟩ := g2.uncons
    obtain ⟨w1, cst1, rfl, ⟨zx, hx, rfl⟩, g4⟩ := g3.uncons
    simp only at hs
    obtain ⟨e1, hs2⟩ := bif_some hs
    clear hs
    rw [cond_true] at hs2
    have key := hE l G d h cls cst1 zx zy (by rw [← g4.len]; exact Nat.ble_eq.mp e1)
    obtain ⟨xa, xb, h1, h2, rfl⟩ := oapp_inv hs2
    cases hb : pcmp 2 zy zx with
    | true =>
      rw [if_pos (of_decide_eq_true (cmp_lt.symm.trans hb))] at key
      refine hC t _ _ _ _ _ _ key ?_
      revert h1
      refine brn_ok (P := fun o => o = some xa → K t cls (vI zy :: cst1) h) hn hEn hF hy hx hb ?_
      intro e f e1 e2 e3 hs
      exact hK.l.one hs [] ⟨g1, ⟨⟨zy, hy, rfl⟩, g4⟩, e1, e2, e3, hM, hH, hL, hR⟩
    | false =>
      rw [if_neg (of_decide_eq_false (cmp_lt.symm.trans hb))] at key
      refine hC t _ _ _ _ _ _ key ?_
      revert h2
      refine brn_ok (P := fun o => o = some xb → K t cls (vI zx :: cst1) h) hn hEn hF hy hx hb ?_
      intro e f e1 e2 e3 hs
      exact hK.r.one hs [] ⟨g1, ⟨⟨zx, hx, rfl⟩, g4⟩, e1, e2, e3, hM, hH, hL, hR⟩
  · cases hs
theorem xo_alen (hC : CLO l G d own cc nL code K i0 pc) (hE : eOK own cc nL ret code (pc, 24, a, b, v, tg) (hpc (drp t code))) (hg : GST lam W NH H0 ρ ls st S cls cst h) (hK : SUC lam W NH H0 K ρ xs) (hs : x_alen t ls st S = some xs) : K i0 cls cst h := by
  unfold x_alen at hs
  split at hs
  · rename_i x st'
    obtain ⟨n, env, fs, mm, H⟩ := S
    obtain ⟨g1, g2, hn, hEn, hF, hM, hH, hL, hR⟩ := hg
    obtain ⟨x', cst', rfl, e1, g4⟩ := g2.uncons
    have e1 : x' = vR (lam x) := e1
    subst e1
    simp only at hs
    split at hs
    · rename_i c p sg hx
      obtain ⟨y, hy, N, f, rfl, hN, ⟨z, hz, ez⟩, hsg, hprd⟩ := hH x _ hx
      have ez : Int32.ofNat N = z := by injection ez
      subst ez
      have key := (hE l G d h cls cst').1 (lam x) N f hy
      exact hC t _ _ _ _ _ _ key (hK.one hs [] ⟨g1, ⟨⟨_, hz, rfl⟩, g4⟩, hn, hEn, hF, hM, hH, hL, hR⟩)
    · rename_i lo hi p sg hx
      obtain ⟨y, hy, N, f, rfl, hN, ⟨z, ez, hz⟩, hsg, hprd⟩ := hH x _ hx
      have ez : Int32.ofNat N = z := by injection ez
      subst ez
      have key := (hE l G d h cls cst').1 (lam x) N f hy
      revert hs
      refine nsy_ok (P := fun o => o = some xs → K i0 cls (vR (lam x) :: cst') h) hn hEn hz (fun q => absurd q (by decide)) ?_
      intro c n' env' τ e1 e2 e3 hs
      refine hC t _ _ _ _ _ _ key (hK.one hs τ ⟨g1.upo τ, ⟨⟨_, e3, rfl⟩, g4.upv τ⟩, e1, e2, hF.up τ, hM.up τ, ?_, by rw [stl_len]; exact hL, hR⟩)
      exact (hH.up τ).put hy ⟨N, f, rfl, hN, ⟨_, e3, rfl⟩, hsg, hprd.up τ⟩
    · cases hs
  · cases hs
theorem xo_dup (hC : CLO l G d own cc nL code K i0 pc) (hE : eOK own cc nL ret code (pc, 21, a, b, v, tg) (hpc (drp t code))) {z : AV} (hg : GST lam W NH H0 ρ ls (z :: st) S cls cst h) (hK : SUC lam W NH H0 K ρ xs) (hs : some [(t, ls, z :: z :: st, S)] = some xs) : K i0 cls cst h := by
  obtain ⟨g1, g2, g3⟩ := hg
  obtain ⟨x', cst', rfl, e1, g4⟩ := g2.uncons
  exact hC t _ _ _ _ _ _ (hE l G d h cls cst' x') (hK.one hs [] ⟨g1, ⟨e1, e1, g4⟩, g3⟩)
theorem xo_dup2 (hC : CLO l G d own cc nL code K i0 pc) (hE : eOK own cc nL ret code (pc, 22, a, b, v, tg) (hpc (drp t code))) {z w : AV} (hg : GST lam W NH H0 ρ ls (z :: w :: st) S cls cst h) (hK : SUC lam W NH H0 K ρ xs) (hs : some [(t, ls, z :: w :: z :: w :: st, S)] = some xs) : K i0 cls cst h := by
  obtain ⟨g1, g2, g3⟩ := hg
  obtain ⟨x', cst', rfl, e1, g4⟩ := g2.uncons
  obtain ⟨y', cst'', rfl, e2, g5⟩ := g4.uncons
  exact hC t _ _ _ _ _ _ (hE l G d h cls cst'' x' y') (hK.one hs [] ⟨g1, ⟨e1, e2, e1, e2, g5⟩, g3⟩)
theorem xo_pop (hC : CLO l G d own cc nL code K i0 pc) (hE : eOK own cc nL ret code (pc, 23, a, b, v, tg) (hpc (drp t code))) {z : AV} (hg : GST lam W NH H0 ρ ls (z :: st) S cls cst h) (hK : SUC lam W NH H0 K ρ xs) (hs : some [(t, ls, st, S)] = some xs) : K i0 cls cst h := by
  obtain ⟨g1, g2, g3⟩ := hg
  obtain ⟨x', cst', rfl, e1, g4⟩ := g2.uncons
  exact hC t _ _ _ _ _ _ (hE l G d h cls cst' x') (hK.one hs [] ⟨g1, g4, g3⟩)
theorem xo_goto (hC : CLO l G d own cc nL code K i0 pc) (hE : eOK own cc nL ret code (pc, 9, a, b, v, tg) (hpc (drp t code))) (hg : GST lam W NH H0 ρ ls st S cls cst h) (hK : SUC lam W NH H0 K ρ xs) (hs : some [(a, ls, st, S)] = some xs) : K i0 cls cst h :=
  hC a _ _ _ _ _ _ (hE l G d h cls cst) (hK.one hs [] hg)
theorem xo_null (hC : CLO l G d own cc nL code K i0 pc) (hE : eOK own cc nL ret code (pc, 32, a, b, v, tg) (hpc (drp t code))) (hg : GST lam W NH H0 ρ ls st S cls cst h) (hK : SUC lam W NH H0 K ρ xs) (hs : some [(t, ls, .inr (.inl none) :: st, S)] = some xs) : K i0 cls cst h :=
  hC t _ _ _ _ _ _ (hE l G d h cls cst) (hK.one hs [] ⟨hg.1, ⟨rfl, hg.2.1⟩, hg.2.2⟩)
theorem xo_ifnull (hC : CLO l G d own cc nL code K i0 pc) (hE : eOK own cc nL ret code (pc, 33, a, b, v, tg) (hpc (drp t code))) (hg : GST lam W NH H0 ρ ls st S cls cst h) (hK : SUC lam W NH H0 K ρ xs) (hs : x_ifnull a t ls st S = some xs) : K i0 cls cst h := by
  unfold x_ifnull at hs
  split at hs
  · obtain ⟨g1, g2, g3⟩ := hg
    obtain ⟨x', cst', rfl, e1, g4⟩ := g2.uncons
    have e1 : x' = vN := e1
    subst e1
    exact hC a _ _ _ _ _ _ (hE l G d h cls cst').1 (hK.one hs [] ⟨g1, g4, g3⟩)
  · rename_i x st'
    obtain ⟨g1, g2, g3⟩ := hg
    obtain ⟨x', cst', rfl, e1, g4⟩ := g2.uncons
    have e1 : x' = vR (lam x) := e1
    subst e1
    exact hC t _ _ _ _ _ _ ((hE l G d h cls cst').2 (lam x)) (hK.one hs [] ⟨g1, g4, g3⟩)
  · cases hs
theorem xo_ifnonnull (hC : CLO l G d own cc nL code K i0 pc) (hE : eOK own cc nL ret code (pc, 34, a, b, v, tg) (hpc (drp t code))) (hg : GST lam W NH H0 ρ ls st S cls cst h) (hK : SUC lam W NH H0 K ρ xs) (hs : x_ifnull t a ls st S = some xs) : K i0 cls cst h := by
  unfold x_ifnull at hs
  split at hs
  · obtain ⟨g1, g2, g3⟩ := hg
    obtain ⟨x', cst', rfl, e1, g4⟩ := g2.uncons
    have e1 : x' = vN := e1
    subst e1
    exact hC t _ _ _ _ _ _ (hE l G d h cls cst').1 (hK.one hs [] ⟨g1, g4, g3⟩)
  · rename_i x st'
    obtain ⟨g1, g2, g3⟩ := hg
    obtain ⟨x', cst', rfl, e1, g4⟩ := g2.uncons
    have e1 : x' = vR (lam x) := e1
    subst e1
    exact hC a _ _ _ _ _ _ ((hE l G d h cls cst').2 (lam x)) (hK.one hs [] ⟨g1, g4, g3⟩)
  · cases hs
theorem aalds_ok {n : Nat} {env : List SE} {i : Nat} {z : Int32} {st' : List AV} {fs mm : List (Nat × Nat × Nat)} {H : List AC} {cst' : List PV} (hn : n = env.length) (hEn : EnvOK env ρ) (hF : FOK ρ fs) (hM : MOK lam ρ mm h) (hH : HOK lam ρ H h) (hL : H.length = NH) (hR : FRM lam W H0 h) (g1 : R2 (oRel lam ρ) ls cls) (g4 : R2 (vRel lam ρ) st' cst') (hz : val ρ i = some z) : ∀ (rs : List (Option Nat)) (j k : Nat) (o : Option Nat) (xs : List AX), x_aalds n env i t ls st' fs mm H rs j = some xs → SUC lam W NH H0 K ρ xs → nth rs k = some o → ky z = 2147483648 + (j + k) → K t cls (.inr (.inl (o.map lam)) :: cst') h := by
  intro rs
  induction rs with
  | nil => intro j k o xs hs hK hk; cases hk
  | cons r0 t0 ih =>
    intro j k o xs hs hK hk hz2
    have hs : oapp (match cmpT n env 0 i (2147483648 + j) with
      | some e => some [(t, ls, .inr (.inl r0) :: st', (n, e, fs, mm, H))]
      | none => some []) (x_aalds n env i t ls st' fs mm H t0 (Nat.succ j)) = some xs := hs
    obtain ⟨xa, xb, h1, h2, rfl⟩ := oapp_inv hs
    cases k with
    | zero =>
      have ho : r0 = o := by injection hk
      subst ho
      have hl := ky_lim z
      have hv : val ρ (2147483648 + j) = some z := by
        rw [val_c (by omega), ← kv_of (by omega)]
      obtain ⟨e, q1, q2, q3⟩ := cmpT_ok (o := 0) hn hEn hz hv (show z = z from rfl)
      rw [q1] at h1
      exact hK.l.one h1 [] ⟨g1, ⟨rfl, g4⟩, q2, q3, hF, hM, hH, hL, hR⟩
    | succ k => exact ih (Nat.succ j) k o xb h2 hK.r hk (by omega)
theorem xo_aald (hC : CLO l G d own cc nL code K i0 pc) (hE : eOK own cc nL ret code (pc, 25, a, b, v, tg) (hpc (drp t code))) (hg : GST lam W NH H0 ρ ls st S cls cst h) (hK : SUC lam W NH H0 K ρ xs) (hs : x_aald t ls st S = some xs) : K i0 cls cst h := by
  unfold x_aald at hs
  split at hs
  · rename_i i x st'
    obtain ⟨n, env, fs, mm, H⟩ := S
    obtain ⟨g1, g2, hn, hEn, hF, hM, hH, hL, hR⟩ := hg
    obtain ⟨w0, cst0, rfl, ⟨z, hz, rfl⟩, g3⟩ := g2.uncons
    obtain ⟨x', cst', rfl, e1, g4⟩ := g3.uncons
    have e1 : x' = vR (lam x) := e1
    subst e1
    simp only at hs
    split at hs
    · rename_i q rs hx
      obtain ⟨e1, hs2⟩ := bif_some hs
      clear hs
      simp only [Bool.and_eq_true, Bool.or_eq_true, Nat.beq_eq, Nat.ble_eq, blt_t] at e1
      obtain ⟨hq, c1, c2⟩ := e1
      obtain ⟨y, hy, f, rfl, hf⟩ := hH x _ hx
      have hb := bnd_ok hn hEn hz
      obtain ⟨b1, b2⟩ := hb
      have hp := ky_pos (x := z) (by omega)
      have hk := ky_small hp.2
      have hlt : ix z < rs.length := by omega
      have hv := vin_ix hlt hp.2
      have key := hE l G d h cls cst' (lam x) q rs.length f z hq hy hv.1
      rw [hv.2] at key
      have hn2 : nth rs (ix z) = some rs[ix z] := by rw [nth_eq]; exact List.getElem?_eq_getElem hlt
      rw [hf _ _ hn2] at key
      exact hC t _ _ _ _ _ _ key (aalds_ok hn hEn hF hM hH hL hR g1 g4 hz rs 0 (ix z) _ xs hs2 hK hn2 (by omega))
    · cases hs
  · cases hs
theorem xo_aast (hi : ∀ k j, (k, j) ∈ W → ∀ k', lam k = lam k' → k = k') (hC : CLO l G d own cc nL code K i0 pc) (hE : eOK own cc nL ret code (pc, 36, a, b, v, tg) (hpc (drp t code))) (hg : GST lam W NH H0 ρ ls st S cls cst h) (hK : SUC lam W NH H0 K ρ xs) (hs : x_aast t W ls st S = some xs) : K i0 cls cst h := by
  unfold x_aast at hs
  split at hs
  · rename_i y i x st'
    obtain ⟨n, env, fs, mm, H⟩ := S
    obtain ⟨g1, g2, hn, hEn, hF, hM, hH, hL, hR⟩ := hg
    obtain ⟨w0, cst0, rfl, ey, g3⟩ := g2.uncons
    obtain ⟨w1, cst1, rfl, ⟨z, hz, rfl⟩, g4⟩ := g3.uncons
    obtain ⟨x', cst', rfl, e1, g5⟩ := g4.uncons
    have e1 : x' = vR (lam x) := e1
    have ey : w0 = vR (lam y) := ey
    subst e1
    subst ey
    simp only at hs
    split at hs
    · rename_i q rs hx
      split at hs
      · rename_i ci vs hyc
        obtain ⟨e1, hs2⟩ := bif_some hs
        clear hs
        simp only [Bool.and_eq_true, Bool.or_eq_true, Nat.beq_eq, Nat.ble_eq, blt_t] at e1
        obtain ⟨hq, hw, c0, c1, c2⟩ := e1
        have hw := memW_ok hw
        obtain ⟨X1, hX1, f, rfl, hf⟩ := hH x _ hx
        obtain ⟨X2, hX2, fsx, rfl, hfs⟩ := hH y _ hyc
        obtain ⟨b1, b2⟩ := bnd_ok hn hEn hz
        have hp := ky_pos (x := z) (by omega)
        have hk := ky_small hp.2
        have hix : ix z = sb0 (bnd n env i).1 := by unfold sb0; omega
        have hlt : ix z < rs.length := by omega
        have hv := vin_ix hlt hp.2
        have key := hE l G d h cls cst' (lam x) q rs.length (lam y) ci fsx f z hq hX1 hX2 hv.1
        rw [hv.2] at key
        refine hC t _ _ _ _ _ _ key (hK.one hs2 [] ⟨g1, g5, hn, hEn, hF, hM.ref hX1, ?_, by rw [stl_len]; exact hL, ?_⟩)
        · refine hH.set (hi x 999 hw) hX1 ⟨_, by rw [stl_len], ?_⟩
          intro j o hj
          rw [nth_eq, stl_eq, ← hix] at hj
          by_cases e : ix z = j
          · subst e
            rw [List.getElem?_set_self hlt] at hj
            have hj := Option.some.inj hj
            subst hj
            show (if ix z = ix z then some (lam y) else f (ix z)) = _
            rw [if_pos rfl]; rfl
          · rw [List.getElem?_set_ne e, ← nth_eq] at hj
            show (if j = ix z then some (lam y) else f j) = _
            rw [if_neg (fun q => e q.symm)]
            exact hf j o hj
        · exact hR.set hX1 ⟨rfl, rfl, fun q => absurd ⟨x, hw, rfl⟩ q⟩
      · cases hs
    · cases hs
  · cases hs
theorem sgT_ok {f g : Nat → Int32} : ∀ (sg : List (Nat × Nat × Nat)) (o : Nat) , SegOK sg (fun j => f (o + j)) → (∀ j, j < sgT sg → g (o + j) = f (o + j)) → SegOK sg (fun j => g (o + j)) := by
  intro sg
  induction sg with
  | nil => intro o h1 h2; trivial
  | cons s t ih =>
    intro o h1 h2
    have hT : sgT (s :: t) = s.1 + sgT t := rfl
    refine ⟨fun j hj => ?_, ?_⟩
    · show inb s.2.1 s.2.2 (g (o + j))
      rw [h2 j (by omega)]
      exact h1.1 j hj
    · have := ih (o + s.1) (by simpa only [Nat.add_assoc] using h1.2) (fun j hj => by
        have := h2 (s.1 + j) (by omega)
        rw [Nat.add_assoc]; exact this)
      simpa only [Nat.add_assoc] using this
theorem xo_copy (hi : ∀ k j, (k, j) ∈ W → ∀ k', lam k = lam k' → k = k') (hC : CLO l G d own cc nL code K i0 pc) (hE : eOK own cc nL ret code (pc, 37, a, b, v, tg) (hpc (drp t code))) (hg : GST lam W NH H0 ρ ls st S cls cst h) (hK : SUC lam W NH H0 K ρ xs) (hs : x_copy t W ls st S = some xs) : K i0 cls cst h := by
  unfold x_copy at hs
  split at hs
  · rename_i k dp y sp x st'
    obtain ⟨n, env, fs, mm, H⟩ := S
    obtain ⟨g1, g2, hn, hEn, hF, hM, hH, hL, hR⟩ := hg
    obtain ⟨w0, c0, rfl, ⟨zk, hzk, rfl⟩, g3⟩ := g2.uncons
    obtain ⟨w1, c1, rfl, ⟨zd, hzd, rfl⟩, g4⟩ := g3.uncons
    obtain ⟨w2, c2, rfl, ey, g5⟩ := g4.uncons
    obtain ⟨w3, c3, rfl, ⟨zs, hzs, rfl⟩, g6⟩ := g5.uncons
    obtain ⟨w4, cst', rfl, ex, g7⟩ := g6.uncons
    have ex : w4 = vR (lam x) := ex
    have ey : w2 = vR (lam y) := ey
    subst ex
    subst ey
    simp only at hs
    split at hs
    · rename_i ln p sg hx
      split at hs
      · rename_i ln' p' sg' hyc
        obtain ⟨e1, hs2⟩ := bif_some hs
        clear hs
        simp only [Bool.and_eq_true, Nat.beq_eq, Nat.ble_eq, blt_t] at e1
        obtain ⟨rfl, rfl, h8, hw, hk1, rfl, rfl, hk2, hk3⟩ := e1
        have hw := memW_ok hw
        obtain ⟨X1, hX1, N, f, rfl, hN, ⟨z1, hz1, ez1⟩, hsg, hprd⟩ := hH x _ hx
        obtain ⟨X2, hX2, N', g, rfl, hN', ⟨z2, hz2, ez2⟩, hsg', hprd'⟩ := hH y _ hyc
        rw [hzk] at hz1 hz2
        have ez1 : Int32.ofNat N = z1 := by injection ez1
        have ez2 : Int32.ofNat N' = z2 := by injection ez2
        have hz1 := Option.some.inj hz1
        have hz2 := Option.some.inj hz2
        have hkk := val_c (ρ := ρ) hk1
        rw [hzk] at hkk
        have hkk := Option.some.inj hkk
        have hNN : ∀ M, M < 2147483648 → Int32.ofNat M = zk → M = ix zk ∧ ix zk < 2147483648 := by
          intro M hM1 hM2
          have := ix_ofNat M
          rw [hM2, Nat.mod_eq_of_lt (by omega)] at this
          omega
        have hA := hNN N hN (by rw [ez1, hz1])
        have hB := hNN N' hN' (by rw [ez2, hz2])
        have hkz := ky_small hA.2
        have hkv := ky_kv hk1
        rw [← hkk] at hkv
        have z0 : ∀ q, val ρ 2147483648 = some q → q = 0 := by
          intro q hq
          rw [val_c (by decide), ← kv_of ky0] at hq
          exact (Option.some.inj hq).symm
        have d0 := z0 zd hzd
        have s0 := z0 zs hzs
        subst d0
        subst s0
        have hcl : zk.toNatClampNeg = ix zk := (vin_ix (N := 2147483648) hA.2 hA.2).2
        have hc0 : (0 : Int32).toNatClampNeg = 0 := by decide
        have nn : ¬ zk < 0 := by
          rw [ky_lt, ky0]; omega
        have key := hE l G d h cls cst' (lam x) (lam y) N N' f g 0 0 zk hX1 hX2 (by decide) (by decide) nn (by rw [hc0, hcl]; omega) (by rw [hc0, hcl]; omega) (by rw [← g7.len]; exact h8)
        rw [hc0, hcl] at key
        refine hC t _ _ _ _ _ _ key (hK.one hs2 [] ⟨g1, g7, hn, hEn, hF, hM.arr (hi y 999 hw), ?_, by rw [stl_len]; exact hL, ?_⟩)
        · refine hH.set (hi y 999 hw) hX2 ⟨N', _, rfl, hN', ⟨zk, hzk, by rw [ez2, hz2]⟩, ?_, PRD_0⟩
          have := sgT_ok (f := f) (g := va_cpy f g 0 0 (ix zk)) sg 0 (by simpa using hsg) (fun j hj => by
            show (if 0 ≤ 0 + j ∧ 0 + j < 0 + ix zk then f (0 + (0 + j - 0)) else g (0 + j)) = _
            rw [if_pos ⟨Nat.zero_le _, by omega⟩]
            rw [show 0 + (0 + j - 0) = 0 + j by omega])
          simpa using this
        · exact hR.set hX2 ⟨rfl, rfl, fun q => absurd ⟨y, hw, rfl⟩ q⟩
      · cases hs
    · cases hs
  · cases hs
theorem tabs_ok {n : Nat} {env : List SE} {x : Nat} {z : Int32} {st' : List AV} {fs mm : List (Nat × Nat × Nat)} {H : List AC} {cst' : List PV} (hn : n = env.length) (hEn : EnvOK env ρ) (hF : FOK ρ fs) (hM : MOK lam ρ mm h) (hH : HOK lam ρ H h) (hL : H.length = NH) (hR : FRM lam W H0 h) (g1 : R2 (oRel lam ρ) ls cls) (g4 : R2 (vRel lam ρ) st' cst') (hz : val ρ x = some z) : ∀ (tl : List Nat) (j k q : Nat) (xs : List AX), x_tabs n env x ls st' fs mm H tl j = some xs → SUC lam W NH H0 K ρ xs → nth tl k = some q → ky z = j + k → K q cls cst' h := by
  intro tl
  induction tl with
  | nil => intro j k q xs hs hK hk; cases hk
  | cons r0 t0 ih =>
    intro j k q xs hs hK hk hz2
    have hs : oapp (match cmpT n env 0 x j with
      | some e => some [(r0, ls, st', (n, e, fs, mm, H))]
      | none => some []) (x_tabs n env x ls st' fs mm H t0 (Nat.succ j)) = some xs := hs
    obtain ⟨xa, xb, h1, h2, rfl⟩ := oapp_inv hs
    cases k with
    | zero =>
      have ho : r0 = q := by injection hk
      subst ho
      have hl := ky_lim z
      have hv : val ρ j = some z := by
        rw [val_c (by omega), ← kv_of (by omega)]
      obtain ⟨e, q1, q2, q3⟩ := cmpT_ok (o := 0) hn hEn hz hv (show z = z from rfl)
      rw [q1] at h1
      exact hK.l.one h1 [] ⟨g1, g4, q2, q3, hF, hM, hH, hL, hR⟩
    | succ k => exact ih (Nat.succ j) k q xb h2 hK.r hk (by omega)
theorem xo_tab (hC : CLO l G d own cc nL code K i0 pc) (hE : eOK own cc nL ret code (pc, 30, a, b, v, tg) (hpc (drp t code))) (hg : GST lam W NH H0 ρ ls st S cls cst h) (hK : SUC lam W NH H0 K ρ xs) (hs : x_tab a b tg ls st S = some xs) : K i0 cls cst h := by
  unfold x_tab at hs
  split at hs
  · rename_i x st'
    obtain ⟨n, env, fs, mm, H⟩ := S
    obtain ⟨g1, g2, hn, hEn, hF, hM, hH, hL, hR⟩ := hg
    obtain ⟨w1, cst1, rfl, ⟨z, hz, rfl⟩, g4⟩ := g2.uncons
    simp only at hs
    cases tg with
    | nil => cases hs
    | cons k tl =>
      obtain ⟨e1, hs2⟩ := bif_some hs
      clear hs
      simp only [Bool.and_eq_true, Nat.beq_eq, Nat.ble_eq, blt_t] at e1
      obtain ⟨c1, c2, c3⟩ := e1
      obtain ⟨xab, xc, h1, h2, rfl⟩ := oapp_inv hs2
      obtain ⟨xa, xb, h3, h4, rfl⟩ := oapp_inv h1
      have hti := ky_toInt z
      have hkl := ky_lim z
      have hva : ∀ q, q < 2147483648 → val ρ (2147483648 + q) = some (kv (2147483648 + q)) ∧ ky (kv (2147483648 + q)) = 2147483648 + q := by
        intro q hq
        exact ⟨val_c (by omega), ky_kv (by omega)⟩
      by_cases o1 : z.toInt < (a : Int)
      · refine hC k _ _ _ _ _ _ ((hE l G d h cls cst1 z).1 (Or.inl o1) k rfl) ?_
        obtain ⟨e, q1, q2, q3⟩ := cmpT_ok (o := 2) hn hEn hz (hva a (by omega)).1 (show ky z < _ by rw [(hva a (by omega)).2]; omega)
        rw [q1] at h3
        exact hK.l.l.one h3 [] ⟨g1, g4, q2, q3, hF, hM, hH, hL, hR⟩
      · by_cases o2 : (b : Int) < z.toInt
        · refine hC k _ _ _ _ _ _ ((hE l G d h cls cst1 z).1 (Or.inr o2) k rfl) ?_
          obtain ⟨e, q1, q2, q3⟩ := cmpT_ok (o := 2) hn hEn (hva b c3).1 hz (show _ < ky z by rw [(hva b c3).2]; omega)
          rw [q1] at h4
          exact hK.l.r.one h4 [] ⟨g1, g4, q2, q3, hF, hM, hH, hL, hR⟩
        · have hlt : (z.toInt - (a : Int)).toNat < tl.length := by omega
          have hn2 : nth tl (z.toInt - (a : Int)).toNat = some tl[(z.toInt - (a : Int)).toNat] := by rw [nth_eq]; exact List.getElem?_eq_getElem hlt
          refine hC _ _ _ _ _ _ _ ((hE l G d h cls cst1 z).2 (fun q => q.elim o1 o2) tl[(z.toInt - (a : Int)).toNat] hn2) ?_
          exact tabs_ok hn hEn hF hM hH hL hR g1 g4 hz tl _ _ _ xc h2 hK.r hn2 (by omega)
  · cases hs
end XQ
