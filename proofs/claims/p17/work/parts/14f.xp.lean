theorem val_ky {ρ : List Int32} (v : Int32) : val ρ (ky v) = some v := by rw [val_c (ky_lim v), ← kv_of rfl]
section XP
variable {lam : Nat → Nat} {W : List (Nat × Nat)} {NH : Nat} {H0 : PH} {l : Launch} {G : PG} {d : Nat} {own : String} {cc : ByteArray} {nL : Nat} {ret : Option FieldType} {code : List PO} {K : Nat → List (Option PV) → List PV → PH → Prop} {i0 t : Nat} {ρ : List Int32} {ls : AL} {st : List AV} {S : AS} {cls : List (Option PV)} {cst : List PV} {h : PH} {xs : List AX} {pc a b : Nat} {v : Int32} {tg : List Nat}
theorem vin_ix {z : Int32} {N : Nat} (h1 : ix z < N) (h2 : ix z < 2147483648) : vp_in z N ∧ z.toNatClampNeg = ix z := by
  have hp : pin z N = true := by
    unfold pin
    rw [Bool.and_eq_true, blt_t, blt_t]
    exact ⟨h2, h1⟩
  exact ⟨pin_ok hp, pin_ix hp⟩
theorem xo_iald (hC : CLO l G d own cc nL code K i0 pc) (hE : eOK own cc nL ret code (pc, 5, a, b, v, tg) (hpc (drp t code))) (hg : GST lam W NH H0 ρ ls st S cls cst h) (hK : SUC lam W NH H0 K ρ xs) (hs : x_iald t ls st S = some xs) : K i0 cls cst h := by
  unfold x_iald at hs
  split at hs
  · rename_i i x st'
    obtain ⟨n, env, fs, mm, H⟩ := S
    obtain ⟨g1, g2, hn, hEn, hF, hM, hH, hL, hR⟩ := hg
    obtain ⟨w0, cst0, rfl, ⟨z, hz, rfl⟩, g3⟩ := g2.uncons
    obtain ⟨x', cst', rfl, e1, g4⟩ := g3.uncons
    have e1 : x' = vR (lam x) := e1
    subst e1
    simp only at hs
    split at hs
    · rename_i ln p sg hx
      obtain ⟨e1, hs2⟩ := bif_some hs
      clear hs
      obtain ⟨y, hy, N, f, rfl, hN, hln, hsg, hprd⟩ := hH x _ hx
      have hin := inL_ok hn hEn hF hz hN hln e1
      have hv := vin_ix hin.1 hin.2.1
      have key := (hE l G d h cls cst').1 (lam x) N f z hy hv.1
      rw [hv.2] at key
      split at hs2
      · rename_i w hw
        obtain ⟨N', f', a', b', k1, k2, k3, k4⟩ := hM x i w (mmf_ok hw)
        rw [hy] at k1
        have k1 := Option.some.inj k1
        injection k1 with k1
        injection k1 with k1
        injection k1 with k0 k1
        injection k1 with k1 k1'
        subst k1'
        rw [hz] at k2
        have k2 := Option.some.inj k2
        subst k2
        exact hC t _ _ _ _ _ _ key (hK.one hs2 [] ⟨g1, ⟨⟨f (ix z), by rw [k4]; exact k3, rfl⟩, g4⟩, hn, hEn, hF, hM, hH, hL, hR⟩)
      · have hb := sgR_ok sg f _ _ _ hsg hin.2.2.2.1 hin.2.2.2.2
        generalize sgR sg (sb0 (bnd n env i).1) (sb0 (bnd n env i).2) = q at hs2 hb
        obtain ⟨lo, hi⟩ := q
        simp only at hs2
        revert hs2
        refine nsy_ok (P := fun o => o = some xs → K i0 cls (vI z :: vR (lam x) :: cst') h) hn hEn (lkl_ok hn hEn hM hy hprd hz hin.2.2.2.1 hin.2.2.2.2 hb) (fun q => absurd q (by decide)) ?_
        intro c n' env' τ e1 e2 e3 hs
        refine hC t _ _ _ _ _ _ key (hK.one hs τ ⟨g1.upo τ, ⟨⟨f (ix z), e3, rfl⟩, g4.upv τ⟩, e1, e2, hF.up τ, ?_, hH.up τ, hL, hR⟩)
        intro k' i' v' hm
        rcases List.mem_cons.mp hm with e | e
        · cases e
          exact ⟨N, f, z, f (ix z), hy, val_app τ hz, e3, rfl⟩
        · exact hM.up τ k' i' v' e
    · cases hs
  · cases hs
theorem xo_iast (hi : ∀ k j, (k, j) ∈ W → ∀ k', lam k = lam k' → k = k') (hC : CLO l G d own cc nL code K i0 pc) (hE : eOK own cc nL ret code (pc, 11, a, b, v, tg) (hpc (drp t code))) (hg : GST lam W NH H0 ρ ls st S cls cst h) (hK : SUC lam W NH H0 K ρ xs) (hs : x_iast t W ls st S = some xs) : K i0 cls cst h := by
  unfold x_iast at hs
  split at hs
  · rename_i zc i x st'
    obtain ⟨n, env, fs, mm, H⟩ := S
    obtain ⟨g1, g2, hn, hEn, hF, hM, hH, hL, hR⟩ := hg
    obtain ⟨w0, cst0, rfl, ⟨u, hu, rfl⟩, g3⟩ := g2.uncons
    obtain ⟨w1, cst1, rfl, ⟨z, hz, rfl⟩, g4⟩ := g3.uncons
    obtain ⟨x', cst', rfl, e1, g5⟩ := g4.uncons
    have e1 : x' = vR (lam x) := e1
    subst e1
    simp only at hs
    split at hs
    · rename_i ln p sg hx
      obtain ⟨e1, hs2⟩ := bif_some hs
      clear hs
      rw [Bool.and_eq_true] at e1
      have hw := memW_ok e1.2
      obtain ⟨y, hy, N, f, rfl, hN, hln, hsg, hprd⟩ := hH x _ hx
      have hin := inL_ok hn hEn hF hz hN hln e1.1
      have hv := vin_ix hin.1 hin.2.1
      have key := hE l G d h cls cst' (lam x) N f z u hy hv.1
      rw [hv.2] at key
      rw [frN_eq, frN_eq] at hs2
      have hub := bnd_ok hn hEn hu
      generalize bnd n env zc = q at hs2 hub
      obtain ⟨ul, uh⟩ := q
      simp only at hs2
      rw [frN_eq, frN_eq, frN_eq] at hs2
      have hl1 := hin.2.2.2.1
      have hl2 := hin.2.2.2.2
      generalize sb0 (bnd n env i).1 = il at hs2 hl1
      generalize sb0 (bnd n env i).2 = ih at hs2 hl2
      refine hC t _ _ _ _ _ _ key (hK.one hs2 [] ⟨g1, g5, hn, hEn, hF, ?_, ?_, by rw [stl_len]; exact hL, ?_⟩)
      · intro k' i' v' hm
        rcases List.mem_cons.mp hm with e | e
        · cases e
          exact ⟨N, upd f (ix z) u, z, u, List.getElem?_set_self (List.getElem?_eq_some_iff.mp hy).1, hz, hu, pk_us⟩
        · exact hM.arr (hi x 999 hw) k' i' v' e
      · refine hH.set (hi x 999 hw) hy ⟨N, _, rfl, hN, hln, ?_, ?_⟩
        · exact sgW_ok hub sg f il ih (ix z) hsg hl1 hl2 (fun q => Nat.eq_of_beq_eq_true q)
        · exact npd_ok hn hEn hM hy hprd hz hl1 hl2 hub
      · exact hR.set hy ⟨rfl, rfl, fun q => absurd ⟨x, hw, rfl⟩ q⟩
    · cases hs
  · cases hs
theorem xo_bin (hC : CLO l G d own cc nL code K i0 pc) (hE : eOK own cc nL ret code (pc, 6, a, b, v, tg) (hpc (drp t code))) (hg : GST lam W NH H0 ρ ls st S cls cst h) (hK : SUC lam W NH H0 K ρ xs) (hs : x_bin a t ls st S = some xs) (ha : a ≤ 8) : K i0 cls cst h := by
  unfold x_bin at hs
  split at hs
  · rename_i y x st'
    obtain ⟨n, env, fs, mm, H⟩ := S
    obtain ⟨g1, g2, hn, hEn, hF, hM, hH, hL, hR⟩ := hg
    obtain ⟨w0, cst0, rfl, ⟨zy, hy, rfl⟩, g3⟩ := g2.uncons
    obtain ⟨w1, cst1, rfl, ⟨zx, hx, rfl⟩, g4⟩ := g3.uncons
    have key := hE l G d h cls cst1 zx zy
    simp only at hs
    split at hs
    · rename_i j hj
      obtain ⟨e, h1, h2, h3, h4, h5⟩ := vnf_ok env 0 20 j hj
      rw [Nat.sub_zero] at h2
      obtain ⟨w, r, τ, k1, k2, k3⟩ := hEn.at h2
      obtain ⟨y1, y2, q1, q2, q3⟩ := k3.2 (by rw [h3]; exact ha)
      have hup : ∀ {q : Nat} {y : Int32}, val r q = some y → val ρ q = some y := by
        intro q y hq
        rw [k1, show τ ++ w :: r = (τ ++ [w]) ++ r by simp]
        exact val_app _ hq
      have q1 := hup q1; have q2 := hup q2
      rw [h4, hx] at q1; rw [h5, hy] at q2
      have q1 := Option.some.inj q1; have q2 := Option.some.inj q2
      subst q1; subst q2
      rw [h3] at q3
      have hlen : ρ.length = τ.length + 1 + r.length := by rw [k1]; simp; omega
      have hv : val ρ (4294967296 + (n - 1 - j)) = some (pbin a zx zy) := by
        rw [← q3, k1, show n - 1 - j = r.length by rw [hn, hEn.len, hlen, k2]; omega]
        exact val_app τ (val_new rfl)
      exact hC t _ _ _ _ _ _ key (hK.one hs [] ⟨g1, ⟨⟨_, hv, rfl⟩, g4⟩, hn, hEn, hF, hM, hH, hL, hR⟩)
    · have hb := ibin_ok (op := a) (bnd_ok hn hEn hx) (bnd_ok hn hEn hy)
      have hex : ∀ q : Nat × Nat, ibin a (bnd n env x).1 (bnd n env x).2 (bnd n env y).1 (bnd n env y).2 = q → a = 1 → 0 < q.1 → ky zy ≤ ky zx → 2147483648 ≤ ky (pbin a zx zy) := by
        intro q hq ha1 hq1 hle
        subst ha1
        unfold ibin at hq
        simp only at hq
        cases hc : (Nat.ble (bnd n env y).2 ((bnd n env x).1 + 2147483648) && Nat.blt ((bnd n env x).2 + 2147483648) (4294967296 + (bnd n env y).1)) with
        | false => rw [hc] at hq; simp only [cond_false] at hq; rw [← hq] at hq1; exact absurd hq1 (Nat.lt_irrefl 0)
        | true =>
          simp only [Bool.and_eq_true, Nat.ble_eq, blt_t] at hc
          have c1 := (bnd_ok hn hEn hx).1; have c2 := (bnd_ok hn hEn hx).2; have c3 := (bnd_ok hn hEn hy).1; have c4 := (bnd_ok hn hEn hy).2
          have := ky_sub (x := zx) (y := zy) (by omega) (by omega)
          show 2147483648 ≤ ky (zx - zy)
          omega
      generalize ibin a (bnd n env x).1 (bnd n env x).2 (bnd n env y).1 (bnd n env y).2 = q at hs hb hex
      obtain ⟨lo, hi⟩ := q
      simp only at hs
      have hb2 : inb (bif (Nat.beq a 1 && (Nat.blt lo 2147483648 && (Nat.blt 0 lo && fctQ fs 0 y x))) then 2147483648 else lo) hi (pbin a zx zy) := by
        cases hc : (Nat.beq a 1 && (Nat.blt lo 2147483648 && (Nat.blt 0 lo && fctQ fs 0 y x))) with
        | false => exact hb
        | true =>
          simp only [Bool.and_eq_true, Nat.beq_eq, blt_t] at hc
          obtain ⟨s', r1, r2⟩ := fctQ_ok hc.2.2.2
          obtain ⟨a', b', v1, v2, v3, v4⟩ := hF s' y x r2
          rw [hy] at v1; rw [hx] at v2
          have v1 := Option.some.inj v1; have v2 := Option.some.inj v2
          subst v1; subst v2
          exact ⟨hex _ rfl hc.1 hc.2.2.1 v3, hb.2⟩
      revert hs
      refine nsy_ok (P := fun o => o = some xs → K i0 cls (vI zy :: vI zx :: cst1) h) hn hEn hb2 (fun _ => ⟨zx, zy, hx, hy, rfl⟩) ?_
      intro c n' env' τ e1 e2 e3 hs
      exact hC t _ _ _ _ _ _ key (hK.one hs τ ⟨g1.upo τ, ⟨⟨_, e3, rfl⟩, g4.upv τ⟩, e1, e2, hF.up τ, hM.up τ, hH.up τ, hL, hR⟩)
  · cases hs
theorem xo_istore (hC : CLO l G d own cc nL code K i0 pc) (hE : eOK own cc nL ret code (pc, 7, a, b, v, tg) (hpc (drp t code))) (hg : GST lam W NH H0 ρ ls st S cls cst h) (hK : SUC lam W NH H0 K ρ xs) (hs : x_istore a t ls st S = some xs) : K i0 cls cst h := by
  unfold x_istore at hs
  split at hs
  · rename_i x st'
    obtain ⟨g1, g2, g3⟩ := hg
    obtain ⟨w0, cst0, rfl, ⟨z, hz, rfl⟩, g4⟩ := g2.uncons
    exact hC t _ _ _ _ _ _ (hE l G d h cls cst0 z) (hK.one hs [] ⟨g1.set ⟨_, rfl, z, hz, rfl⟩, g4, g3⟩)
  · cases hs
theorem xo_astore (hC : CLO l G d own cc nL code K i0 pc) (hE : eOK own cc nL ret code (pc, 31, a, b, v, tg) (hpc (drp t code))) (hg : GST lam W NH H0 ρ ls st S cls cst h) (hK : SUC lam W NH H0 K ρ xs) (hs : x_astore a t ls st S = some xs) : K i0 cls cst h := by
  unfold x_astore at hs
  split at hs
  · rename_i x st'
    obtain ⟨g1, g2, g3⟩ := hg
    obtain ⟨w0, cst0, rfl, e1, g4⟩ := g2.uncons
    have e1 : w0 = .inr (.inl (x.map lam)) := e1
    subst e1
    exact hC t _ _ _ _ _ _ (hE l G d h cls cst0 (x.map lam)) (hK.one hs [] ⟨g1.set ⟨_, rfl, rfl⟩, g4, g3⟩)
  · cases hs
theorem xo_inc {op kq : Nat} (hop : ∀ z, pbin op z v = z + v) (hvv : inb kq kq v) (hval : val ρ kq = some v) (hC : CLO l G d own cc nL code K i0 pc) (hE : eOK own cc nL ret code (pc, 8, a, b, v, tg) (hpc (drp t code))) (hg : GST lam W NH H0 ρ ls st S cls cst h) (hK : SUC lam W NH H0 K ρ xs) (hs : x_inc op a kq t ls st S = some xs) : K i0 cls cst h := by
  unfold x_inc at hs
  split at hs
  · rename_i x hc
    obtain ⟨n, env, fs, mm, H⟩ := S
    obtain ⟨g1, g2, hn, hEn, hF, hM, hH, hL, hR⟩ := hg
    obtain ⟨y, h1, y', rfl, z, hz, rfl⟩ := g1.get hc
    have hb := ibin_ok (op := op) (bnd_ok hn hEn hz) hvv
    simp only at hs
    generalize ibin op (bnd n env x).1 (bnd n env x).2 kq kq = q at hs hb
    obtain ⟨lo, hi⟩ := q
    simp only at hs
    revert hs
    refine nsy_ok (P := fun o => o = some xs → K i0 cls cst h) hn hEn hb (fun _ => ⟨z, v, hz, hval, rfl⟩) ?_
    intro c n' env' τ e1 e2 e3 hs
    rw [hop] at e3
    exact hC t _ _ _ _ _ _ (hE l G d h cls cst z h1) (hK.one hs τ ⟨(g1.upo τ).set ⟨_, rfl, _, e3, rfl⟩, g2.upv τ, e1, e2, hF.up τ, hM.up τ, hH.up τ, hL, hR⟩)
  · rename_i l0 h0 hc
    obtain ⟨n, env, fs, mm, H⟩ := S
    obtain ⟨g1, g2, hn, hEn, hF, hM, hH, hL, hR⟩ := hg
    obtain ⟨y, h1, y', rfl, z, rfl, hz⟩ := g1.get hc
    have hb := ibin_ok (op := op) hz hvv
    simp only at hs
    simp only at hb
    generalize ibin op l0 h0 kq kq = q at hs hb
    obtain ⟨lo, hi⟩ := q
    simp only at hs
    revert hs
    refine nsy_ok (P := fun o => o = some xs → K i0 cls cst h) hn hEn hb (fun q => absurd q (by decide)) ?_
    intro c n' env' τ e1 e2 e3 hs
    rw [hop] at e3
    exact hC t _ _ _ _ _ _ (hE l G d h cls cst z h1) (hK.one hs τ ⟨(g1.upo τ).set ⟨_, rfl, _, e3, rfl⟩, g2.upv τ, e1, e2, hF.up τ, hM.up τ, hH.up τ, hL, hR⟩)
  · cases hs
theorem xo_icmp (hC : CLO l G d own cc nL code K i0 pc) (hE : eOK own cc nL ret code (pc, 4, a, b, v, tg) (hpc (drp t code))) (hg : GST lam W NH H0 ρ ls st S cls cst h) (hK : SUC lam W NH H0 K ρ xs) (hs : x_icmp a b t ls st S = some xs) : K i0 cls cst h := by
  unfold x_icmp at hs
  split at hs
  · rename_i y x st'
    obtain ⟨n, env, fs, mm, H⟩ := S
    obtain ⟨g1, g2, hn, hEn, hF, hM, hH, hL, hR⟩ := hg
    obtain ⟨w0, cst0, rfl, ⟨zy, hy, rfl⟩, g3⟩ := g2.uncons
    obtain ⟨w1, cst1, rfl, ⟨zx, hx, rfl⟩, g4⟩ := g3.uncons
    simp only at hs
    obtain ⟨xa, xb, h1, h2, rfl⟩ := oapp_inv hs
    cases hb : pcmp b zx zy with
    | true =>
      refine hC a _ _ _ _ _ _ ((hE l G d h cls cst1 zx zy).1 hb) ?_
      revert h1
      refine brn_ok (P := fun o => o = some xa → K a cls cst1 h) hn hEn hF hx hy hb ?_
      intro e f e1 e2 e3 hs
      exact hK.l.one hs [] ⟨g1, g4, e1, e2, e3, hM, hH, hL, hR⟩
    | false =>
      refine hC t _ _ _ _ _ _ ((hE l G d h cls cst1 zx zy).2 hb) ?_
      revert h2
      refine brn_ok (P := fun o => o = some xb → K t cls cst1 h) hn hEn hF hx hy hb ?_
      intro e f e1 e2 e3 hs
      exact hK.r.one hs [] ⟨g1, g4, e1, e2, e3, hM, hH, hL, hR⟩
  · cases hs
theorem xo_if0 (hC : CLO l G d own cc nL code K i0 pc) (hE : eOK own cc nL ret code (pc, 10, a, b, v, tg) (hpc (drp t code))) (hg : GST lam W NH H0 ρ ls st S cls cst h) (hK : SUC lam W NH H0 K ρ xs) (hs : x_if0 a b t ls st S = some xs) : K i0 cls cst h := by
  unfold x_if0 at hs
  split at hs
  · rename_i x st'
    obtain ⟨n, env, fs, mm, H⟩ := S
    obtain ⟨g1, g2, hn, hEn, hF, hM, hH, hL, hR⟩ := hg
    obtain ⟨w1, cst1, rfl, ⟨zx, hx, rfl⟩, g4⟩ := g2.uncons
    have hy : val ρ 2147483648 = some 0 := by rw [val_c (by decide), ← kv_of ky0]
    simp only at hs
    obtain ⟨xa, xb, h1, h2, rfl⟩ := oapp_inv hs
    cases hb : pcmp b zx 0 with
    | true =>
      refine hC a _ _ _ _ _ _ ((hE l G d h cls cst1 zx).1 hb) ?_
      revert h1
      refine brn_ok (P := fun o => o = some xa → K a cls cst1 h) hn hEn hF hx hy hb ?_
      intro e f e1 e2 e3 hs
      exact hK.l.one hs [] ⟨g1, g4, e1, e2, e3, hM, hH, hL, hR⟩
    | false =>
      refine hC t _ _ _ _ _ _ ((hE l G d h cls cst1 zx).2 hb) ?_
      revert h2
      refine brn_ok (P := fun o => o = some xb → K t cls cst1 h) hn hEn hF hx hy hb ?_
      intro e f e1 e2 e3 hs
      exact hK.r.one hs [] ⟨g1, g4, e1, e2, e3, hM, hH, hL, hR⟩
  · cases hs
end XP
