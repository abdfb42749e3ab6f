/-! the text: a pair of calls -/
/-- what the class's text leaves, beside what the reference's will -/
def TEND (b nc nm : Nat) (kd : Int32) (f : Nat → FA) (zr : Nat → Int32) (r : Nat → FA) (v : Int32) (h' : PH) : Prop := ∃ (lam' lb' : Nat → Nat) (W' : TXW) (z' zp' : Nat → Int32) (fp' : Nat → FA) (zr' : Nat → Int32) (r' : Nat → FA), LIB lam' b nc nm h' ∧ WLD lb' W' z' f zr r nc nm h' ∧ Rep rdF h' (fun k => nc + (79 + k)) 4 (LPr zp' fp') h' ∧ zp' 1 = 0 ∧ mcall 11 280 [vR 0, vI kd] (LR zr r) = some (some (vI v), LR zr' r') ∧ zr' 12 = 0 ∧ zp' 7 = zr' 32 ∧ zp' 8 = zr' 33 ∧ CRE W' z' f zr' r' ∧ IMA b lb' W' nc (r 42) h' ∧ r' 42 = r 42 ∧ TWZ W' zr'
theorem TFF.rf (r : Nat → FA) : TFF r r := ⟨fun _ _ => rfl, fun _ _ _ _ _ => rfl, fun _ _ => ⟨rfl, rfl⟩, fun _ _ => rfl, fun _ _ => rfl, fun _ _ => rfl⟩
set_option maxHeartbeats 2000000 in
theorem text_pair (l : Launch) (G : PG) {nc nm : Nat} {h : PH} (hI : LIY PCW nc nm h) (kd : Int32) : ∃ Φ0, PMet l G yX11_text cX11_text 3 (some .int) 31 3 488 [vR nc, vI kd] h Φ0 ∧ ∀ rr h', Φ0 rr h' → ∃ v, rr = some (vI v) ∧ (∃ fs, h'[nm]? = some (eO 12 fs)) ∧ ∃ Φ1, PMet l G (mY 280) (mC 280) (mN 280) (mR 280) 11 0 0 [vR nm, vI kd] h' Φ1 ∧ ∀ r1 h1, Φ1 r1 h1 → r1 = some (vI v) ∧ LIY PCW nc nm h1 := by
  obtain ⟨lam, b, hB, lb, W, z, f, zr, r, hW, hC, ⟨zp, fp, tn, hRp, t1, t2, t3, t4, t5, t6⟩, hK, hZ⟩ := hI
  obtain ⟨hb, hl, h103, hTB, hM, hX, hx, hd⟩ := hB
  have hB : LIB lam b nc nm h := ⟨hb, hl, h103, hTB, hM, hX, hx, hd⟩
  obtain ⟨hL, hRw, hQ⟩ := hW
  have hW : WLD lb W z f zr r nc nm h := ⟨hL, hRw, hQ⟩
  have hC' := hC
  obtain ⟨L, n, nv, nw, ns, nt, c, k1, k2, k3, k4, k5, k6, k7, k8⟩ := hC'
  have hnv : nv ≤ 20 := k5.1.1.1
  have zv : z 22 = nI nv := k5.1.1.2.1.1
  have r6 : zr 6 = nI nv := k5.2.2.2.2
  have toks : pxA (fp 1) tn (tn + 1) 0 = pxA (r 8) tn (tn + 1) 0 := pxA_e (fun j hj => (t4 j hj).1) _ _
  have hH : HOK lam [] TCl h := TB_TC (by omega) hTB
  have hlp : (fun k => nc + (79 + k)) 0 = lam 79 := (h103 79 (by decide)).symm
  have hi : LbI (fun k => nc + (79 + k)) 4 := fun i _ j _ e => by
    have e : nc + (79 + i) = nc + (79 + j) := e
    omega
  have p1 := rt_both l G hl hH hlp hi hRp t2 t1 hnv (kd := kd)
  rw [toks] at p1
  have b0 : lb 0 = nc := hL.2.1 0 (by decide)
  have ne : ∀ i j, i < 42 → j < 42 → i ≠ j → lb i ≠ lb j := fun i j h1 h2 h3 q => h3 (hL.1 i (by omega) j (by omega) q)
  have mt := fun k (hk : k < 4) => mt_all hk k8 t3 t1 (fun j hj => (t4 j hj).2) r6 hnv
  have sames : ∀ {h'' : PH} {z'' : Nat → Int32} {f'' : Nat → FA}, Rep rdF h (fun k => nc + (79 + k)) 4 (LPr z'' f'') h'' → HOK lam [] TCl h'' → LIB lam b nc nm h'' ∧ WLD lb W z f zr r nc nm h'' ∧ IMA b lb W nc (r 42) h'' := fun {h'' z'' f''} q q0 => by
    have s1 : ∀ a, (∀ k, k < 4 → a ≠ nc + (79 + k)) → h''[a]? = h[a]? := q.2.2.2
    have sm : ∀ j, j < 43 → h''[nm + j]? = h[nm + j]? := fun j hj => s1 _ (fun i hi e => tp_nm h103 hd i hi j hj e.symm)
    have g1 : ∀ i, i < 42 + (wL W).length → h''[lb i]? = h[lb i]? := fun i hi => s1 _ (fun j hj e => hL.tp i hi j hj e.symm)
    have e0 : lam 0 = lb 0 := (h103 0 (by decide)).trans b0.symm
    exact ⟨lib_txt hB hl q0 (fun _ _ => rfl) hd sm (by rw [e0]; exact g1 0 (by omega)), ⟨hL, hRw.same g1, hQ.same (fun k hk => sm k hk)⟩, hK.tr (fun q hq => s1 _ (fun i hi => by have := im_tp q hq; omega)) (fun _ _ => rfl)⟩
  have key : PMet l G yX11_text cX11_text 3 (some .int) 31 3 488 [vR (lb 0), vI kd] h (fun rr h' => ∃ v, rr = some (vI v) ∧ TEND b nc nm kd f zr r v h') := by
    refine text_h l G hRp (c0 := lb 0) (c1 := lb 1) (c2 := lb 2) (c7 := lb 7) (c59 := lb 12) (y := nI nv) (w := fun j => (wX W j).map lb) (fs59 := [vR (lb 13), vI (z 122), vI (z 123)]) (hRw.2.1 0 _ rfl) rfl rfl ?_ (hRw.2.1 1 _ rfl) rfl rfl (hRw.2.1 2 _ rfl) ?_ (hRw.2.1 7 _ rfl) (hRw.2.1 12 _ rfl) (by show 2 < 3; decide) (fun k hk => ⟨fun q => hL.tp 0 (by omega) k hk q.symm, fun q => hL.tp 1 (by omega) k hk q.symm, fun q => hL.tp 2 (by omega) k hk q.symm, fun q => hL.tp 7 (by omega) k hk q.symm, fun q => hL.tp 12 (by omega) k hk q.symm⟩) (ne 7 0 (by decide) (by decide) (by decide)) (ne 7 12 (by decide) (by decide) (by decide)) p1 (fun h' q => ?_) (fun h1 cnt N g M hh q => ?_)
    · show some (vR (lb (wK W + 1))) = some (vR (nc + (79 + 0)))
      rw [show lb (wK W + 1) = nc + 79 from hL.2.2.1 1 (by decide)]
    · show some (vI (z 22)) = some (vI (nI nv))
      rw [zv]
    · obtain ⟨q0, z', f', q1, q2, q3⟩ := q
      obtain ⟨s1, s2, s3⟩ := sames q1 q0
      rcases q3 with ⟨c1, c2, c3⟩ | ⟨k, e, c1, rfl, c3, c4, c5⟩
      · refine ⟨-1, rfl, lam, lb, W, z, z', f', _, _, s1, s2, q1.rf, q2, mtx_no (d := 0) (fun q => c1 ⟨q.1, by omega⟩), uZ_s, ?_, ?_, hC.bad ((TZF.t0 zr).u (k := 12) (by decide)) ?_ ?_ ?_ (TFF.rf r), s3, rfl, hZ.le ?_ ?_⟩
        · rw [c2, uZ_n (by decide)]
          exact t0_32.1.symm
        · rw [c3, uZ_n (by decide)]
          exact t0_32.2.symm
        · rw [uZ_n (by decide)]
          exact t0_k (by decide)
        · rw [uZ_n (by decide)]
          exact t0_k (by decide)
        · rw [uZ_n (by decide)]
          exact t0_k (by decide)
        · rw [uZ_n (by decide)]
          exact t0_k (by decide)
        · rw [uZ_n (by decide), t0_k (by decide)]
          exact Int.le_refl _
      · have m := mt k c1
        rw [c3] at m
        obtain ⟨zr', r', m1, m2, m3, m4, m5, m6, m7, m8, m9, m10⟩ := m
        exact ⟨-1, rfl, lam, lb, W, z, z', f', zr', r', s1, s2, q1.rf, q2, m1, m3, c4.trans m4.symm, c5.trans m5.symm, hC.bad m2 m6 m7 m8 m10, s3, m10.1 42 (Or.inr (by decide)), hZ.le m9 (by rw [m2 6 (by decide)]; exact Int.le_refl _)⟩
    · obtain ⟨q0, z', f', k, q1, q2, q3, q4, hk, rfl, q7⟩ := q
      have m := mt k hk
      rw [q7.ptx] at m
      obtain ⟨zr', r', m1, m2, m3, m4, m5, m6, m7⟩ := m
      obtain ⟨c1, c2, c3⟩ := q7.le
      obtain ⟨lam', lb', d1, d2, d3, d10⟩ := txt_heap (g := g) (hh := hh) hB hW hk k1 k2 c1 c2 c3 q0 q1
      refine ⟨k, hk, rfl, nI cnt, rfl, lam', lb', _, _, z', f', zr', r', d1, d2, d3, q2, m1, m4, q3.trans m5.symm, q4.trans m6.symm, hC.good r6 hnv hk q7 m7 m3, d10 _ hK, ?_, hZ.good r6 hnv q7 m7 (m3 6 (by decide))⟩
      rcases m7 with ⟨-, L1, -, -, -, g4, -⟩ | ⟨-, L1, f1, -, -, rfl, g4, -⟩ | ⟨-, L1, f1, -, -, rfl, g4, -⟩ | ⟨-, L1, f1, -, -, rfl, g4, -⟩
      · exact g4 42 (Or.inr (by decide))
      · exact (uA_ne (by decide)).trans (g4.1 42 (Or.inr (by decide)))
      · exact (uA_ne (by decide)).trans (g4.1 42 (Or.inr (by decide)))
      · exact (uA_ne (by decide)).trans (g4.1 42 (Or.inr (by decide)))
  rw [b0] at key
  refine ⟨_, key, ?_⟩
  rintro rr h' ⟨v, rfl, lam', lb', W', z', zp', fp', zr', r', d1, d2, d3, d4, d5, d6, d7, d8, d9, d10, d11, d12⟩
  exact ⟨v, rfl, md_of d1.2.2.2.2.1, ref_text l G d1 d2 d3 d4 d5 d6 d7 d8 d9 d10 d11 d12⟩
