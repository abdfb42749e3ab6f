/-! the text on the machine: both sides, one call after the other -/
theorem TB_same {lam lam' : Nat → Nat} {h h' : PH} {b : Nat} (hH : HOK lam [] (TBc b) h) (hH' : HOK lam' [] TCl h') (e0 : lam' 0 = lam 0) (hs : h'[lam 0]? = h[lam 0]?) : HOK lam' [] (TBc b) h' := by
  obtain ⟨b', hb', hT'⟩ := TB_ex hH'
  obtain ⟨x, hx, xs, rfl, rr⟩ := hH 0 _ rfl
  obtain ⟨y, gy, z, rfl, hz⟩ := R2.get (j := 2) rr rfl
  obtain ⟨x', hx', xs', rfl, rr'⟩ := hT' 0 _ rfl
  obtain ⟨y', gy', z', rfl, hz'⟩ := R2.get (j := 2) rr' rfl
  rw [e0, hs, hx] at hx'
  cases hx'
  rw [gy] at gy'
  cases gy'
  have h1 : 2147483648 + b ≤ ky z ∧ ky z ≤ 2147483648 + b := hz
  have h2 : 2147483648 + b' ≤ ky z ∧ ky z ≤ 2147483648 + b' := hz'
  obtain rfl : b = b' := by omega
  exact hT'
theorem lib_txt {lam lam' : Nat → Nat} {b nc nm : Nat} {h h' : PH} (hB : LIB lam b nc nm h) (hl : LAMC lam') (hH : HOK lam' [] TCl h') (h103 : ∀ k, k < 103 → lam' k = lam k) (hd : ∀ k j, j < 43 → lam' k ≠ nm + j) (hs : ∀ j, j < 43 → h'[nm + j]? = h[nm + j]?) (h0 : h'[lam 0]? = h[lam 0]?) : LIB lam' b nc nm h' := by
  obtain ⟨b1, b2, b3, b4, b5, b6, b7, b8⟩ := hB
  refine ⟨b1, hl, fun k hk => (h103 k hk).trans (b3 k hk), TB_same b4 hH (h103 0 (by decide)) h0, b5.same (fun k hk => hs k (by rw [TRf_len] at hk; exact hk)), ?_, ?_, hd⟩
  · obtain ⟨g, g1, g2⟩ := b6
    exact ⟨g, fun q hq => (hs q (XR_lt q hq)).trans (g1 q hq), g2⟩
  · obtain ⟨c, fs, g1, g2⟩ := b7
    exact ⟨c, fs, (hs 0 (by decide)).trans g1, g2⟩
theorem MTo.mono {d k : Nat} {z : Nat → Int32} {f : Nat → FA} {p : (Nat × Nat) ⊕ Nat} {G G' : (Nat → Int32) → (Nat → FA) → Prop} (h : MTo d k z f p G) (hG : ∀ z' f', G z' f' → G' z' f') : MTo d k z f p G' := by
  cases p with
  | inl e => exact h
  | inr n =>
    obtain ⟨z', f', h1, h2, h3, h4, h5, h6, h7⟩ := h
    exact ⟨z', f', h1, h2, h3, h4, h5, h6, hG _ _ h7⟩
theorem mt_all {k n m : Nat} {z : Nat → Int32} {f : Nat → FA} (hk : k < 4) (hY : pxY (f 9) 0 pxV = true) (h12 : z 12 = nI n) (hn : n ≤ 400) (hb : ∀ j, j < n → ¬ f 8 j = -1) (h6 : z 6 = nI m) (hm : m ≤ 20) : MTo 0 k z f (PTX k m (pxA (f 8) n (n + 1) 0)) (fun z' f' => RGt k m (pxA (f 8) n (n + 1) 0) z f z' f') := by
  rcases (show k = 0 ∨ k = 1 ∨ k = 2 ∨ k = 3 by omega) with rfl | rfl | rfl | rfl
  · exact (mtext0 0 rfl hY h12 hn hb).mono (fun z' f' h => Or.inl ⟨rfl, h⟩)
  · exact (mtext1 0 rfl hY h12 hn hb h6 hm).mono (fun z' f' h => Or.inr (Or.inl ⟨rfl, h⟩))
  · exact (mtext2 0 rfl hY h12 hn hb h6 hm).mono (fun z' f' h => Or.inr (Or.inr (Or.inl ⟨rfl, h⟩)))
  · exact (mtext3 0 rfl hY h12 hn hb h6 hm).mono (fun z' f' h => Or.inr (Or.inr (Or.inr ⟨rfl, h⟩)))
theorem TGc.ptx {k m : Nat} {ts : List TT} {cnt N : Nat} {g : FA} {M : Nat} {hh : FA} (h : TGc k m ts cnt N g M hh) : PTX k m ts = .inr cnt := by
  rcases h with ⟨rfl, L, g0, h0, h1, rfl, -⟩ | ⟨hk, L, g0, h1, rfl, -⟩
  · show (if (0 : Nat) = 0 then pcnt _ else _) = _
    rw [if_pos rfl, h1]
    rfl
  · show (if k = 0 then pcnt _ else _) = _
    rw [if_neg (by omega), h1]
    rfl
/-- the reference's text, behind the class's -/
theorem ref_text (l : Launch) (G : PG) {lam lb : Nat → Nat} {b nc nm : Nat} {h : PH} {W : TXW} {z zr zr' zp : Nat → Int32} {f r r' fp : Nat → FA} {kd v : Int32} (hB : LIB lam b nc nm h) (hW : WLD lb W z f zr r nc nm h) (hRp : Rep rdF h (fun k => nc + (79 + k)) 4 (LPr zp fp) h) (p1 : zp 1 = 0) (hr : mcall 11 280 [vR 0, vI kd] (LR zr r) = some (some (vI v), LR zr' r')) (e12 : zr' 12 = 0) (e32 : zp 7 = zr' 32) (e33 : zp 8 = zr' 33) (hC : CRE W z f zr' r') (hK : IMA b lb W nc (r 42) h) (e42 : r' 42 = r 42) (hZ : TWZ W zr') : ∃ Φ1, PMet l G (mY 280) (mC 280) (mN 280) (mR 280) 11 0 0 [vR nm, vI kd] h Φ1 ∧ ∀ r1 h1, Φ1 r1 h1 → r1 = some (vI v) ∧ LIY PCW nc nm h1 := by
  obtain ⟨hb, hl, h103, hTB, hM, hX, hx, hd⟩ := hB
  obtain ⟨hL, hRw, hQ⟩ := hW
  obtain ⟨rv, z2, f2, c2, b1, b2, b3, b4, b5⟩ := text_y 0 kd (BNDz_of hM hQ) (BNDf_of hM hQ) (EXR_F hX hQ)
  have eq := Option.some.inj (hr.symm.trans c2)
  have eL : LR zr' r' = LR z2 f2 := congrArg (fun p => p.2) eq
  refine ⟨_, pm_of (lamM_i nm) hr hQ (l := l) (G := G), ?_⟩
  rintro r1 h1 ⟨rfl, w⟩
  have w2 : Rep rdF h (lamM nm) 43 (LR z2 f2) h1 := by rw [← eL]; exact w
  have s : ∀ a, (∀ j, j < 43 → a ≠ nm + j) → h1[a]? = h[a]? := fun a ha => w.2.2.2 a ha
  have e73 : z2 73 = nI b := (b4.1 73 (by decide)).trans (FLD.inj (F73_R hQ) hx)
  refine ⟨rfl, lam, b, ⟨hb, hl, h103, hTB.same (fun k _ => s _ (fun j hj => hd k j hj)), HOK_of w2 b1 b2, EXR_R b3 w2, by rw [← e73]; exact F73_R w2, hd⟩, lb, W, z, f, zr', r', ⟨hL, hRw.same (fun k hk => s _ (fun j hj e => hL.nm h103 hd k hk j hj e.symm)), w.same (fun _ _ => rfl)⟩, hC, ⟨zp, fp, 0, hRp.same (fun k hk => s _ (fun j hj => tp_nm h103 hd k hk j hj)), by decide, p1, e12, fun j hj => absurd hj (Nat.not_lt_zero j), e32, e33⟩, hK.tr (fun q hq => s _ (fun j hj => im_nm h103 hd q hq j hj)) (fun p _ => by rw [e42]), hZ⟩
