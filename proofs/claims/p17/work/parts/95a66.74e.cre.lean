/-! a text was read on both sides: the core's relation again -/
theorem RLn.tff {nv : Nat} {z z' zr zr' : Nat → Int32} {f r r' : Nat → FA} (h : RLn nv z f zr r) (hz : ∀ j, j ≠ 123 → z' j = z j) (h5 : zr' 5 = zr 5) (hr : ∀ k, k < 10 → r' k = r k) : RLn nv z' f zr' r' := by
  obtain ⟨⟨hn, hs, ht, hm, hc⟩, hb, h0⟩ := h
  have e1 := hr 1 (by decide)
  have e4 := hr 4 (by decide)
  have e5 := hr 5 (by decide)
  have e6 := hr 6 (by decide)
  have q : CRL 2 nv z f r' := ⟨hn, by rw [e1]; exact hs, by rw [e1, e4, e5, e6]; exact ht, by rw [e1]; exact hm, by rw [e1]; exact hc⟩
  exact ⟨CRo.st (c := 2) q (fun i h1 h2 => hz _ (by omega)) rfl rfl, fun j hj => by rw [hr 7 (by decide)]; exact hb j hj, h5.trans h0⟩
theorem LRM.tff {L : LAW} {n : Nat} {r r' : Nat → FA} (h : LRM r L n) (h10 : r' 10 = r 10) (h1 : ∀ k j, 11 ≤ k → k ≤ 14 → j < 32 → r' k j = r k j) (h2 : ∀ j, j < 800 → r' 15 j = r 15 j ∧ r' 16 j = r 16 j) : LRM r' L n := by
  obtain ⟨h16, h0, hl⟩ := h
  refine ⟨h16, by rw [h10]; exact h0, fun i hi => ?_⟩
  obtain ⟨a, b, c, q1, q2, q3, q4, q5, q6, q7, q8⟩ := hl i hi
  have b1 := tkR_le _ _ _ _ _ q7
  have b2 := tkR_le _ _ _ _ _ q8
  exact ⟨a, b, c, q1, (h1 11 i (by decide) (by decide) (by omega)).trans q2, (h1 12 i (by decide) (by decide) (by omega)).trans q3, (h1 13 i (by decide) (by decide) (by omega)).trans q4, (h1 14 i (by decide) (by decide) (by omega)).trans q5, q6, tkR_lo _ _ _ (fun k _ hk => h2 k (by omega)) q7, tkR_lo _ _ _ (fun k _ hk => h2 k (by omega)) q8⟩
theorem WYR.tff {W : TXW} {nv nw : Nat} {zr zr' : Nat → Int32} {g g' : FA} (h : WYR W nv nw zr g) (hz : zr' 34 = zr 34) (hg : ∀ j, j < 48 → g' j = g j) : WYR W nv nw zr' g' := by
  obtain ⟨h1, h2, h3, h4, h5⟩ := h
  refine ⟨h1, h2, h3, hz.trans h4, fun i hi => ?_⟩
  obtain ⟨v, a, q⟩ := h5 i hi
  refine ⟨v, a, ?_⟩
  rw [hg (3 * i) (by omega), hg (3 * i + 1) (by omega), hg (3 * i + 2) (by omega)]
  exact q
theorem SKR.tff {W : TXW} {nv ns : Nat} {zr zr' : Nat → Int32} {g g' : FA} (h : SKR W nv ns zr g) (hz : zr' 36 = zr 36) (hg : ∀ j, j < 80 → g' j = g j) : SKR W nv ns zr' g' := by
  obtain ⟨h1, h2, h3, h4, h5⟩ := h
  refine ⟨h1, h2, h3, hz.trans h4, fun i hi => ?_⟩
  have q := h5 i hi
  rw [hg (5 * i) (by omega), hg (5 * i + 1) (by omega), hg (5 * i + 2) (by omega), hg (5 * i + 3) (by omega), hg (5 * i + 4) (by omega)]
  exact q
theorem TWR.tff {W : TXW} {nt : Nat} {g g' : FA} (h : TWR W nt g) (hg : ∀ j, j < 20 → g' j = g j) : TWR W nt g' := ⟨h.1, h.2.1, h.2.2.1, fun v hv => (hg v hv).trans (h.2.2.2 v hv)⟩
theorem RGA.tff {c k nv : Nat} {z zr zr' : Nat → Int32} {f r r' : Nat → FA} (h : RGA c c k nv z f zr r) (h3 : zr' 3 = zr 3) (hr : ∀ k, k < 10 → r' k = r k) : RGA c c k nv z f zr' r' := by
  obtain ⟨p, a1, a2, a3, a4, a5, a6, a7, a8, a9⟩ := h
  refine ⟨p, a1, a2, a3, a4, a5, a6, a7, h3.trans a8, fun i hi => ?_⟩
  rw [hr 2 (by decide), hr 4 (by decide), hr 5 (by decide), hr 6 (by decide)]
  exact a9 i hi
section NWQ
variable {W : TXW} {k cnt N M : Nat} {g hh : FA} {j : Nat}
theorem nw_ne (c : j ≠ k) : wn (nwW W k cnt N g M hh) j = wn W j ∧ wN (nwW W k cnt N g M hh) j = wN W j ∧ wg (nwW W k cnt N g M hh) j = wg W j ∧ wM (nwW W k cnt N g M hh) j = wM W j ∧ wh (nwW W k cnt N g M hh) j = wh W j := by
  have e4 : (nwW W k cnt N g M hh).2.2.2.2.1 j = (wN W j, wg W j) := if_neg c
  have e5 : (nwW W k cnt N g M hh).2.2.2.2.2 j = (wM W j, wh W j) := if_neg c
  exact ⟨if_neg c, congrArg (fun p => p.1) e4, congrArg (fun p => p.2) e4, congrArg (fun p => p.1) e5, congrArg (fun p => p.2) e5⟩
theorem nw_eq (c : j = k) : wn (nwW W k cnt N g M hh) j = nI cnt ∧ wN (nwW W k cnt N g M hh) j = N ∧ wg (nwW W k cnt N g M hh) j = g ∧ wM (nwW W k cnt N g M hh) j = M ∧ wh (nwW W k cnt N g M hh) j = hh := by
  have e4 : (nwW W k cnt N g M hh).2.2.2.2.1 j = (N, g) := if_pos c
  have e5 : (nwW W k cnt N g M hh).2.2.2.2.2 j = (M, hh) := if_pos c
  exact ⟨if_pos c, congrArg (fun p => p.1) e4, congrArg (fun p => p.2) e4, congrArg (fun p => p.1) e5, congrArg (fun p => p.2) e5⟩
theorem LWC.nw {L : LAW} {n : Nat} (h : LWC W 0 L n) (c : 0 ≠ k) : LWC (nwW W k cnt N g M hh) 0 L n := by
  obtain ⟨e1, e2, e3, e4, e5⟩ := nw_ne (W := W) (cnt := cnt) (N := N) (M := M) (g := g) (hh := hh) c
  unfold LWC at h ⊢
  rw [e1, e2, e3, e4, e5]
  exact h
theorem WYR.nw {nv nw : Nat} {zr : Nat → Int32} {q : FA} (h : WYR W nv nw zr q) (c : 1 ≠ k) : WYR (nwW W k cnt N g M hh) nv nw zr q := by
  obtain ⟨e1, e2, e3, -⟩ := nw_ne (W := W) (cnt := cnt) (N := N) (M := M) (g := g) (hh := hh) c
  unfold WYR at h ⊢
  rw [e1, e2, e3]
  exact h
theorem SKR.nw {nv ns : Nat} {zr : Nat → Int32} {q : FA} (h : SKR W nv ns zr q) (c : 2 ≠ k) : SKR (nwW W k cnt N g M hh) nv ns zr q := by
  obtain ⟨e1, e2, e3, -⟩ := nw_ne (W := W) (cnt := cnt) (N := N) (M := M) (g := g) (hh := hh) c
  unfold SKR at h ⊢
  rw [e1, e2, e3]
  exact h
theorem TWR.nw {nt : Nat} {q : FA} (h : TWR W nt q) (c : 3 ≠ k) : TWR (nwW W k cnt N g M hh) nt q := by
  obtain ⟨e1, e2, e3, -⟩ := nw_ne (W := W) (cnt := cnt) (N := N) (M := M) (g := g) (hh := hh) c
  unfold TWR at h ⊢
  rw [e1, e2, e3]
  exact h
end NWQ
/-- what the reference keeps of a text -/
def RGt (k m : Nat) (ts : List TT) (zr : Nat → Int32) (r : Nat → FA) (zr' : Nat → Int32) (r' : Nat → FA) : Prop := (k = 0 ∧ ∃ L, pG 18 0 ts = .inr L ∧ LRM r' (pLAW L) L.length ∧ LOK (pLAW L) L.length ∧ (∀ k, (k < 10 ∨ 17 < k) → r' k = r k) ∧ zr' 3 = zr 3 ∧ zr' 34 = zr 34 ∧ zr' 36 = zr 36 ∧ zr' 38 = zr 38)
  ∨ (k = 1 ∧ ∃ L f1, pXL 1 m 18 0 ts = .inr L ∧ pLw m (f1 18) 0 L ∧ r' = uA f1 18 (cpr (f1 18) 48 (3 * L.length)) ∧ TFF r f1 ∧ zr' 3 = 0 ∧ zr' 34 = nI L.length ∧ zr' 36 = zr 36 ∧ zr' 38 = zr 38)
  ∨ (k = 2 ∧ ∃ L f1, pXL 2 m 18 0 ts = .inr L ∧ pLs m (f1 19) 0 L ∧ r' = uA f1 19 (cpr (f1 19) 80 (5 * L.length)) ∧ TFF r f1 ∧ zr' 3 = 0 ∧ zr' 36 = nI L.length ∧ zr' 34 = zr 34 ∧ zr' 38 = zr 38)
  ∨ (k = 3 ∧ ∃ L f1, pXL 3 m 18 0 ts = .inr L ∧ pLt m (tw0 (r 20) 20) L (f1 20) ∧ r' = uA f1 20 (cpr (f1 20) 20 20) ∧ TFF r f1 ∧ zr' 3 = zr 3 ∧ zr' 34 = zr 34 ∧ zr' 36 = zr 36 ∧ zr' 38 = nI L.length)
theorem CRE.bad {W : TXW} {z zr zr' : Nat → Int32} {f r r' : Nat → FA} (h : CRE W z f zr r) (hz : TZF zr zr') (h3 : zr' 3 = zr 3) (h34 : zr' 34 = zr 34) (h36 : zr' 36 = zr 36) (hf : TFF r r') : CRE W z f zr' r' := by
  obtain ⟨L, n, nv, nw, ns, nt, c, k1, k2, k3, k4, ⟨a1, a2, a3, a4, a5⟩, k6, k7, k8⟩ := h
  have lo : ∀ k, k < 10 → r' k = r k := fun k hk => hf.1 k (by omega)
  exact ⟨L, n, nv, nw, ns, nt, c, k1, k2, k3, k4, ⟨a1.tff (fun _ _ => rfl) (hz 5 (by decide)) lo, a2.tff (hf.1 10 (by omega)) hf.2.1 hf.2.2.1, a3.tff h34 hf.2.2.2.1, a4.tff h36 hf.2.2.2.2.1, (hz 6 (by decide)).trans a5⟩, k6.tff h3 lo, k7.tff hf.2.2.2.2.2, by rw [lo 9 (by decide)]; exact k8⟩
theorem CRE.good {W : TXW} {z zr zr' : Nat → Int32} {f r r' : Nat → FA} {k m cnt N M : Nat} {ts : List TT} {g hh : FA} (h : CRE W z f zr r) (h6 : zr 6 = nI m) (hm : m ≤ 20) (hk : k < 4) (hT : TGc k m ts cnt N g M hh) (hG : RGt k m ts zr r zr' r') (hz : TZF zr zr') : CRE (nwW W k cnt N g M hh) (if k = 1 ∨ k = 2 then uZ z 123 0 else z) f zr' r' := by
  obtain ⟨L, n, nv, nw, ns, nt, c, k1, k2, k3, k4, ⟨a1, a2, a3, a4, a5⟩, k6, k7, k8⟩ := h
  have hnv : nv ≤ 20 := a1.1.1
  obtain rfl : nv = m := nI_inj (by omega) (by omega) (a5.symm.trans h6)
  have w1 := nw_WTX (k := k) (cnt := cnt) (N := N) (g := g) (M := M) (hh := hh) k1
  have w2 := nw_WTL (cnt := cnt) (N := N) (g := g) (M := M) (hh := hh) hk k2
  have z5 := hz 5 (by decide)
  have z6 : zr' 6 = nI nv := (hz 6 (by decide)).trans a5
  have n1 : ∀ w, w < 400 → (∀ j, j ≠ 123 → uZ z 123 0 j = z j) := fun _ _ j hj => uZ_n hj
  rcases hG with ⟨rfl, L1, g1, g2, g3, g4, g5, g6, g7, g8⟩ | ⟨rfl, L1, f1, g1, g2, rfl, g4, g5, g6, g7, g8⟩ | ⟨rfl, L1, f1, g1, g2, rfl, g4, g5, g6, g7, g8⟩ | ⟨rfl, L1, f1, g1, g2, rfl, g4, g5, g6, g7, g8⟩
  · rcases hT with ⟨-, L2, g0, h0, t1, t2, t3, t4, t5, t6, t7, t8, t9, t10⟩ | ⟨t1, -⟩
    · cases g1.symm.trans t1
      obtain ⟨e1, e2, e3, e4, e5⟩ := nw_eq (W := W) (k := 0) (cnt := cnt) (N := N) (M := M) (g := g) (hh := hh) (j := 0) rfl
      have lo : ∀ k, k < 10 → r' k = r k := fun k hk => g4 k (Or.inl hk)
      have hi : ∀ k, 17 < k → r' k = r k := fun k hk => g4 k (Or.inr hk)
      rw [if_neg (by decide)]
      refine ⟨pLAW L1, L1.length, nv, nw, ns, nt, c, w1, w2, LWC_of t5 t6 t7 t8 (fun i hi => ?_) (by rw [e1, t2]) (by rw [e2, t3]) (by rw [e4, t4]) (by rw [e3, t9]) (by rw [e5, t10]), g3, ⟨a1.tff (fun _ _ => rfl) z5 lo, g2, (a3.tff g6 (fun j _ => by rw [hi 18 (by decide)])).nw (by decide), (a4.tff g7 (fun j _ => by rw [hi 19 (by decide)])).nw (by decide), z6⟩, k6.tff g5 lo, (k7.tff (fun j _ => by rw [hi 20 (by decide)])).nw (by decide), by rw [lo 9 (by decide)]; exact k8⟩
      obtain ⟨a, b, c', q1, -⟩ := g2.2.2 i hi
      exact q1
    · omega
  · rcases hT with ⟨t1, -⟩ | ⟨-, L2, g0, t1, t2, t3, t4, t5, t6, t7⟩
    · omega
    · cases g1.symm.trans t1
      obtain ⟨e1, e2, e3, e4, e5⟩ := nw_eq (W := W) (k := 1) (cnt := cnt) (N := N) (M := M) (g := g) (hh := hh) (j := 1) rfl
      have lo : ∀ k, k < 10 → uA f1 18 (cpr (f1 18) 48 (3 * L1.length)) k = r k := fun k hk => by rw [uA_ne (by omega)]; exact g4.1 k (by omega)
      have q18 : ∀ k, k ≠ 18 → uA f1 18 (cpr (f1 18) 48 (3 * L1.length)) k = f1 k := fun k hk => uA_ne hk
      rw [if_pos (Or.inl rfl)]
      refine ⟨L, n, nv, L1.length, ns, nt, 0, w1, w2, k3.nw (by decide), k4, ⟨a1.tff (fun j hj => uZ_n hj) z5 lo, a2.tff (by rw [q18 10 (by decide)]; exact g4.1 10 (by omega)) (fun k j p1 p2 p3 => by rw [q18 k (by omega)]; exact g4.2.1 k j p1 p2 p3) (fun j hj => by rw [q18 15 (by decide), q18 16 (by decide)]; exact g4.2.2.1 j hj), ?_, (a4.tff g7 (fun j hj => by rw [q18 19 (by decide)]; exact g4.2.2.2.2.1 j hj)).nw (by decide), z6⟩, k6.forget (uZ_n (by decide)) uZ_s g5, (k7.tff (fun j hj => by rw [q18 20 (by decide)]; exact g4.2.2.2.2.2 j hj)).nw (by decide), by rw [lo 9 (by decide)]; exact k8⟩
      rw [uA_self]
      exact WYR_of t5 t6 g2 (by rw [e1, t2]) (by rw [e2, t3]) (by rw [e3, t7]) g6
  · rcases hT with ⟨t1, -⟩ | ⟨-, L2, g0, t1, t2, t3, t4, t5, t6, t7⟩
    · omega
    · cases g1.symm.trans t1
      obtain ⟨e1, e2, e3, e4, e5⟩ := nw_eq (W := W) (k := 2) (cnt := cnt) (N := N) (M := M) (g := g) (hh := hh) (j := 2) rfl
      have lo : ∀ k, k < 10 → uA f1 19 (cpr (f1 19) 80 (5 * L1.length)) k = r k := fun k hk => by rw [uA_ne (by omega)]; exact g4.1 k (by omega)
      have q18 : ∀ k, k ≠ 19 → uA f1 19 (cpr (f1 19) 80 (5 * L1.length)) k = f1 k := fun k hk => uA_ne hk
      rw [if_pos (Or.inr rfl)]
      refine ⟨L, n, nv, nw, L1.length, nt, 0, w1, w2, k3.nw (by decide), k4, ⟨a1.tff (fun j hj => uZ_n hj) z5 lo, a2.tff (by rw [q18 10 (by decide)]; exact g4.1 10 (by omega)) (fun k j p1 p2 p3 => by rw [q18 k (by omega)]; exact g4.2.1 k j p1 p2 p3) (fun j hj => by rw [q18 15 (by decide), q18 16 (by decide)]; exact g4.2.2.1 j hj), (a3.tff g7 (fun j hj => by rw [q18 18 (by decide)]; exact g4.2.2.2.1 j hj)).nw (by decide), ?_, z6⟩, k6.forget (uZ_n (by decide)) uZ_s g5, (k7.tff (fun j hj => by rw [q18 20 (by decide)]; exact g4.2.2.2.2.2 j hj)).nw (by decide), by rw [lo 9 (by decide)]; exact k8⟩
      rw [uA_self]
      exact SKR_of t5 t6 g2 (by rw [e1, t2]) (by rw [e2, t3]) (by rw [e3, t7]) g6
  · rcases hT with ⟨t1, -⟩ | ⟨-, L2, g0, t1, t2, t3, t4, t5, t6, t7⟩
    · omega
    · cases g1.symm.trans t1
      obtain ⟨e1, e2, e3, e4, e5⟩ := nw_eq (W := W) (k := 3) (cnt := cnt) (N := N) (M := M) (g := g) (hh := hh) (j := 3) rfl
      have lo : ∀ k, k < 10 → uA f1 20 (cpr (f1 20) 20 20) k = r k := fun k hk => by rw [uA_ne (by omega)]; exact g4.1 k (by omega)
      have q18 : ∀ k, k ≠ 20 → uA f1 20 (cpr (f1 20) 20 20) k = f1 k := fun k hk => uA_ne hk
      rw [if_neg (by decide)]
      refine ⟨L, n, nv, nw, ns, L1.length, c, w1, w2, k3.nw (by decide), k4, ⟨a1.tff (fun _ _ => rfl) z5 lo, a2.tff (by rw [q18 10 (by decide)]; exact g4.1 10 (by omega)) (fun k j p1 p2 p3 => by rw [q18 k (by omega)]; exact g4.2.1 k j p1 p2 p3) (fun j hj => by rw [q18 15 (by decide), q18 16 (by decide)]; exact g4.2.2.1 j hj), (a3.tff g6 (fun j hj => by rw [q18 18 (by decide)]; exact g4.2.2.2.1 j hj)).nw (by decide), (a4.tff g7 (fun j hj => by rw [q18 19 (by decide)]; exact g4.2.2.2.2.1 j hj)).nw (by decide), z6⟩, k6.tff g5 lo, ?_, by rw [lo 9 (by decide)]; exact k8⟩
      rw [uA_self]
      exact TWR_of hm t5 t6 g2 (by rw [e1, t2]) (by rw [e2, t3]) (by rw [e3, t7])
/-- a text is put: the image's texts stay where they are -/
theorem IMA.nw {b nc k cnt N M a : Nat} {lb : Nat → Nat} {W : TXW} {g gg hh : FA} {h h' : PH} (hk : k < 4) (hL : WTL W) (hI : IMA b lb W nc g h) (fr : ∀ q, q ∈ imL → h'[nc + q]? = h[nc + q]?) : IMA b (lbN lb (wL W).length a) (nwW W k cnt N gg M hh) nc g h' := by
  obtain ⟨⟨w, h1, h2⟩, h3⟩ := hI
  refine ⟨⟨w, (fr 36 (by decide)).trans h1, h2⟩, fun e => ?_⟩
  obtain ⟨Wi, zi, fi, zri, ri, k1, ⟨k2, k3, k4, k5, k6⟩, k7, L, n, nv, nw, ns, nt, q1, q2, q3, q4, q5, q6⟩ := h3 e
  have eL : Wi.2.1 ++ nwC (wL W).length k cnt N gg M hh = wL (nwW W k cnt N gg M hh) := by
    show wL Wi ++ _ = wL W ++ _
    rw [k1]
  refine ⟨(Wi.1, Wi.2.1 ++ nwC (wL W).length k cnt N gg M hh, Wi.2.2), zi, fi, zri, ri, eL, ⟨(fr 31 (by decide)).trans k2, (fr 32 (by decide)).trans k3, (fr 33 (by decide)).trans k4, (fr 35 (by decide)).trans k5, (fr 36 (by decide)).trans (k6.trans ?_)⟩, k7, L, n, nv, nw, ns, nt, ?_, ⟨q2.1, ?_⟩, q3, q4, q5, q6⟩
  · have e : (fun j => (wX Wi j).map lb) = fun j => (wX Wi j).map (lbN lb (wL W).length a) := by
      funext j
      by_cases c : j < 4
      · obtain ⟨c1, c2, -⟩ := q1 j c
        have lt := (List.getElem?_eq_some_iff.mp ((nth_eq _ _).symm.trans c2)).1
        rw [k1] at lt
        rw [c1]
        show some (lb _) = some (lbN lb _ a _)
        rw [lbN_lo (by omega)]
      · rw [q2.1 j (by omega)]
        rfl
    rw [e]
    rfl
  · intro j hj
    have up : ∀ {i : Nat} {x : QE FA}, nth (wL Wi) i = some x → nth (wL Wi ++ nwC (wL W).length k cnt N gg M hh) i = some x := fun {i x} h => by
      rw [nth_eq] at h ⊢
      rw [List.getElem?_append_left (List.getElem?_eq_some_iff.mp h).1]
      exact h
    obtain ⟨c1, c2, c3, c4⟩ := q1 j hj
    exact ⟨c1, up c2, up c3, up c4⟩
  · show ∀ (i : Nat) (x : QE FA), (Wi.2.1 ++ nwC (wL W).length k cnt N gg M hh)[i]? = some x → (∃ N g, x = .inl (.inl (0, N, g))) ∨ ∃ a n c, x = .inr (8, [vR a, vI n, vR c]) ∧ a < 42 + (Wi.2.1 ++ nwC (wL W).length k cnt N gg M hh).length ∧ c < 42 + (Wi.2.1 ++ nwC (wL W).length k cnt N gg M hh).length
    rw [eL]
    exact (nw_WTL hk hL).2
theorem tw_bd {m : Nat} (h : FA) : ∀ (L : List (List Nat)) (k : Nat) (g g' : FA), pKo pGt h k L → pLt m g L g' → ∀ i, i < L.length → ∃ a b, a < m ∧ b < m ∧ h (5 * (k + i)) = nI a ∧ h (5 * (k + i) + 1) = nI b := by
  intro L
  induction L with
  | nil => intro k g g' _ _ i hi; exact absurd hi (Nat.not_lt_zero i)
  | cons l L ih =>
    rintro k g g' ⟨⟨a, b, e1, e2, e3⟩, h2⟩ ⟨a', b', f1, f2, f3, f4, f5⟩ i hi
    rw [e1] at f1
    injection f1 with f1 f8
    injection f8 with f8 _
    subst f1 f8
    cases i with
    | zero => exact ⟨a, b, f2, f3, e2, e3⟩
    | succ i =>
      have q := ih (k + 1) _ _ h2 f5 i (by rw [List.length_cons] at hi; omega)
      rw [show k + 1 + i = k + (i + 1) by omega] at q
      exact q
theorem TWZ.good {W : TXW} {zr zr' : Nat → Int32} {r r' : Nat → FA} {k m cnt N M : Nat} {ts : List TT} {g hh : FA} (h : TWZ W zr) (h6 : zr 6 = nI m) (hm : m ≤ 20) (hT : TGc k m ts cnt N g M hh) (hG : RGt k m ts zr r zr' r') (e6 : zr' 6 = zr 6) : TWZ (nwW W k cnt N g M hh) zr' := by
  have ne : k ≠ 3 → zr' 38 = zr 38 → TWZ (nwW W k cnt N g M hh) zr' := fun hk e38 => by
    obtain ⟨q1, -, q3, -⟩ := nw_ne (W := W) (k := k) (cnt := cnt) (N := N) (M := M) (g := g) (hh := hh) (j := 3) (fun e => hk e.symm)
    unfold TWZ
    rw [q1, q3, e6, e38]
    exact h
  rcases hG with ⟨rfl, L1, -, -, -, -, -, -, -, g8⟩ | ⟨rfl, L1, f1, -, -, -, -, -, -, -, g8⟩ | ⟨rfl, L1, f1, -, -, -, -, -, -, -, g8⟩ | ⟨rfl, L1, f1, g1, g2, -, -, -, -, -, g8⟩
  · exact ne (by decide) g8
  · exact ne (by decide) g8
  · exact ne (by decide) g8
  · rcases hT with ⟨t1, -⟩ | ⟨-, L2, g0, t1, t2, t3, t4, t5, t6, t7⟩
    · exact absurd t1 (by decide)
    · cases g1.symm.trans t1
      obtain ⟨e1, -, e3, -⟩ := nw_eq (W := W) (k := 3) (cnt := cnt) (N := N) (M := M) (g := g) (hh := hh) (j := 3) rfl
      refine ⟨by rw [g8, e1, t2], m, L1.length, hm, by rw [e6, h6, I_nI (by omega)]; omega, by rw [e1, t2], t5, fun i hi => ?_⟩
      obtain ⟨a, b, a1, a2, a3, a4⟩ := tw_bd g0 L1 0 _ _ t6 g2 i hi
      rw [Nat.zero_add] at a3 a4
      exact ⟨a, b, a1, a2, by rw [e3, t7]; exact (cpO_at (by omega) (by omega)).trans a3, by rw [e3, t7]; exact (cpO_at (by omega) (by omega)).trans a4⟩
