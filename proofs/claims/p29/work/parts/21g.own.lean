/-! a list that is told of: both sides count alike -/
def OWC (l : Launch) (G : PG) (lam : Nat → Nat) (b nc nm : Nat) (h : PH) (k d : Nat) (As : List PV) (W : List (Nat × Nat)) (cc n' : Nat) (v : Int32) : Prop := ∃ Φ0, PMet l G (mY k) (mC k) (mN k) (mR k) d 0 0 (vR nc :: As) h Φ0 ∧ ∀ r h', Φ0 r h' → r = some (vI v) ∧ LIB lam b nc nm h' ∧ FRG lam W h h' ∧ FLD h' (nc + cc) 1 (nI n')
def OWR (l : Launch) (G : PG) (lam : Nat → Nat) (b nc nm : Nat) (h : PH) (k d : Nat) (As : List PV) (W : List (Nat × Nat)) (cj n' : Nat) (v : Int32) : Prop := ∃ Φ0, PMet l G (mY k) (mC k) (mN k) (mR k) d 0 0 (vR nm :: As) h Φ0 ∧ ∀ r h', Φ0 r h' → r = some (vI v) ∧ LIB lam b nc nm h' ∧ FRG (lamM nm) W h h' ∧ FLD h' nm cj (nI n')
def memA (W eff : List (Nat × Nat)) : Bool := eff.all (fun e => W.contains e)
theorem memA_ok {W eff : List (Nat × Nat)} (h : memA W eff = true) : ∀ q, q ∈ eff → q ∈ W := fun q hq => List.contains_iff_mem.mp (List.all_eq_true.mp h q hq)
/-- the count is told anew -/
theorem owc_n (l : Launch) (G : PG) {lam : Nat → Nat} {b nc nm k ds r0 cc n' : Nat} {T0 : List AC} {args : List AV} {W eff : List (Nat × Nat)} {h : PH} {As : List PV} {v : Int32} (hf : chkE T0 TCl (fixF TCl cc 1 (cN n')) [] MT 20000 (k, ds, args, some (r0, r0), eff) = true) (hw : eff.all (fun e => wrC e.1 && !(e.1 == 0 && e.2 == 2)) = true) (hsb : sb2 (sbC 0 [] 0) TCl (fixF TCl cc 1 (cN n')) = true) (hF : isF TCl cc 1 = true) (hc : cc < 103) (hm : memA W eff = true) (hI : LIB lam b nc nm h) (hT : HOK lam [] T0 h) (hA : R2 (vRel lam []) args (vR nc :: As)) (hn : n' < 2147483648) (hv : ∀ z, inb r0 r0 z → z = v) : OWC l G lam b nc nm h k ds As W cc n' v := by
  obtain ⟨Φ0, hP, hQ⟩ := ow_c1 l G hf hw hsb hI hT hA
  refine ⟨Φ0, hP, fun r h' hr => ?_⟩
  obtain ⟨⟨z, rfl, hz⟩, q2, q3, q4⟩ := hQ r h' hr
  refine ⟨by rw [hv z hz], q2, FRG.of (memA_ok hm) q3, ?_⟩
  rw [← hI.2.2.1 cc hc]
  exact HOK_getN q4 hF hn
/-- the count is left alone -/
theorem owc_s (l : Launch) (G : PG) {lam : Nat → Nat} {b nc nm k ds r0 cc n : Nat} {T0 : List AC} {args : List AV} {W : List (Nat × Nat)} {h : PH} {As : List PV} {v : Int32} (hf : chkE T0 TCl TCl [] MT 20000 (k, ds, args, some (r0, r0), []) = true) (hsb : sb2 (sbC 0 [] 0) TCl TCl = true) (hI : LIB lam b nc nm h) (hT : HOK lam [] T0 h) (hA : R2 (vRel lam []) args (vR nc :: As)) (hn : FLD h (nc + cc) 1 (nI n)) (hv : ∀ z, inb r0 r0 z → z = v) : OWC l G lam b nc nm h k ds As W cc n v := by
  obtain ⟨Φ0, hP, hQ⟩ := ow_c1 l G hf rfl hsb hI hT hA
  refine ⟨Φ0, hP, fun r h' hr => ?_⟩
  obtain ⟨⟨z, rfl, hz⟩, q2, q3, q4⟩ := hQ r h' hr
  exact ⟨by rw [hv z hz], q2, FRG.of (fun q hq => by cases hq) q3, hn.keep (FRG.of (fun q hq => hq) q3) (fun k hm => by cases hm)⟩
theorem owr_n (l : Launch) (G : PG) {lam : Nat → Nat} {b nc nm k ds r0 cj n' : Nat} {T0 : List AC} {args : List AV} {W eff : List (Nat × Nat)} {h : PH} {As : List PV} {v : Int32} (hf : chkE T0 TRf (fixF TRf 0 cj (cN n')) [] MT 20000 (k, ds, args, some (r0, r0), eff) = true) (hw : eff.all (fun e => wrR e.1 && !(e.1 == 0 && e.2 == 73)) = true) (hsb : sb2 (sbC 0 [] 0) TRf (fixF TRf 0 cj (cN n')) = true) (hF : isF TRf 0 cj = true) (hm : memA W eff = true) (hI : LIB lam b nc nm h) (hT : HOK (lamM nm) [] T0 h) (hA : R2 (vRel (lamM nm) []) args (vR nm :: As)) (hn : n' < 2147483648) (hv : ∀ z, inb r0 r0 z → z = v) : OWR l G lam b nc nm h k ds As W cj n' v := by
  obtain ⟨Φ0, hP, hQ⟩ := ow_r1 l G hf hw hsb hI hT hA
  refine ⟨Φ0, hP, fun r h' hr => ?_⟩
  obtain ⟨⟨z, rfl, hz⟩, q2, q3, q4⟩ := hQ r h' hr
  exact ⟨by rw [hv z hz], q2, FRG.of (memA_ok hm) q3, HOK_getN q4 hF hn⟩
theorem owr_s (l : Launch) (G : PG) {lam : Nat → Nat} {b nc nm k ds r0 cj n : Nat} {T0 : List AC} {args : List AV} {W eff : List (Nat × Nat)} {h : PH} {As : List PV} {v : Int32} (hf : chkE T0 TRf TRf [] MT 20000 (k, ds, args, some (r0, r0), eff) = true) (hw : eff.all (fun e => wrR e.1 && !(e.1 == 0 && e.2 == 73)) = true) (hs : eff.all (fun e => !(e.1 == 0 && e.2 == cj)) = true) (hsb : sb2 (sbC 0 [] 0) TRf TRf = true) (hm : memA W eff = true) (hI : LIB lam b nc nm h) (hT : HOK (lamM nm) [] T0 h) (hA : R2 (vRel (lamM nm) []) args (vR nm :: As)) (hn : FLD h nm cj (nI n)) (hv : ∀ z, inb r0 r0 z → z = v) : OWR l G lam b nc nm h k ds As W cj n v := by
  obtain ⟨Φ0, hP, hQ⟩ := ow_r1 l G hf hw hsb hI hT hA
  refine ⟨Φ0, hP, fun r h' hr => ?_⟩
  obtain ⟨⟨z, rfl, hz⟩, q2, q3, q4⟩ := hQ r h' hr
  refine ⟨by rw [hv z hz], q2, FRG.of (memA_ok hm) q3, hn.keep (FRG.of (fun q hq => hq) q3) (fun k hk e => ?_)⟩
  have e1 : k = 0 := by
    have : nm + k = nm := e
    omega
  subst e1
  have := List.all_eq_true.mp hs _ hk
  simp at this
/-- the pair of calls -/
def PRX (ps qs : List (Nat × Nat × Nat)) (l : Launch) (G : PG) (nc nm : Nat) (h : PH) (kc dc kr dr : Nat) (As : List PV) : Prop := ∃ Φ0, PMet l G (mY kc) (mC kc) (mN kc) (mR kc) dc 0 0 (vR nc :: As) h Φ0 ∧ ∀ r h', Φ0 r h' → ∃ v, r = some (vI v) ∧ (∃ fs, h'[nm]? = some (eO 12 fs)) ∧ ∃ Φ1, PMet l G (mY kr) (mC kr) (mN kr) (mR kr) dr 0 0 (vR nm :: As) h' Φ1 ∧ ∀ r1 h1, Φ1 r1 h1 → r1 = some (vI v) ∧ LIX ps qs nc nm h1
theorem own_pair (l : Launch) (G : PG) {lam : Nat → Nat} {b nc nm cc cj ci pj kc dc kr dr n n' : Nat} {h : PH} {As : List PV} {Wc Wr : List (Nat × Nat)} {v : Int32} (hI : LIB lam b nc nm h) (hR : RLX [(cc, 1, cj)] [(ci, 1, pj)] b nc nm h) (hn : FLD h nm cj (nI n)) (hcc : cc < 103) (hci : ci < 103) (h1 : okC [(ci, 1, pj)] Wc = true) (h2 : Wr.all (fun e => wrR e.1) = true) (hc : OWC l G lam b nc nm h kc dc As Wc cc n' v) (hr : ∀ h', LIB lam b nc nm h' → FLD h' nm cj (nI n) → OWR l G lam b nc nm h' kr dr As Wr cj n' v) : PRX [(cc, 1, cj)] [(ci, 1, pj)] l G nc nm h kc dc kr dr As := by
  obtain ⟨Φ0, hP, hQ⟩ := hc
  refine ⟨Φ0, hP, fun r h' hr0 => ?_⟩
  obtain ⟨rfl, q2, q3, q4⟩ := hQ r h' hr0
  have hd := hI.2.2.2.2.2.2.2
  have hn' : FLD h' nm cj (nI n) := hn.other q3 (fun k => hd k 0 (by decide))
  refine ⟨v, rfl, (show LIX [] [] nc nm h' from ⟨lam, b, q2, (fun p hp => by cases hp), (fun _ p hp => by cases hp)⟩).md, ?_⟩
  obtain ⟨Φ1, hP1, hQ1⟩ := hr h' q2 hn'
  refine ⟨Φ1, hP1, fun r1 h1' hr1 => ?_⟩
  obtain ⟨rfl, p2, p3, p4⟩ := hQ1 r1 h1' hr1
  have hlt : ∀ k j, (k, j) ∈ Wr → k < 42 := fun k j hm => wrR_lt (List.all_eq_true.mp h2 _ hm)
  have hcl : ∀ k, k < 103 → ∀ j x, FLD h' (nc + k) j x → FLD h1' (nc + k) j x := fun k hk j x hx => hx.keep p3 (fun k' hm e => hd k k' (by have := hlt _ _ hm; omega) ((hI.2.2.1 k hk).trans e.symm))
  refine ⟨rfl, lam, b, p2, fun p hp => ?_, fun hb p hp => ?_⟩
  · obtain rfl := List.mem_singleton.mp hp
    exact ⟨nI n', hcl _ hcc _ _ q4, p4⟩
  · have hp' := hp
    obtain rfl := List.mem_singleton.mp hp
    obtain ⟨x, g1, g2⟩ := hR.2 hb _ hp'
    refine ⟨x, hcl _ hci _ _ (cl_keep q3 hI.2.1 hI.2.2.1 (okC_ok h1 hp').1 (okC_ok h1 hp').2 g1), (g2.other q3 (fun k => hd k 42 (by decide))).keep p3 (fun k hm e => ?_)⟩
    have e1 : nm + k = nm + 42 := e
    have := hlt _ _ hm
    omega
theorem sb_C : sb2 (sbC 0 [] 0) TCl TCl = true := by decide +kernel
theorem sb_R : sb2 (sbC 0 [] 0) TRf TRf = true := by decide +kernel
