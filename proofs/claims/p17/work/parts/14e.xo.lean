theorem R2.uncons {α β : Type} {r : α → β → Prop} {a : α} {l : List α} {m : List β} (h : R2 r (a :: l) m) : ∃ b m', m = b :: m' ∧ r a b ∧ R2 r l m' := by
  cases m with
  | nil => cases h
  | cons b m' => exact ⟨b, m', rfl, h.1, h.2⟩
theorem HOK.put {lam : Nat → Nat} {ρ : List Int32} {H : List AC} {h : PH} {k : Nat} {x : PE} {c' : AC} (hH : HOK lam ρ H h) (hx : h[lam k]? = some x) (hc : cellOK lam ρ c' x) : HOK lam ρ (stl H c' k) h := by
  intro k' c'' hk'
  rw [nth_eq, stl_eq] at hk'
  by_cases e : k = k'
  · subst e
    rw [List.getElem?_set] at hk'
    simp only [if_true] at hk'
    split at hk'
    · cases hk'; exact ⟨x, hx, hc⟩
    · cases hk'
  · rw [List.getElem?_set_ne e, ← nth_eq] at hk'
    exact hH k' c'' hk'
theorem HOK.set {lam : Nat → Nat} {ρ : List Int32} {H : List AC} {h : PH} {k : Nat} {x y : PE} {c' : AC} (hi : ∀ k', lam k = lam k' → k = k') (hH : HOK lam ρ H h) (hx : h[lam k]? = some x) (hc : cellOK lam ρ c' y) : HOK lam ρ (stl H c' k) (h.set (lam k) y) := by
  have hl := (List.getElem?_eq_some_iff.mp hx).1
  intro k' c'' hk'
  rw [nth_eq, stl_eq] at hk'
  by_cases e : k = k'
  · subst e
    rw [List.getElem?_set] at hk'
    simp only [if_true] at hk'
    split at hk'
    · cases hk'; exact ⟨y, List.getElem?_set_self hl, hc⟩
    · cases hk'
  · rw [List.getElem?_set_ne e, ← nth_eq] at hk'
    obtain ⟨x', h1, h2⟩ := hH k' c'' hk'
    exact ⟨x', by rw [List.getElem?_set_ne (fun q => e (hi k' q))]; exact h1, h2⟩
theorem MOK.obj {lam : Nat → Nat} {ρ : List Int32} {mm : List (Nat × Nat × Nat)} {h : PH} {k q : Nat} {xs : List PV} {y : PE} (hM : MOK lam ρ mm h) (hx : h[lam k]? = some (eO q xs)) : MOK lam ρ mm (h.set (lam k) y) := by
  intro k' i v hm
  obtain ⟨N, f, a, b, h1, h2, h3, h4⟩ := hM k' i v hm
  refine ⟨N, f, a, b, ?_, h2, h3, h4⟩
  by_cases e : lam k = lam k'
  · rw [← e, hx] at h1; cases h1
  · rw [List.getElem?_set_ne e]; exact h1
theorem MOK.ref {lam : Nat → Nat} {ρ : List Int32} {mm : List (Nat × Nat × Nat)} {h : PH} {k q N : Nat} {f : Nat → Option Nat} {y : PE} (hM : MOK lam ρ mm h) (hx : h[lam k]? = some (eR q N f)) : MOK lam ρ mm (h.set (lam k) y) := by
  intro k' i v hm
  obtain ⟨N, f, a, b, h1, h2, h3, h4⟩ := hM k' i v hm
  refine ⟨N, f, a, b, ?_, h2, h3, h4⟩
  by_cases e : lam k = lam k'
  · rw [← e, hx] at h1; cases h1
  · rw [List.getElem?_set_ne e]; exact h1
theorem MOK.arr {lam : Nat → Nat} {ρ : List Int32} {mm : List (Nat × Nat × Nat)} {h : PH} {k : Nat} {y : PE} (hi : ∀ k', lam k = lam k' → k = k') (hM : MOK lam ρ mm h) : MOK lam ρ (mmd mm k) (h.set (lam k) y) := by
  intro k' i v hm
  obtain ⟨hm1, hm2⟩ := mmd_ok hm
  obtain ⟨N, f, a, b, h1, h2, h3, h4⟩ := hM k' i v hm1
  exact ⟨N, f, a, b, by rw [List.getElem?_set_ne (fun q => hm2 (hi k' q).symm)]; exact h1, h2, h3, h4⟩
theorem oapp_inv {α : Type} {a b : Option (List α)} {xs : List α} (h : oapp a b = some xs) : ∃ x y, a = some x ∧ b = some y ∧ xs = x ++ y := by
  unfold oapp at h
  split at h
  · split at h
    · exact ⟨_, _, rfl, rfl, (Option.some.inj h).symm⟩
    · cases h
  · cases h
theorem SUC.l {lam : Nat → Nat} {W : List (Nat × Nat)} {NH : Nat} {H0 : PH} {K : Nat → List (Option PV) → List PV → PH → Prop} {ρ : List Int32} {x y : List AX} (h : SUC lam W NH H0 K ρ (x ++ y)) : SUC lam W NH H0 K ρ x := fun i ls st S hm => h i ls st S (List.mem_append_left _ hm)
theorem SUC.r {lam : Nat → Nat} {W : List (Nat × Nat)} {NH : Nat} {H0 : PH} {K : Nat → List (Option PV) → List PV → PH → Prop} {ρ : List Int32} {x y : List AX} (h : SUC lam W NH H0 K ρ (x ++ y)) : SUC lam W NH H0 K ρ y := fun i ls st S hm => h i ls st S (List.mem_append_right _ hm)
theorem FOK.cons {ρ : List Int32} {fs : List (Nat × Nat × Nat)} {s x y : Nat} {a b : Int32} (h : FOK ρ fs) (hx : val ρ x = some a) (hy : val ρ y = some b) (h1 : ky a ≤ ky b) (h2 : 1 ≤ s → ky a < ky b) : FOK ρ ((s, x, y) :: fs) := by
  intro s' x' y' hm
  rcases List.mem_cons.mp hm with e | e
  · cases e; exact ⟨a, b, hx, hy, h1, h2⟩
  · exact h s' x' y' e
theorem brn1 {P : Option (List AX) → Prop} {n : Nat} {env : List SE} {ρ : List Int32} {o x y : Nat} {zx zy : Int32} {k : List SE → List (Nat × Nat × Nat) → Option (List AX)} {f : List (Nat × Nat × Nat)} (hn : n = env.length) (hE : EnvOK env ρ) (hx : val ρ x = some zx) (hy : val ρ y = some zy) (hp : cmpP o zx zy) (hF : FOK ρ f) (h : ∀ e f, n = e.length → EnvOK e ρ → FOK ρ f → P (k e f)) : P (match cmpT n env o x y with
  | some e => k e f
  | none => some []) := by
  obtain ⟨e, h1, h2, h3⟩ := cmpT_ok hn hE hx hy hp
  rw [h1]
  exact h e f h2 h3 hF
theorem brn_ok {P : Option (List AX) → Prop} {n : Nat} {env : List SE} {fs : List (Nat × Nat × Nat)} {ρ : List Int32} {b x y : Nat} {r : Bool} {zx zy : Int32} {k : List SE → List (Nat × Nat × Nat) → Option (List AX)} (hn : n = env.length) (hE : EnvOK env ρ) (hF : FOK ρ fs) (hx : val ρ x = some zx) (hy : val ρ y = some zy) (hr : pcmp b zx zy = r) (h : ∀ e f, n = e.length → EnvOK e ρ → FOK ρ f → P (k e f)) : P (brn n env fs b x y r k) := by
  have hb : b = 0 ∨ b = 1 ∨ b = 2 ∨ b = 3 ∨ b = 4 ∨ ∃ c, b = c + 5 := by
    by_cases h5 : 5 ≤ b
    · exact Or.inr (Or.inr (Or.inr (Or.inr (Or.inr ⟨b - 5, by omega⟩))))
    · omega
  rcases hb with rfl | rfl | rfl | rfl | rfl | ⟨c, rfl⟩
  · rw [cmp_eq] at hr
    unfold brn
    simp only
    cases r with
    | true => exact brn1 hn hE hx hy (o := 0) (show zx = zy from of_decide_eq_true hr) hF h
    | false => exact brn1 hn hE hx hy (o := 1) (show ¬ zx = zy from of_decide_eq_false hr) hF h
  · rw [cmp_ne] at hr
    unfold brn
    simp only
    cases r with
    | true => exact brn1 hn hE hx hy (o := 1) (show ¬ zx = zy from of_decide_eq_true hr) hF h
    | false => exact brn1 hn hE hx hy (o := 0) (show zx = zy from Decidable.of_not_not (of_decide_eq_false hr)) hF h
  · have hr : Nat.blt (ky zx) (ky zy) = r := hr
    unfold brn
    simp only
    cases r with
    | true =>
      have hr := blt_t.mp hr
      exact brn1 hn hE hx hy (o := 2) hr (hF.cons hx hy (by omega) (fun _ => hr)) h
    | false =>
      have hr := blt_f.mp hr
      exact brn1 hn hE hy hx (o := 3) (show ky zy ≤ ky zx by omega) (hF.cons hy hx (by omega) (fun q => absurd q (by decide))) h
  · have hr : Nat.ble (ky zy) (ky zx) = r := hr
    unfold brn
    simp only
    cases r with
    | true =>
      rw [Nat.ble_eq] at hr
      exact brn1 hn hE hy hx (o := 3) hr (hF.cons hy hx hr (fun q => absurd q (by decide))) h
    | false =>
      rw [ble_f] at hr
      exact brn1 hn hE hx hy (o := 2) (show ky zx < ky zy by omega) (hF.cons hx hy (by omega) (fun _ => by omega)) h
  · have hr : Nat.blt (ky zy) (ky zx) = r := hr
    unfold brn
    simp only
    cases r with
    | true =>
      have hr := blt_t.mp hr
      exact brn1 hn hE hy hx (o := 2) hr (hF.cons hy hx (by omega) (fun _ => hr)) h
    | false =>
      have hr := blt_f.mp hr
      exact brn1 hn hE hx hy (o := 3) (show ky zx ≤ ky zy by omega) (hF.cons hx hy (by omega) (fun q => absurd q (by decide))) h
  · have hr : Nat.ble (ky zx) (ky zy) = r := hr
    unfold brn
    simp only
    cases r with
    | true =>
      rw [Nat.ble_eq] at hr
      exact brn1 hn hE hx hy (o := 3) hr (hF.cons hx hy hr (fun q => absurd q (by decide))) h
    | false =>
      rw [ble_f] at hr
      exact brn1 hn hE hy hx (o := 2) (show ky zy < ky zx by omega) (hF.cons hy hx (by omega) (fun _ => by omega)) h
def CLO (l : Launch) (G : PG) (d : Nat) (own : String) (cc : ByteArray) (nL : Nat) (code : List PO) (K : Nat → List (Option PV) → List PV → PH → Prop) (i0 pc : Nat) : Prop := ∀ np h h' cls cls' cst cst', Tr l G d own cc nL pc (hpc (drp np code)) h h' cls cls' cst cst' → K np cls' cst' h' → K i0 cls cst h
section XO
variable {lam : Nat → Nat} {W : List (Nat × Nat)} {NH : Nat} {H0 : PH} {l : Launch} {G : PG} {d : Nat} {own : String} {cc : ByteArray} {nL : Nat} {ret : Option FieldType} {code : List PO} {K : Nat → List (Option PV) → List PV → PH → Prop} {i0 t : Nat} {ρ : List Int32} {ls : AL} {st : List AV} {S : AS} {cls : List (Option PV)} {cst : List PV} {h : PH} {xs : List AX} {pc a b : Nat} {v : Int32} {tg : List Nat}
theorem xo_iload (hC : CLO l G d own cc nL code K i0 pc) (hE : eOK own cc nL ret code (pc, 0, a, b, v, tg) (hpc (drp t code))) (hg : GST lam W NH H0 ρ ls st S cls cst h) (hK : SUC lam W NH H0 K ρ xs) (hs : x_iload a t ls st S = some xs) : K i0 cls cst h := by
  unfold x_iload at hs
  split at hs
  · rename_i c hc
    obtain ⟨y, h1, h2⟩ := hg.1.get hc
    obtain ⟨y', rfl, z, hz, rfl⟩ := h2
    exact hC t _ _ _ _ _ _ (hE l G d h cls cst z h1) (hK.one hs [] ⟨hg.1, ⟨⟨z, hz, rfl⟩, hg.2.1⟩, hg.2.2⟩)
  · rename_i lo hi hc
    obtain ⟨y, h1, h2⟩ := hg.1.get hc
    obtain ⟨y', rfl, z, rfl, hb⟩ := h2
    obtain ⟨n, env, fs, mm, H⟩ := S
    obtain ⟨g1, g2, hn, hEn, hF, hM, hH, hL, hR⟩ := hg
    simp only at hs
    revert hs
    refine nsy_ok (P := fun o => o = some xs → K i0 cls cst h) hn hEn hb (fun q => absurd q (by decide)) ?_
    intro c n' env' τ e1 e2 e3 hs
    exact hC t _ _ _ _ _ _ (hE l G d h cls cst z h1) (hK.one hs τ ⟨(g1.upo τ).put ⟨_, rfl, z, e3, rfl⟩ h1, ⟨⟨z, e3, rfl⟩, g2.upv τ⟩, e1, e2, hF.up τ, hM.up τ, hH.up τ, hL, hR⟩)
  · cases hs
theorem xo_aload (hC : CLO l G d own cc nL code K i0 pc) (hE : eOK own cc nL ret code (pc, 1, a, b, v, tg) (hpc (drp t code))) (hg : GST lam W NH H0 ρ ls st S cls cst h) (hK : SUC lam W NH H0 K ρ xs) (hs : x_aload a t ls st S = some xs) : K i0 cls cst h := by
  unfold x_aload at hs
  split at hs
  · rename_i x hc
    obtain ⟨y, h1, h2⟩ := hg.1.get hc
    obtain ⟨y', rfl, rfl⟩ := h2
    exact hC t _ _ _ _ _ _ (hE l G d h cls cst _ h1) (hK.one hs [] ⟨hg.1, ⟨rfl, hg.2.1⟩, hg.2.2⟩)
  · cases hs
theorem xo_const (hC : CLO l G d own cc nL code K i0 pc) (hE : eOK own cc nL ret code (pc, 2, a, b, v, tg) (hpc (drp t code))) (hg : GST lam W NH H0 ρ ls st S cls cst h) (hK : SUC lam W NH H0 K ρ xs) (hs : some [(t, ls, .inl (ky v) :: st, S)] = some xs) : K i0 cls cst h :=
  hC t _ _ _ _ _ _ (hE l G d h cls cst) (hK.one hs [] ⟨hg.1, ⟨⟨v, by rw [val_c (ky_lim v), ← kv_of rfl], rfl⟩, hg.2.1⟩, hg.2.2⟩)
theorem xo_get (hC : CLO l G d own cc nL code K i0 pc) (hE : eOK own cc nL ret code (pc, 3, a, b, v, tg) (hpc (drp t code))) (hg : GST lam W NH H0 ρ ls st S cls cst h) (hK : SUC lam W NH H0 K ρ xs) (hs : x_get a b t ls st S = some xs) : K i0 cls cst h := by
  unfold x_get at hs
  split at hs
  · rename_i x st'
    obtain ⟨n, env, fs, mm, H⟩ := S
    obtain ⟨g1, g2, hn, hEn, hF, hM, hH, hL, hR⟩ := hg
    obtain ⟨x', cst', rfl, e1, g3⟩ := g2.uncons
    have e1 : x' = vR (lam x) := e1
    subst e1
    simp only at hs
    split at hs
    · rename_i q vs hx
      obtain ⟨e1, hs2⟩ := bif_some hs
      clear hs
      have hs := hs2
      clear hs2
      obtain rfl := Nat.eq_of_beq_eq_true e1
      obtain ⟨y, hy, fsx, rfl, hfs⟩ := hH x _ hx
      split at hs
      · rename_i lo hi hb
        obtain ⟨w, hw, z, rfl, hz⟩ := hfs.get hb
        revert hs
        refine nsy_ok (P := fun o => o = some xs → K i0 cls _ h) hn hEn hz (fun q => absurd q (by decide)) ?_
        intro c n' env' τ e1 e2 e3 hs
        refine hC t _ _ _ _ _ _ (hE l G d h cls cst' (lam x) fsx (vI z) hy hw) (hK.one hs τ ⟨g1.upo τ, ⟨⟨z, e3, rfl⟩, g3.upv τ⟩, e1, e2, hF.up τ, hM.up τ, ?_, by rw [stl_len]; exact hL, hR⟩)
        exact (hH.up τ).put hy ⟨fsx, rfl, (hfs.upv τ).put ⟨z, e3, rfl⟩ hw⟩
      · rename_i c hb
        obtain ⟨w, hw, z, hz, rfl⟩ := hfs.get hb
        exact hC t _ _ _ _ _ _ (hE l G d h cls cst' (lam x) fsx (vI z) hy hw) (hK.one hs [] ⟨g1, ⟨⟨z, hz, rfl⟩, g3⟩, hn, hEn, hF, hM, hH, hL, hR⟩)
      · rename_i o hb
        obtain ⟨w, hw, rfl⟩ := hfs.get hb
        exact hC t _ _ _ _ _ _ (hE l G d h cls cst' (lam x) fsx _ hy hw) (hK.one hs [] ⟨g1, ⟨rfl, g3⟩, hn, hEn, hF, hM, hH, hL, hR⟩)
      · cases hs
    · cases hs
  · cases hs
theorem xo_put (hi : ∀ k j, (k, j) ∈ W → ∀ k', lam k = lam k' → k = k') (hC : CLO l G d own cc nL code K i0 pc) (hE : eOK own cc nL ret code (pc, 19, a, b, v, tg) (hpc (drp t code))) (hg : GST lam W NH H0 ρ ls st S cls cst h) (hK : SUC lam W NH H0 K ρ xs) (hs : x_put a b (ky v) t W ls st S = some xs) : K i0 cls cst h := by
  unfold x_put at hs
  split at hs
  · rename_i zc x st'
    obtain ⟨n, env, fs, mm, H⟩ := S
    obtain ⟨g1, g2, hn, hEn, hF, hM, hH, hL, hR⟩ := hg
    obtain ⟨w0, cst0, rfl, ⟨z, hz, rfl⟩, g3⟩ := g2.uncons
    obtain ⟨x', cst', rfl, e1, g4⟩ := g3.uncons
    have e1 : x' = vR (lam x) := e1
    subst e1
    simp only at hs
    split at hs
    · rename_i q vs hx
      obtain ⟨e1, hs2⟩ := bif_some hs
      clear hs
      have hs := hs2
      clear hs2
      simp only [Bool.and_eq_true, Bool.or_eq_true, Nat.beq_eq, blt_t, Nat.ble_eq] at e1
      obtain ⟨rfl, e2, e3, e4⟩ := e1
      have hw := memW_ok e3
      obtain ⟨y, hy, fsx, rfl, hfs⟩ := hH x _ hx
      have hz2 : v = 0 ∨ z = 0 ∨ z = 1 := by
        rcases e4 with q | q
        · exact Or.inl (ky_inj (by rw [q, ky0]))
        · right
          have hb := bnd_ok hn hEn hz
          have k1 : ky 1 = 2147483649 := by decide
          have := hb.1; have := hb.2
          by_cases e : ky z = 2147483648
          · exact Or.inl (ky_inj (by rw [e, ky0]))
          · exact Or.inr (ky_inj (by rw [k1]; omega))
      refine hC t _ _ _ _ _ _ (hE l G d h cls cst' (lam x) fsx z hy (by rw [← hfs.len]; exact e2) hz2) (hK.one hs [] ⟨g1, g4, hn, hEn, hF, hM.obj hy, ?_, by rw [stl_len]; exact hL, ?_⟩)
      · exact hH.set (hi x b hw) hy ⟨_, rfl, hfs.set ⟨z, hz, rfl⟩⟩
      · refine hR.set hy ⟨rfl, (List.length_set ..).symm, fun j hj => ?_⟩
        have hne : ¬ b = j := fun e => hj ⟨x, by rw [← e]; exact hw, rfl⟩
        exact (List.getElem?_set_ne hne).symm
    · cases hs
  · cases hs
theorem inL_ok {n : Nat} {env : List SE} {fs : List (Nat × Nat × Nat)} {ln : AV} {i N : Nat} {z : Int32} (hn : n = env.length) (hE : EnvOK env ρ) (hF : FOK ρ fs) (hz : val ρ i = some z) (hN : N < 2147483648) (hl : vRel lam ρ ln (vI (Int32.ofNat N))) (h : inL n env fs ln i = true) : ix z < N ∧ ix z < 2147483648 ∧ ky z = ix z + 2147483648 ∧ sb0 (bnd n env i).1 ≤ ix z ∧ ix z ≤ sb0 (bnd n env i).2 := by
  unfold inL at h
  rw [Bool.and_eq_true, Nat.ble_eq] at h
  obtain ⟨h1, h2⟩ := h
  have hb := bnd_ok hn hE hz
  have hp := ky_pos (x := z) (Nat.le_trans h1 hb.1)
  have hk := ky_small hp.2
  have hkN : ky (Int32.ofNat N) = N + 2147483648 := by
    rw [ky_small] <;> rw [ix_ofNat, Nat.mod_eq_of_lt (by omega)]
    exact hN
  have hlt : ky z < ky (Int32.ofNat N) := by
    match ln with
    | .inl c =>
      obtain ⟨w, hw, e⟩ := hl
      have e : Int32.ofNat N = w := by injection e
      subst e
      have hbc := bnd_ok hn hE hw
      simp only [Bool.or_eq_true, blt_t] at h2
      rcases h2 with q | q
      · exact Nat.lt_of_le_of_lt hb.2 (Nat.lt_of_lt_of_le q hbc.1)
      · obtain ⟨s', q1, q2⟩ := fctQ_ok q
        obtain ⟨a', b', v1, v2, v3, v4⟩ := hF s' i c q2
        rw [hz] at v1; rw [hw] at v2
        cases v1; cases v2
        exact v4 q1
    | .inr (.inr (.inr (lo, hi))) =>
      obtain ⟨w, e, hb2⟩ := hl
      have e : Int32.ofNat N = w := by injection e
      subst e
      simp only [blt_t] at h2
      exact Nat.lt_of_le_of_lt hb.2 (Nat.lt_of_lt_of_le h2 hb2.1)
    | .inr (.inl o) => cases h2
    | .inr (.inr (.inl j)) => cases h2
  have := hb.1; have := hb.2
  refine ⟨by omega, hp.2, hk, ?_, ?_⟩
  · unfold sb0; omega
  · unfold sb0; omega
end XO
