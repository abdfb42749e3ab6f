/-! the class's text, exactly, behind what its reader tells -/
def TXr (H : PH) (lp : Nat → Nat) (Bad : PH → Prop) (Good : Nat → Nat → FA → Nat → FA → PH → Prop) (r : Option PV) (h' : PH) : Prop := (r = some vN ∧ Bad h') ∨ ∃ (h1 : PH) (cnt N : Nat) (g : FA) (M : Nat) (hh : FA), r = some (vR h1.length) ∧ h' = h1 ++ [eO 8 [vR (h1.length + 1), vI (nI cnt), vR (h1.length + 2)], eI N g, eI M hh] ∧ (∃ z' f', Rep rdF H lp 4 (LPr z' f') h1) ∧ Good cnt N g M hh h1
/-- the heap with a text that was put -/
def tXa (h1 : PH) (k cnt N : Nat) (g : FA) (M : Nat) (hh : FA) (c7 : Nat) (w : Nat → Option Nat) : PH := (h1 ++ [eO 8 [vR (h1.length + 1), vI (nI cnt), vR (h1.length + 2)], eI N g, eI M hh]).set c7 (eR 2 4 (va_up w k (some h1.length)))
def tXe (h1 : PH) (k cnt N : Nat) (g : FA) (M : Nat) (hh : FA) (c7 c59 : Nat) (w : Nat → Option Nat) (fs : List PV) : PH := if k = 1 ∨ k = 2 then (tXa h1 k cnt N g M hh c7 w).set c59 (eO 7 (fs.set 2 (vI 0))) else tXa h1 k cnt N g M hh c7 w
theorem forget_h (l : Launch) (G : PG) {h : PH} {a : Nat} {fs : List PV} (hx : h[a]? = some (eO 7 fs)) (hlen : 2 < fs.length) {Φ : Option PV → PH → Prop} (hΦ : Φ none (h.set a (eO 7 (fs.set 2 (vI 0))))) : PMet l G yX7_forget cX7_forget 1 none 1 0 0 [vR a] h Φ := by
  refine PMet.intro (by decide) (show 1 ≤ 1 by decide) ?_
  intro p e s m args below meth c X hr hlk hnm
  refine r_aload_n X dX7_forget_0 rfl ?_
  refine r_iconst X dX7_forget_1 (v := 0) rfl ?_
  refine r_put X fp_X7_21 dX7_forget_2 hx hlen rfl rfl ?_
  exact r_ret_v X hr hlk dX7_forget_5 (Nat.zero_le _) (Nat.zero_le _) hΦ
set_option maxRecDepth 100000 in
set_option maxHeartbeats 4000000 in
theorem text_h (l : Launch) (G : PG) {H h : PH} {lp : Nat → Nat} {z : Nat → Int32} {f : Nat → FA} {kd y : Int32} (hR : Rep rdF H lp 4 (LPr z f) h) {c0 c1 c2 c7 c59 : Nat} {fs0 fs1 fs2 fs59 : List PV} {w : Nat → Option Nat} (x0 : H[c0]? = some (eO 11 fs0)) (a00 : fs0[0]? = some (vR c1)) (a03 : fs0[3]? = some (vR c59)) (a04 : fs0[4]? = some (vR (lp 0))) (x1 : H[c1]? = some (eO 10 fs1)) (a10 : fs1[0]? = some (vR c2)) (a12 : fs1[2]? = some (vR c7)) (x2 : H[c2]? = some (eO 0 fs2)) (a22 : fs2[2]? = some (vI y)) (x7 : H[c7]? = some (eR 2 4 w)) (x59 : H[c59]? = some (eO 7 fs59)) (l59 : 2 < fs59.length) (off : ∀ k, k < 4 → c0 ≠ lp k ∧ c1 ≠ lp k ∧ c2 ≠ lp k ∧ c7 ≠ lp k ∧ c59 ≠ lp k) (n0 : c7 ≠ c0) (n59 : c7 ≠ c59) {Bad : PH → Prop} {Good : Nat → Nat → FA → Nat → FA → PH → Prop} (hM : PMet l G yX5_readTape cX5_readTape 5 (some (.object "ThumbBallot$Text")) 30 3 488 [vR (lp 0), vI kd, vI y] h (TXr H lp Bad Good)) {Φ : Option PV → PH → Prop} (hB : ∀ h', Bad h' → Φ (some (vI (-1))) h') (hG : ∀ h1 cnt N g M hh, Good cnt N g M hh h1 → ∃ k, k < 4 ∧ kd = nI k ∧ Φ (some (vI (nI cnt))) (tXe h1 k cnt N g M hh c7 c59 w fs59)) : PMet l G yX11_text cX11_text 3 (some .int) 31 3 488 [vR c0, vI kd] h Φ := by
  refine PMet.intro (by decide) (show 2 ≤ 3 by decide) ?_
  intro p e s m args below meth c X hr hlk hnm
  have up0 : ∀ {a : Nat} {x : PE}, (∀ k, k < 4 → a ≠ lp k) → H[a]? = some x → h[a]? = some x := fun o hx => (hR.2.2.2 _ o).trans hx
  have o0 : ∀ k, k < 4 → c0 ≠ lp k := fun k hk => (off k hk).1
  have o1 : ∀ k, k < 4 → c1 ≠ lp k := fun k hk => (off k hk).2.1
  have o2 : ∀ k, k < 4 → c2 ≠ lp k := fun k hk => (off k hk).2.2.1
  have o7 : ∀ k, k < 4 → c7 ≠ lp k := fun k hk => (off k hk).2.2.2.1
  have o59 : ∀ k, k < 4 → c59 ≠ lp k := fun k hk => (off k hk).2.2.2.2
  refine r_aload_n X dX11_text_0 rfl ?_
  refine r_get X fg_X11_33 dX11_text_1 (up0 o0 x0) a04 ?_
  refine r_iload_n X dX11_text_4 rfl ?_
  refine r_aload_n X dX11_text_5 rfl ?_
  refine r_get X fg_X11_12 dX11_text_6 (up0 o0 x0) a00 ?_
  refine r_get X fg_X11_67 dX11_text_9 (up0 o1 x1) a10 ?_
  refine r_get X fg_X11_99 dX11_text_12 (up0 o2 x2) a22 ?_
  refine r_callV X kv_X11_154 dX11_text_15 (As := [vI kd, vI y]) (rest := []) rfl rfl (rp_0 hR) rfl hM ⟨Nat.le_refl 31, show 8 + (5 + 11) + 64 * 30 ≤ 64 * 31 by decide⟩ (Nat.zero_le 8) ⟨Nat.le_refl 3, Nat.le_refl 488⟩ ?_
  intro r h' hr'
  rcases hr' with ⟨rfl, hb⟩ | ⟨h1, cnt, N, g, M, hh, rfl, rfl, ⟨z1, f1, hR1⟩, hg⟩
  · refine r_astore_nN X dX11_text_18 (by decide) ?_
    refine r_aload_nN X dX11_text_19 rfl ?_
    refine r_ifnull_n X dX11_text_20 (tgt := 32) rfl ?_
    refine r_iconst X dX11_text_32 (v := -1) rfl ?_
    exact r_ret_i X hr hlk dX11_text_33 (Nat.le_refl _) (Nat.le_refl _) (hB _ hb)
  · obtain ⟨k, hk4, rfl, hΦ⟩ := hG h1 cnt N g M hh hg
    have ik : (nI k).toInt = (k : Int) := nI_toInt (by omega)
    have kn : (nI k).toNatClampNeg = k := by
      show (nI k).toInt.toNat = k
      omega
    have up1 : ∀ {a : Nat} {x : PE}, (∀ k, k < 4 → a ≠ lp k) → H[a]? = some x → h1[a]? = some x := fun o hx => (hR1.2.2.2 _ o).trans hx
    have up : ∀ {i : Nat} {x : PE} (L : PH), h1[i]? = some x → (h1 ++ L)[i]? = some x := fun L z => by rw [List.getElem?_append_left (List.getElem?_eq_some_iff.mp z).1]; exact z
    have y7 := up1 o7 x7
    have l7 : c7 < h1.length := (List.getElem?_eq_some_iff.mp y7).1
    have y0 := up1 o0 x0
    have y59 := up1 o59 x59
    refine r_astore_n X dX11_text_18 (by decide) ?_
    refine r_aload_n X dX11_text_19 rfl ?_
    refine r_ifnull_r X dX11_text_20 ?_
    refine r_iload_n X dX11_text_23 rfl ?_
    refine r_if_lt X dX11_text_24 (tgt := 32) rfl (fun q => ?_) (fun q0 => ?_)
    · have := Int32.lt_iff_toInt_lt.mp q
      have h0 : (0 : Int32).toInt = 0 := rfl
      omega
    refine r_iload_n X dX11_text_27 rfl ?_
    refine r_iconst X dX11_text_28 (v := 4) rfl ?_
    refine r_icmp_lt X dX11_text_29 (tgt := 34) rfl (fun q4 => ?_) (fun q4 => ?_)
    rotate_left
    · exact absurd (Int32.lt_iff_toInt_lt.mpr (by have h4 : (4 : Int32).toInt = 4 := rfl; omega)) q4
    refine r_aload_n X dX11_text_34 rfl ?_
    refine r_get X fg_X11_12 dX11_text_35 (up _ y0) a00 ?_
    refine r_get X fg_X11_70 dX11_text_38 (up _ (up1 o1 x1)) a12 ?_
    refine r_iload_n X dX11_text_41 rfl ?_
    refine r_aload_n X dX11_text_42 rfl ?_
    refine r_aast X (t := 2) (C := RX8) rfl ck_X8.1 dX11_text_43 (up _ y7) (v := h1.length) (vs := [vR (h1.length + 1), vI (nI cnt), vR (h1.length + 2)]) (by simp) (vinT (by omega) (by omega)) ?_
    rw [kn]
    have at7 : ∀ {a : Nat} {x : PE}, c7 ≠ a → h1[a]? = some x → (tXa h1 k cnt N g M hh c7 w)[a]? = some x := fun ne hx => by
      show (List.set _ c7 _)[_]? = _
      rw [List.getElem?_set_ne ne]
      exact up _ hx
    have atn : (tXa h1 k cnt N g M hh c7 w)[h1.length]? = some (eO 8 [vR (h1.length + 1), vI (nI cnt), vR (h1.length + 2)]) := by
      show (List.set _ c7 _)[_]? = _
      rw [List.getElem?_set_ne (by omega)]
      simp
    show PW p l e (rmD 31 3 488) s m args below meth c G 3 (MQ below (pQ G Φ) args s 3 488 (pF G)) (0 + 3) (0 + 488) (tXa h1 k cnt N g M hh c7 w) 44 [some (vR c0), some (vI (nI k)), some (vR h1.length)] []
    have last : ∀ {h3 : PH}, h3[h1.length]? = some (eO 8 [vR (h1.length + 1), vI (nI cnt), vR (h1.length + 2)]) → Φ (some (vI (nI cnt))) h3 → PW p l e (rmD 31 3 488) s m args below meth c G 3 (MQ below (pQ G Φ) args s 3 488 (pF G)) (0 + 3) (0 + 488) h3 61 [some (vR c0), some (vI (nI k)), some (vR h1.length)] [] := by
      intro h3 hx hΦ3
      refine r_aload_n X dX11_text_61 rfl ?_
      refine r_get X fg_X11_158 dX11_text_62 hx rfl ?_
      exact r_ret_i X hr hlk dX11_text_65 (Nat.le_refl _) (Nat.le_refl _) hΦ3
    have forg : (k = 1 ∨ k = 2) → PW p l e (rmD 31 3 488) s m args below meth c G 3 (MQ below (pQ G Φ) args s 3 488 (pF G)) (0 + 3) (0 + 488) (tXa h1 k cnt N g M hh c7 w) 54 [some (vR c0), some (vI (nI k)), some (vR h1.length)] [] := by
      intro hk
      unfold tXe at hΦ
      rw [if_pos hk] at hΦ
      refine r_aload_n X dX11_text_54 rfl ?_
      refine r_get X fg_X11_26 dX11_text_55 (at7 n0 y0) a03 ?_
      refine r_callV X kv_X11_92 dX11_text_58 (As := []) (rest := []) rfl rfl (at7 n59 y59) rfl (forget_h l G (at7 n59 y59) l59 (Φ := fun r h' => r = none ∧ h' = (tXa h1 k cnt N g M hh c7 w).set c59 (eO 7 (fs59.set 2 (vI 0)))) ⟨rfl, rfl⟩) ⟨show 1 + 1 ≤ 31 by decide, show 8 + (1 + 11) + 64 * 1 ≤ 64 * 31 by decide⟩ (Nat.zero_le 8) ⟨Nat.le_refl 3, Nat.le_refl 488⟩ ?_
      rintro r h3 ⟨rfl, rfl⟩
      refine last ?_ hΦ
      have l59' : c59 < h1.length := (List.getElem?_eq_some_iff.mp y59).1
      rw [List.getElem?_set_ne (by omega)]
      exact atn
    refine r_iload_n X dX11_text_44 rfl ?_
    refine r_iconst X dX11_text_45 (v := 1) rfl ?_
    refine r_icmp_eq X dX11_text_46 (tgt := 54) rfl (fun q => forg (Or.inl (nI_inj (a := k) (b := 1) (by omega) (by decide) q))) (fun q1 => ?_)
    refine r_iload_n X dX11_text_49 rfl ?_
    refine r_iconst X dX11_text_50 (v := 2) rfl ?_
    refine r_icmp_ne X dX11_text_51 (tgt := 61) rfl (fun q2 => ?_) (fun q2 => forg (Or.inr (nI_inj (a := k) (b := 2) (by omega) (by decide) q2)))
    unfold tXe at hΦ
    rw [if_neg (fun c => by rcases c with c | c; exact q1 (by rw [c]; rfl); exact q2 (by rw [c]; rfl))] at hΦ
    exact last atn hΦ
