/-! does: the kind of a line decides; a first template of its own -/
noncomputable def chkI (T0 T : List AC) (sums : List SU) (MT : MTb) (F : Nat) (su : SU) : Bool := match su with
  | (k, ds, args, res, eff) => (match exM T sums eff MT F ds k args (0, [], [], [], T0) with
    | some os => okOs T res os
    | none => false)
theorem chkI_ok {lam : Nat → Nat} {T0 T : List AC} {sums : List SU} {EX : PH → Prop} {l : Launch} {G : PG} {MT : MTb} {F : Nat} {k ds : Nat} {args : List AV} {res : Option (Nat × Nat)} {eff : List (Nat × Nat)} (hMT : MTOK MT) (hEX : ∀ h0 h, EX h0 → FRM lam eff h0 h → EX h) (hi : ∀ k j, (k, j) ∈ eff → ∀ k', lam k = lam k' → k = k') (hsu : ∀ su, su ∈ sums → SUOK lam T EX l G su) (h : chkI T0 T sums MT F (k, ds, args, res, eff) = true) {cAs : List PV} {hh : PH} (hA : R2 (vRel lam []) args cAs) (hT : HOK lam [] T0 hh) (hX : EX hh) : ∃ Φ0, PMet l G (mY k) (mC k) (mN k) (mR k) ds 0 0 cAs hh Φ0 ∧ ∀ r h', Φ0 r h' → RSO res r ∧ FRM lam eff hh h' ∧ HOK lam [] T h' := by
  unfold chkI at h
  simp only at h
  split at h
  · rename_i os ho
    have hS : SOK lam eff T0.length hh [] (0, [], [], [], T0) hh := ⟨rfl, trivial, fun _ _ _ hm => (List.not_mem_nil hm).elim, fun _ _ _ hm => (List.not_mem_nil hm).elim, hT, rfl, FRM.refl hh⟩
    refine ⟨_, exM_ok hMT (fun h hf => hEX hh h hX hf) hi hsu ds k args _ os ho [] cAs hh hA hS, ?_⟩
    rintro r h' ⟨o, S', hm, τ, h1, h2⟩
    obtain ⟨n, env, fs, mm, H⟩ := S'
    have hk := okOs_ok h _ hm
    obtain ⟨hn, hE, hF, hM, hH, hL, hR⟩ := h2
    unfold okO at hk
    simp only at hk
    obtain ⟨k1, k2⟩ := bif_t hk
    refine ⟨?_, hR, sbH_ok hn hE rfl k2 hH⟩
    match res, o with
    | none, none => exact h1
    | none, some _ => cases k1
    | some (lo, hi'), none => cases k1
    | some (lo, hi'), some (.inl c) =>
      obtain ⟨y, rfl, z, hz, rfl⟩ := h1
      have k1 : (Nat.ble lo (bnd n env c).1 && Nat.ble (bnd n env c).2 hi') = true := k1
      rw [Bool.and_eq_true, Nat.ble_eq, Nat.ble_eq] at k1
      have hb := bnd_ok hn hE hz
      exact ⟨z, rfl, Nat.le_trans k1.1 hb.1, Nat.le_trans hb.2 k1.2⟩
    | some (lo, hi'), some (.inr _) => cases k1
  · cases h
theorem eI_inj {n : Nat} {f g : FA} (h : (eI n f : PE) = eI n g) : f = g := by
  have h := Sum.inl.inj (Sum.inl.inj h)
  exact (Prod.mk.inj (Prod.mk.inj h).2).2
/-- all segments of one place -/
def ones (sg : List (Nat × Nat × Nat)) : Bool := sg.all (fun s => Nat.beq s.1 1)
theorem seg_at {sg : List (Nat × Nat × Nat)} : ∀ {f : FA} {i lo hi : Nat}, ones sg = true → SegOK sg f → nth sg i = some (1, lo, hi) → inb lo hi (f i) := by
  induction sg with
  | nil => intro f i lo hi h1 h2 h3; cases h3
  | cons s t ih =>
    intro f i lo hi h1 h2 h3
    have h1 : (Nat.beq s.1 1 && ones t) = true := h1
    rw [Bool.and_eq_true, Nat.beq_eq] at h1
    cases i with
    | zero =>
      have h3 : s = (1, lo, hi) := by injection h3
      subst h3
      exact h2.1 0 (show 0 < 1 by decide)
    | succ i =>
      have := ih (f := fun j => f (s.1 + j)) h1.2 h2.2 h3
      rw [h1.1, Nat.add_comm] at this
      exact this
theorem seg_st {sg : List (Nat × Nat × Nat)} : ∀ {f : FA} {i lo hi : Nat}, ones sg = true → SegOK sg f → inb lo hi (f i) → SegOK (stl sg (1, lo, hi) i) f := by
  induction sg with
  | nil => intro f i lo hi h1 h2 h3; exact trivial
  | cons s t ih =>
    intro f i lo hi h1 h2 h3
    have h1 : (Nat.beq s.1 1 && ones t) = true := h1
    rw [Bool.and_eq_true, Nat.beq_eq] at h1
    cases i with
    | zero =>
      refine ⟨fun j hj => ?_, ?_⟩
      · have hj : j < 1 := hj
        have : j = 0 := by omega
        subst this
        exact h3
      · have := h2.2
        rw [h1.1] at this
        exact this
    | succ i =>
      refine ⟨h2.1, ih (f := fun j => f (s.1 + j)) h1.2 h2.2 ?_⟩
      show inb lo hi (f (s.1 + i))
      rw [h1.1, Nat.add_comm]
      exact h3
theorem ones_st {sg : List (Nat × Nat × Nat)} : ∀ {i lo hi : Nat}, ones sg = true → ones (stl sg (1, lo, hi) i) = true := by
  induction sg with
  | nil => intro i lo hi h; exact h
  | cons s t ih =>
    intro i lo hi h
    have h : (Nat.beq s.1 1 && ones t) = true := h
    rw [Bool.and_eq_true] at h
    cases i with
    | zero => show (Nat.beq 1 1 && ones t) = true; rw [h.2]; rfl
    | succ i => show (Nat.beq s.1 1 && ones (stl t (1, lo, hi) i)) = true; rw [h.1, ih h.2]; rfl
/-- deeds: a putty lies on the wax -/
def DD (f : FA) : Prop := ∀ j, j < 16 → f (5 * j + 2) = 1 → inb 2147483648 2147483659 (f (5 * j + 3)) ∧ inb 2147483648 2147483659 (f (5 * j + 4))
def DDH (lam : Nat → Nat) (h : PH) : Prop := ∃ f, h[lam 19]? = some (eI 160 f) ∧ DD f
def dSg : List (Nat × Nat × Nat) := [(1, 2147483648, 2147484647), (1, 2147483648, 2147483659), (1, 2147483648, 2147483650), (1, 2147483648, 2147483667), (1, 2147483647, 2147483659), (1, 2147483648, 2147484647), (1, 2147483648, 2147483659), (1, 2147483648, 2147483650), (1, 2147483648, 2147483667), (1, 2147483647, 2147483659), (1, 2147483648, 2147484647), (1, 2147483648, 2147483659), (1, 2147483648, 2147483650), (1, 2147483648, 2147483667), (1, 2147483647, 2147483659), (1, 2147483648, 2147484647), (1, 2147483648, 2147483659), (1, 2147483648, 2147483650), (1, 2147483648, 2147483667), (1, 2147483647, 2147483659), (1, 2147483648, 2147484647), (1, 2147483648, 2147483659), (1, 2147483648, 2147483650), (1, 2147483648, 2147483667), (1, 2147483647, 2147483659), (1, 2147483648, 2147484647), (1, 2147483648, 2147483659), (1, 2147483648, 2147483650), (1, 2147483648, 2147483667), (1, 2147483647, 2147483659), (1, 2147483648, 2147484647), (1, 2147483648, 2147483659), (1, 2147483648, 2147483650), (1, 2147483648, 2147483667), (1, 2147483647, 2147483659), (1, 2147483648, 2147484647), (1, 2147483648, 2147483659), (1, 2147483648, 2147483650), (1, 2147483648, 2147483667), (1, 2147483647, 2147483659), (1, 2147483648, 2147484647), (1, 2147483648, 2147483659), (1, 2147483648, 2147483650), (1, 2147483648, 2147483667), (1, 2147483647, 2147483659), (1, 2147483648, 2147484647), (1, 2147483648, 2147483659), (1, 2147483648, 2147483650), (1, 2147483648, 2147483667), (1, 2147483647, 2147483659), (1, 2147483648, 2147484647), (1, 2147483648, 2147483659), (1, 2147483648, 2147483650), (1, 2147483648, 2147483667), (1, 2147483647, 2147483659), (1, 2147483648, 2147484647), (1, 2147483648, 2147483659), (1, 2147483648, 2147483650), (1, 2147483648, 2147483667), (1, 2147483647, 2147483659), (1, 2147483648, 2147484647), (1, 2147483648, 2147483659), (1, 2147483648, 2147483650), (1, 2147483648, 2147483667), (1, 2147483647, 2147483659), (1, 2147483648, 2147484647), (1, 2147483648, 2147483659), (1, 2147483648, 2147483650), (1, 2147483648, 2147483667), (1, 2147483647, 2147483659), (1, 2147483648, 2147484647), (1, 2147483648, 2147483659), (1, 2147483648, 2147483650), (1, 2147483648, 2147483667), (1, 2147483647, 2147483659), (1, 2147483648, 2147484647), (1, 2147483648, 2147483659), (1, 2147483648, 2147483650), (1, 2147483648, 2147483667), (1, 2147483647, 2147483659), (1, 2147483647, 2147484647), (1, 2147483647, 2147483659), (1, 2147483648, 2147483650), (1, 2147483647, 2147483667), (1, 2147483647, 2147483659), (1, 2147483647, 2147484647), (1, 2147483647, 2147483659), (1, 2147483648, 2147483650), (1, 2147483647, 2147483667), (1, 2147483647, 2147483659), (1, 2147483647, 2147484647), (1, 2147483647, 2147483659), (1, 2147483648, 2147483650), (1, 2147483647, 2147483667), (1, 2147483647, 2147483659), (1, 2147483647, 2147484647), (1, 2147483647, 2147483659), (1, 2147483648, 2147483650), (1, 2147483647, 2147483667), (1, 2147483647, 2147483659), (1, 2147483647, 2147484647), (1, 2147483647, 2147483659), (1, 2147483648, 2147483650), (1, 2147483647, 2147483667), (1, 2147483647, 2147483659), (1, 2147483647, 2147484647), (1, 2147483647, 2147483659), (1, 2147483648, 2147483650), (1, 2147483647, 2147483667), (1, 2147483647, 2147483659), (1, 2147483647, 2147484647), (1, 2147483647, 2147483659), (1, 2147483648, 2147483650), (1, 2147483647, 2147483667), (1, 2147483647, 2147483659), (1, 2147483647, 2147484647), (1, 2147483647, 2147483659), (1, 2147483648, 2147483650), (1, 2147483647, 2147483667), (1, 2147483647, 2147483659), (1, 2147483647, 2147484647), (1, 2147483647, 2147483659), (1, 2147483648, 2147483650), (1, 2147483647, 2147483667), (1, 2147483647, 2147483659), (1, 2147483647, 2147484647), (1, 2147483647, 2147483659), (1, 2147483648, 2147483650), (1, 2147483647, 2147483667), (1, 2147483647, 2147483659), (1, 2147483647, 2147484647), (1, 2147483647, 2147483659), (1, 2147483648, 2147483650), (1, 2147483647, 2147483667), (1, 2147483647, 2147483659), (1, 2147483647, 2147484647), (1, 2147483647, 2147483659), (1, 2147483648, 2147483650), (1, 2147483647, 2147483667), (1, 2147483647, 2147483659), (1, 2147483647, 2147484647), (1, 2147483647, 2147483659), (1, 2147483648, 2147483650), (1, 2147483647, 2147483667), (1, 2147483647, 2147483659), (1, 2147483647, 2147484647), (1, 2147483647, 2147483659), (1, 2147483648, 2147483650), (1, 2147483647, 2147483667), (1, 2147483647, 2147483659), (1, 2147483647, 2147484647), (1, 2147483647, 2147483659), (1, 2147483648, 2147483650), (1, 2147483647, 2147483667), (1, 2147483647, 2147483659), (1, 2147483647, 2147484647), (1, 2147483647, 2147483659), (1, 2147483648, 2147483650), (1, 2147483647, 2147483667), (1, 2147483647, 2147483659)]
theorem d_ones : ones dSg = true := by decide
/-- the template with three numbers of a line narrower -/
noncomputable def TD (j k3 a b c d e : Nat) : List AC := stl TRf (.inl (.inl (.inl 2147483808, 0, stl (stl (stl dSg (1, k3, k3) (5 * j + 2)) (1, a, b) (5 * j + 3)) (1, c, d) (5 * j + 4)))) 19
theorem TD_ok {lam : Nat → Nat} {h : PH} {f : FA} {j k3 a b c d e : Nat} (hT : HOK lam [] TRf h) (hf : h[lam 19]? = some (eI 160 f)) (h3 : inb k3 k3 (f (5 * j + 2))) (h4 : inb a b (f (5 * j + 3))) (h5 : inb c d (f (5 * j + 4))) : HOK lam [] (TD j k3 a b c d e) h := by
  refine hT.put hf ⟨160, f, rfl, by decide, ⟨_, val_c (by decide), by decide⟩, ?_, PRD_0⟩
  obtain ⟨g, h1, h2, -⟩ := arr_of (k := 19) (c := 160) (p := 0) (sg := dSg) (by decide) (hT 19 _ rfl)
  rw [hf] at h1
  have e2 := eI_inj (Option.some.inj h1)
  subst e2
  exact seg_st (ones_st (ones_st d_ones)) (seg_st (ones_st d_ones) (seg_st d_ones h2 h3) h4) h5
theorem does_0 (l : Launch) (G : PG) (lam : Nat → Nat) (hl : LAMR lam) (EX : PH → Prop) (hx : EXK lam EX) (hd : ∀ h, EX h → DDH lam h) : SUOK lam TRf EX l G kr_m3 := by
  intro cAs h hA hT hX
  obtain ⟨f, hf, hD⟩ := hd h hX
  obtain ⟨g, h1, h2, -⟩ := arr_of (k := 19) (c := 160) (p := 0) (sg := dSg) (by decide) (hT 19 _ rfl)
  rw [hf] at h1
  have e2 := eI_inj (Option.some.inj h1)
  subst e2
  have b2 := seg_at (i := 2) (lo := 2147483648) (hi := 2147483650) d_ones h2 rfl
  have b3 := seg_at (i := 3) (lo := 2147483648) (hi := 2147483667) d_ones h2 rfl
  have b4 := seg_at (i := 4) (lo := 2147483647) (hi := 2147483659) d_ones h2 rfl
  have hk : ky (f 2) = 2147483648 ∨ ky (f 2) = 2147483649 ∨ ky (f 2) = 2147483650 := by
    obtain ⟨c1, c2⟩ := b2
    omega
  rcases hk with q | q | q
  · exact chkI_ok (T0 := TD 0 2147483648 2147483648 2147483667 2147483647 2147483659 0) (sums := []) (F := 20000) MT_ok (hx _ (by decide +kernel)) (hiL hl (by decide +kernel)) sun (by decide +kernel) hA (TD_ok (j := 0) hT hf ⟨Nat.le_of_eq q.symm, Nat.le_of_eq q⟩ b3 b4) hX
  · have k1 : ky (1 : Int32) = 2147483649 := by decide
    obtain ⟨d3, d4⟩ := hD 0 (by decide) (ky_inj (by rw [k1]; exact q))
    exact chkI_ok (T0 := TD 0 2147483649 2147483648 2147483659 2147483648 2147483659 0) (sums := [kr_q10]) (F := 20000) MT_ok (hx _ (by decide +kernel)) (hiL hl (by decide +kernel)) (suc (kr_q10_ok l G lam hl EX hx) sun) (by decide +kernel) hA (TD_ok (j := 0) hT hf ⟨Nat.le_of_eq q.symm, Nat.le_of_eq q⟩ d3 d4) hX
  · exact chkI_ok (T0 := TD 0 2147483650 2147483648 2147483667 2147483647 2147483659 0) (sums := []) (F := 20000) MT_ok (hx _ (by decide +kernel)) (hiL hl (by decide +kernel)) sun (by decide +kernel) hA (TD_ok (j := 0) hT hf ⟨Nat.le_of_eq q.symm, Nat.le_of_eq q⟩ b3 b4) hX
theorem does_1 (l : Launch) (G : PG) (lam : Nat → Nat) (hl : LAMR lam) (EX : PH → Prop) (hx : EXK lam EX) (hd : ∀ h, EX h → DDH lam h) : SUOK lam TRf EX l G kr_m4 := by
  intro cAs h hA hT hX
  obtain ⟨f, hf, hD⟩ := hd h hX
  obtain ⟨g, h1, h2, -⟩ := arr_of (k := 19) (c := 160) (p := 0) (sg := dSg) (by decide) (hT 19 _ rfl)
  rw [hf] at h1
  have e2 := eI_inj (Option.some.inj h1)
  subst e2
  have b2 := seg_at (i := 7) (lo := 2147483648) (hi := 2147483650) d_ones h2 rfl
  have b3 := seg_at (i := 8) (lo := 2147483648) (hi := 2147483667) d_ones h2 rfl
  have b4 := seg_at (i := 9) (lo := 2147483647) (hi := 2147483659) d_ones h2 rfl
  have hk : ky (f 7) = 2147483648 ∨ ky (f 7) = 2147483649 ∨ ky (f 7) = 2147483650 := by
    obtain ⟨c1, c2⟩ := b2
    omega
  rcases hk with q | q | q
  · exact chkI_ok (T0 := TD 1 2147483648 2147483648 2147483667 2147483647 2147483659 0) (sums := []) (F := 20000) MT_ok (hx _ (by decide +kernel)) (hiL hl (by decide +kernel)) sun (by decide +kernel) hA (TD_ok (j := 1) hT hf ⟨Nat.le_of_eq q.symm, Nat.le_of_eq q⟩ b3 b4) hX
  · have k1 : ky (1 : Int32) = 2147483649 := by decide
    obtain ⟨d3, d4⟩ := hD 1 (by decide) (ky_inj (by rw [k1]; exact q))
    exact chkI_ok (T0 := TD 1 2147483649 2147483648 2147483659 2147483648 2147483659 0) (sums := [kr_q10]) (F := 20000) MT_ok (hx _ (by decide +kernel)) (hiL hl (by decide +kernel)) (suc (kr_q10_ok l G lam hl EX hx) sun) (by decide +kernel) hA (TD_ok (j := 1) hT hf ⟨Nat.le_of_eq q.symm, Nat.le_of_eq q⟩ d3 d4) hX
  · exact chkI_ok (T0 := TD 1 2147483650 2147483648 2147483667 2147483647 2147483659 0) (sums := []) (F := 20000) MT_ok (hx _ (by decide +kernel)) (hiL hl (by decide +kernel)) sun (by decide +kernel) hA (TD_ok (j := 1) hT hf ⟨Nat.le_of_eq q.symm, Nat.le_of_eq q⟩ b3 b4) hX
theorem does_2 (l : Launch) (G : PG) (lam : Nat → Nat) (hl : LAMR lam) (EX : PH → Prop) (hx : EXK lam EX) (hd : ∀ h, EX h → DDH lam h) : SUOK lam TRf EX l G kr_m5 := by
  intro cAs h hA hT hX
  obtain ⟨f, hf, hD⟩ := hd h hX
  obtain ⟨g, h1, h2, -⟩ := arr_of (k := 19) (c := 160) (p := 0) (sg := dSg) (by decide) (hT 19 _ rfl)
  rw [hf] at h1
  have e2 := eI_inj (Option.some.inj h1)
  subst e2
  have b2 := seg_at (i := 12) (lo := 2147483648) (hi := 2147483650) d_ones h2 rfl
  have b3 := seg_at (i := 13) (lo := 2147483648) (hi := 2147483667) d_ones h2 rfl
  have b4 := seg_at (i := 14) (lo := 2147483647) (hi := 2147483659) d_ones h2 rfl
  have hk : ky (f 12) = 2147483648 ∨ ky (f 12) = 2147483649 ∨ ky (f 12) = 2147483650 := by
    obtain ⟨c1, c2⟩ := b2
    omega
  rcases hk with q | q | q
  · exact chkI_ok (T0 := TD 2 2147483648 2147483648 2147483667 2147483647 2147483659 0) (sums := []) (F := 20000) MT_ok (hx _ (by decide +kernel)) (hiL hl (by decide +kernel)) sun (by decide +kernel) hA (TD_ok (j := 2) hT hf ⟨Nat.le_of_eq q.symm, Nat.le_of_eq q⟩ b3 b4) hX
  · have k1 : ky (1 : Int32) = 2147483649 := by decide
    obtain ⟨d3, d4⟩ := hD 2 (by decide) (ky_inj (by rw [k1]; exact q))
    exact chkI_ok (T0 := TD 2 2147483649 2147483648 2147483659 2147483648 2147483659 0) (sums := [kr_q10]) (F := 20000) MT_ok (hx _ (by decide +kernel)) (hiL hl (by decide +kernel)) (suc (kr_q10_ok l G lam hl EX hx) sun) (by decide +kernel) hA (TD_ok (j := 2) hT hf ⟨Nat.le_of_eq q.symm, Nat.le_of_eq q⟩ d3 d4) hX
  · exact chkI_ok (T0 := TD 2 2147483650 2147483648 2147483667 2147483647 2147483659 0) (sums := []) (F := 20000) MT_ok (hx _ (by decide +kernel)) (hiL hl (by decide +kernel)) sun (by decide +kernel) hA (TD_ok (j := 2) hT hf ⟨Nat.le_of_eq q.symm, Nat.le_of_eq q⟩ b3 b4) hX
theorem does_3 (l : Launch) (G : PG) (lam : Nat → Nat) (hl : LAMR lam) (EX : PH → Prop) (hx : EXK lam EX) (hd : ∀ h, EX h → DDH lam h) : SUOK lam TRf EX l G kr_m6 := by
  intro cAs h hA hT hX
  obtain ⟨f, hf, hD⟩ := hd h hX
  obtain ⟨g, h1, h2, -⟩ := arr_of (k := 19) (c := 160) (p := 0) (sg := dSg) (by decide) (hT 19 _ rfl)
  rw [hf] at h1
  have e2 := eI_inj (Option.some.inj h1)
  subst e2
  have b2 := seg_at (i := 17) (lo := 2147483648) (hi := 2147483650) d_ones h2 rfl
  have b3 := seg_at (i := 18) (lo := 2147483648) (hi := 2147483667) d_ones h2 rfl
  have b4 := seg_at (i := 19) (lo := 2147483647) (hi := 2147483659) d_ones h2 rfl
  have hk : ky (f 17) = 2147483648 ∨ ky (f 17) = 2147483649 ∨ ky (f 17) = 2147483650 := by
    obtain ⟨c1, c2⟩ := b2
    omega
  rcases hk with q | q | q
  · exact chkI_ok (T0 := TD 3 2147483648 2147483648 2147483667 2147483647 2147483659 0) (sums := []) (F := 20000) MT_ok (hx _ (by decide +kernel)) (hiL hl (by decide +kernel)) sun (by decide +kernel) hA (TD_ok (j := 3) hT hf ⟨Nat.le_of_eq q.symm, Nat.le_of_eq q⟩ b3 b4) hX
  · have k1 : ky (1 : Int32) = 2147483649 := by decide
    obtain ⟨d3, d4⟩ := hD 3 (by decide) (ky_inj (by rw [k1]; exact q))
    exact chkI_ok (T0 := TD 3 2147483649 2147483648 2147483659 2147483648 2147483659 0) (sums := [kr_q10]) (F := 20000) MT_ok (hx _ (by decide +kernel)) (hiL hl (by decide +kernel)) (suc (kr_q10_ok l G lam hl EX hx) sun) (by decide +kernel) hA (TD_ok (j := 3) hT hf ⟨Nat.le_of_eq q.symm, Nat.le_of_eq q⟩ d3 d4) hX
  · exact chkI_ok (T0 := TD 3 2147483650 2147483648 2147483667 2147483647 2147483659 0) (sums := []) (F := 20000) MT_ok (hx _ (by decide +kernel)) (hiL hl (by decide +kernel)) sun (by decide +kernel) hA (TD_ok (j := 3) hT hf ⟨Nat.le_of_eq q.symm, Nat.le_of_eq q⟩ b3 b4) hX
theorem does_4 (l : Launch) (G : PG) (lam : Nat → Nat) (hl : LAMR lam) (EX : PH → Prop) (hx : EXK lam EX) (hd : ∀ h, EX h → DDH lam h) : SUOK lam TRf EX l G kr_m7 := by
  intro cAs h hA hT hX
  obtain ⟨f, hf, hD⟩ := hd h hX
  obtain ⟨g, h1, h2, -⟩ := arr_of (k := 19) (c := 160) (p := 0) (sg := dSg) (by decide) (hT 19 _ rfl)
  rw [hf] at h1
  have e2 := eI_inj (Option.some.inj h1)
  subst e2
  have b2 := seg_at (i := 22) (lo := 2147483648) (hi := 2147483650) d_ones h2 rfl
  have b3 := seg_at (i := 23) (lo := 2147483648) (hi := 2147483667) d_ones h2 rfl
  have b4 := seg_at (i := 24) (lo := 2147483647) (hi := 2147483659) d_ones h2 rfl
  have hk : ky (f 22) = 2147483648 ∨ ky (f 22) = 2147483649 ∨ ky (f 22) = 2147483650 := by
    obtain ⟨c1, c2⟩ := b2
    omega
  rcases hk with q | q | q
  · exact chkI_ok (T0 := TD 4 2147483648 2147483648 2147483667 2147483647 2147483659 0) (sums := []) (F := 20000) MT_ok (hx _ (by decide +kernel)) (hiL hl (by decide +kernel)) sun (by decide +kernel) hA (TD_ok (j := 4) hT hf ⟨Nat.le_of_eq q.symm, Nat.le_of_eq q⟩ b3 b4) hX
  · have k1 : ky (1 : Int32) = 2147483649 := by decide
    obtain ⟨d3, d4⟩ := hD 4 (by decide) (ky_inj (by rw [k1]; exact q))
    exact chkI_ok (T0 := TD 4 2147483649 2147483648 2147483659 2147483648 2147483659 0) (sums := [kr_q10]) (F := 20000) MT_ok (hx _ (by decide +kernel)) (hiL hl (by decide +kernel)) (suc (kr_q10_ok l G lam hl EX hx) sun) (by decide +kernel) hA (TD_ok (j := 4) hT hf ⟨Nat.le_of_eq q.symm, Nat.le_of_eq q⟩ d3 d4) hX
  · exact chkI_ok (T0 := TD 4 2147483650 2147483648 2147483667 2147483647 2147483659 0) (sums := []) (F := 20000) MT_ok (hx _ (by decide +kernel)) (hiL hl (by decide +kernel)) sun (by decide +kernel) hA (TD_ok (j := 4) hT hf ⟨Nat.le_of_eq q.symm, Nat.le_of_eq q⟩ b3 b4) hX
theorem does_5 (l : Launch) (G : PG) (lam : Nat → Nat) (hl : LAMR lam) (EX : PH → Prop) (hx : EXK lam EX) (hd : ∀ h, EX h → DDH lam h) : SUOK lam TRf EX l G kr_m8 := by
  intro cAs h hA hT hX
  obtain ⟨f, hf, hD⟩ := hd h hX
  obtain ⟨g, h1, h2, -⟩ := arr_of (k := 19) (c := 160) (p := 0) (sg := dSg) (by decide) (hT 19 _ rfl)
  rw [hf] at h1
  have e2 := eI_inj (Option.some.inj h1)
  subst e2
  have b2 := seg_at (i := 27) (lo := 2147483648) (hi := 2147483650) d_ones h2 rfl
  have b3 := seg_at (i := 28) (lo := 2147483648) (hi := 2147483667) d_ones h2 rfl
  have b4 := seg_at (i := 29) (lo := 2147483647) (hi := 2147483659) d_ones h2 rfl
  have hk : ky (f 27) = 2147483648 ∨ ky (f 27) = 2147483649 ∨ ky (f 27) = 2147483650 := by
    obtain ⟨c1, c2⟩ := b2
    omega
  rcases hk with q | q | q
  · exact chkI_ok (T0 := TD 5 2147483648 2147483648 2147483667 2147483647 2147483659 0) (sums := []) (F := 20000) MT_ok (hx _ (by decide +kernel)) (hiL hl (by decide +kernel)) sun (by decide +kernel) hA (TD_ok (j := 5) hT hf ⟨Nat.le_of_eq q.symm, Nat.le_of_eq q⟩ b3 b4) hX
  · have k1 : ky (1 : Int32) = 2147483649 := by decide
    obtain ⟨d3, d4⟩ := hD 5 (by decide) (ky_inj (by rw [k1]; exact q))
    exact chkI_ok (T0 := TD 5 2147483649 2147483648 2147483659 2147483648 2147483659 0) (sums := [kr_q10]) (F := 20000) MT_ok (hx _ (by decide +kernel)) (hiL hl (by decide +kernel)) (suc (kr_q10_ok l G lam hl EX hx) sun) (by decide +kernel) hA (TD_ok (j := 5) hT hf ⟨Nat.le_of_eq q.symm, Nat.le_of_eq q⟩ d3 d4) hX
  · exact chkI_ok (T0 := TD 5 2147483650 2147483648 2147483667 2147483647 2147483659 0) (sums := []) (F := 20000) MT_ok (hx _ (by decide +kernel)) (hiL hl (by decide +kernel)) sun (by decide +kernel) hA (TD_ok (j := 5) hT hf ⟨Nat.le_of_eq q.symm, Nat.le_of_eq q⟩ b3 b4) hX
theorem does_6 (l : Launch) (G : PG) (lam : Nat → Nat) (hl : LAMR lam) (EX : PH → Prop) (hx : EXK lam EX) (hd : ∀ h, EX h → DDH lam h) : SUOK lam TRf EX l G kr_m9 := by
  intro cAs h hA hT hX
  obtain ⟨f, hf, hD⟩ := hd h hX
  obtain ⟨g, h1, h2, -⟩ := arr_of (k := 19) (c := 160) (p := 0) (sg := dSg) (by decide) (hT 19 _ rfl)
  rw [hf] at h1
  have e2 := eI_inj (Option.some.inj h1)
  subst e2
  have b2 := seg_at (i := 32) (lo := 2147483648) (hi := 2147483650) d_ones h2 rfl
  have b3 := seg_at (i := 33) (lo := 2147483648) (hi := 2147483667) d_ones h2 rfl
  have b4 := seg_at (i := 34) (lo := 2147483647) (hi := 2147483659) d_ones h2 rfl
  have hk : ky (f 32) = 2147483648 ∨ ky (f 32) = 2147483649 ∨ ky (f 32) = 2147483650 := by
    obtain ⟨c1, c2⟩ := b2
    omega
  rcases hk with q | q | q
  · exact chkI_ok (T0 := TD 6 2147483648 2147483648 2147483667 2147483647 2147483659 0) (sums := []) (F := 20000) MT_ok (hx _ (by decide +kernel)) (hiL hl (by decide +kernel)) sun (by decide +kernel) hA (TD_ok (j := 6) hT hf ⟨Nat.le_of_eq q.symm, Nat.le_of_eq q⟩ b3 b4) hX
  · have k1 : ky (1 : Int32) = 2147483649 := by decide
    obtain ⟨d3, d4⟩ := hD 6 (by decide) (ky_inj (by rw [k1]; exact q))
    exact chkI_ok (T0 := TD 6 2147483649 2147483648 2147483659 2147483648 2147483659 0) (sums := [kr_q10]) (F := 20000) MT_ok (hx _ (by decide +kernel)) (hiL hl (by decide +kernel)) (suc (kr_q10_ok l G lam hl EX hx) sun) (by decide +kernel) hA (TD_ok (j := 6) hT hf ⟨Nat.le_of_eq q.symm, Nat.le_of_eq q⟩ d3 d4) hX
  · exact chkI_ok (T0 := TD 6 2147483650 2147483648 2147483667 2147483647 2147483659 0) (sums := []) (F := 20000) MT_ok (hx _ (by decide +kernel)) (hiL hl (by decide +kernel)) sun (by decide +kernel) hA (TD_ok (j := 6) hT hf ⟨Nat.le_of_eq q.symm, Nat.le_of_eq q⟩ b3 b4) hX
theorem does_7 (l : Launch) (G : PG) (lam : Nat → Nat) (hl : LAMR lam) (EX : PH → Prop) (hx : EXK lam EX) (hd : ∀ h, EX h → DDH lam h) : SUOK lam TRf EX l G kr_m10 := by
  intro cAs h hA hT hX
  obtain ⟨f, hf, hD⟩ := hd h hX
  obtain ⟨g, h1, h2, -⟩ := arr_of (k := 19) (c := 160) (p := 0) (sg := dSg) (by decide) (hT 19 _ rfl)
  rw [hf] at h1
  have e2 := eI_inj (Option.some.inj h1)
  subst e2
  have b2 := seg_at (i := 37) (lo := 2147483648) (hi := 2147483650) d_ones h2 rfl
  have b3 := seg_at (i := 38) (lo := 2147483648) (hi := 2147483667) d_ones h2 rfl
  have b4 := seg_at (i := 39) (lo := 2147483647) (hi := 2147483659) d_ones h2 rfl
  have hk : ky (f 37) = 2147483648 ∨ ky (f 37) = 2147483649 ∨ ky (f 37) = 2147483650 := by
    obtain ⟨c1, c2⟩ := b2
    omega
  rcases hk with q | q | q
  · exact chkI_ok (T0 := TD 7 2147483648 2147483648 2147483667 2147483647 2147483659 0) (sums := []) (F := 20000) MT_ok (hx _ (by decide +kernel)) (hiL hl (by decide +kernel)) sun (by decide +kernel) hA (TD_ok (j := 7) hT hf ⟨Nat.le_of_eq q.symm, Nat.le_of_eq q⟩ b3 b4) hX
  · have k1 : ky (1 : Int32) = 2147483649 := by decide
    obtain ⟨d3, d4⟩ := hD 7 (by decide) (ky_inj (by rw [k1]; exact q))
    exact chkI_ok (T0 := TD 7 2147483649 2147483648 2147483659 2147483648 2147483659 0) (sums := [kr_q10]) (F := 20000) MT_ok (hx _ (by decide +kernel)) (hiL hl (by decide +kernel)) (suc (kr_q10_ok l G lam hl EX hx) sun) (by decide +kernel) hA (TD_ok (j := 7) hT hf ⟨Nat.le_of_eq q.symm, Nat.le_of_eq q⟩ d3 d4) hX
  · exact chkI_ok (T0 := TD 7 2147483650 2147483648 2147483667 2147483647 2147483659 0) (sums := []) (F := 20000) MT_ok (hx _ (by decide +kernel)) (hiL hl (by decide +kernel)) sun (by decide +kernel) hA (TD_ok (j := 7) hT hf ⟨Nat.le_of_eq q.symm, Nat.le_of_eq q⟩ b3 b4) hX
theorem does_8 (l : Launch) (G : PG) (lam : Nat → Nat) (hl : LAMR lam) (EX : PH → Prop) (hx : EXK lam EX) (hd : ∀ h, EX h → DDH lam h) : SUOK lam TRf EX l G kr_m11 := by
  intro cAs h hA hT hX
  obtain ⟨f, hf, hD⟩ := hd h hX
  obtain ⟨g, h1, h2, -⟩ := arr_of (k := 19) (c := 160) (p := 0) (sg := dSg) (by decide) (hT 19 _ rfl)
  rw [hf] at h1
  have e2 := eI_inj (Option.some.inj h1)
  subst e2
  have b2 := seg_at (i := 42) (lo := 2147483648) (hi := 2147483650) d_ones h2 rfl
  have b3 := seg_at (i := 43) (lo := 2147483648) (hi := 2147483667) d_ones h2 rfl
  have b4 := seg_at (i := 44) (lo := 2147483647) (hi := 2147483659) d_ones h2 rfl
  have hk : ky (f 42) = 2147483648 ∨ ky (f 42) = 2147483649 ∨ ky (f 42) = 2147483650 := by
    obtain ⟨c1, c2⟩ := b2
    omega
  rcases hk with q | q | q
  · exact chkI_ok (T0 := TD 8 2147483648 2147483648 2147483667 2147483647 2147483659 0) (sums := []) (F := 20000) MT_ok (hx _ (by decide +kernel)) (hiL hl (by decide +kernel)) sun (by decide +kernel) hA (TD_ok (j := 8) hT hf ⟨Nat.le_of_eq q.symm, Nat.le_of_eq q⟩ b3 b4) hX
  · have k1 : ky (1 : Int32) = 2147483649 := by decide
    obtain ⟨d3, d4⟩ := hD 8 (by decide) (ky_inj (by rw [k1]; exact q))
    exact chkI_ok (T0 := TD 8 2147483649 2147483648 2147483659 2147483648 2147483659 0) (sums := [kr_q10]) (F := 20000) MT_ok (hx _ (by decide +kernel)) (hiL hl (by decide +kernel)) (suc (kr_q10_ok l G lam hl EX hx) sun) (by decide +kernel) hA (TD_ok (j := 8) hT hf ⟨Nat.le_of_eq q.symm, Nat.le_of_eq q⟩ d3 d4) hX
  · exact chkI_ok (T0 := TD 8 2147483650 2147483648 2147483667 2147483647 2147483659 0) (sums := []) (F := 20000) MT_ok (hx _ (by decide +kernel)) (hiL hl (by decide +kernel)) sun (by decide +kernel) hA (TD_ok (j := 8) hT hf ⟨Nat.le_of_eq q.symm, Nat.le_of_eq q⟩ b3 b4) hX
theorem does_9 (l : Launch) (G : PG) (lam : Nat → Nat) (hl : LAMR lam) (EX : PH → Prop) (hx : EXK lam EX) (hd : ∀ h, EX h → DDH lam h) : SUOK lam TRf EX l G kr_m12 := by
  intro cAs h hA hT hX
  obtain ⟨f, hf, hD⟩ := hd h hX
  obtain ⟨g, h1, h2, -⟩ := arr_of (k := 19) (c := 160) (p := 0) (sg := dSg) (by decide) (hT 19 _ rfl)
  rw [hf] at h1
  have e2 := eI_inj (Option.some.inj h1)
  subst e2
  have b2 := seg_at (i := 47) (lo := 2147483648) (hi := 2147483650) d_ones h2 rfl
  have b3 := seg_at (i := 48) (lo := 2147483648) (hi := 2147483667) d_ones h2 rfl
  have b4 := seg_at (i := 49) (lo := 2147483647) (hi := 2147483659) d_ones h2 rfl
  have hk : ky (f 47) = 2147483648 ∨ ky (f 47) = 2147483649 ∨ ky (f 47) = 2147483650 := by
    obtain ⟨c1, c2⟩ := b2
    omega
  rcases hk with q | q | q
  · exact chkI_ok (T0 := TD 9 2147483648 2147483648 2147483667 2147483647 2147483659 0) (sums := []) (F := 20000) MT_ok (hx _ (by decide +kernel)) (hiL hl (by decide +kernel)) sun (by decide +kernel) hA (TD_ok (j := 9) hT hf ⟨Nat.le_of_eq q.symm, Nat.le_of_eq q⟩ b3 b4) hX
  · have k1 : ky (1 : Int32) = 2147483649 := by decide
    obtain ⟨d3, d4⟩ := hD 9 (by decide) (ky_inj (by rw [k1]; exact q))
    exact chkI_ok (T0 := TD 9 2147483649 2147483648 2147483659 2147483648 2147483659 0) (sums := [kr_q10]) (F := 20000) MT_ok (hx _ (by decide +kernel)) (hiL hl (by decide +kernel)) (suc (kr_q10_ok l G lam hl EX hx) sun) (by decide +kernel) hA (TD_ok (j := 9) hT hf ⟨Nat.le_of_eq q.symm, Nat.le_of_eq q⟩ d3 d4) hX
  · exact chkI_ok (T0 := TD 9 2147483650 2147483648 2147483667 2147483647 2147483659 0) (sums := []) (F := 20000) MT_ok (hx _ (by decide +kernel)) (hiL hl (by decide +kernel)) sun (by decide +kernel) hA (TD_ok (j := 9) hT hf ⟨Nat.le_of_eq q.symm, Nat.le_of_eq q⟩ b3 b4) hX
theorem does_10 (l : Launch) (G : PG) (lam : Nat → Nat) (hl : LAMR lam) (EX : PH → Prop) (hx : EXK lam EX) (hd : ∀ h, EX h → DDH lam h) : SUOK lam TRf EX l G kr_m13 := by
  intro cAs h hA hT hX
  obtain ⟨f, hf, hD⟩ := hd h hX
  obtain ⟨g, h1, h2, -⟩ := arr_of (k := 19) (c := 160) (p := 0) (sg := dSg) (by decide) (hT 19 _ rfl)
  rw [hf] at h1
  have e2 := eI_inj (Option.some.inj h1)
  subst e2
  have b2 := seg_at (i := 52) (lo := 2147483648) (hi := 2147483650) d_ones h2 rfl
  have b3 := seg_at (i := 53) (lo := 2147483648) (hi := 2147483667) d_ones h2 rfl
  have b4 := seg_at (i := 54) (lo := 2147483647) (hi := 2147483659) d_ones h2 rfl
  have hk : ky (f 52) = 2147483648 ∨ ky (f 52) = 2147483649 ∨ ky (f 52) = 2147483650 := by
    obtain ⟨c1, c2⟩ := b2
    omega
  rcases hk with q | q | q
  · exact chkI_ok (T0 := TD 10 2147483648 2147483648 2147483667 2147483647 2147483659 0) (sums := []) (F := 20000) MT_ok (hx _ (by decide +kernel)) (hiL hl (by decide +kernel)) sun (by decide +kernel) hA (TD_ok (j := 10) hT hf ⟨Nat.le_of_eq q.symm, Nat.le_of_eq q⟩ b3 b4) hX
  · have k1 : ky (1 : Int32) = 2147483649 := by decide
    obtain ⟨d3, d4⟩ := hD 10 (by decide) (ky_inj (by rw [k1]; exact q))
    exact chkI_ok (T0 := TD 10 2147483649 2147483648 2147483659 2147483648 2147483659 0) (sums := [kr_q10]) (F := 20000) MT_ok (hx _ (by decide +kernel)) (hiL hl (by decide +kernel)) (suc (kr_q10_ok l G lam hl EX hx) sun) (by decide +kernel) hA (TD_ok (j := 10) hT hf ⟨Nat.le_of_eq q.symm, Nat.le_of_eq q⟩ d3 d4) hX
  · exact chkI_ok (T0 := TD 10 2147483650 2147483648 2147483667 2147483647 2147483659 0) (sums := []) (F := 20000) MT_ok (hx _ (by decide +kernel)) (hiL hl (by decide +kernel)) sun (by decide +kernel) hA (TD_ok (j := 10) hT hf ⟨Nat.le_of_eq q.symm, Nat.le_of_eq q⟩ b3 b4) hX
theorem does_11 (l : Launch) (G : PG) (lam : Nat → Nat) (hl : LAMR lam) (EX : PH → Prop) (hx : EXK lam EX) (hd : ∀ h, EX h → DDH lam h) : SUOK lam TRf EX l G kr_m14 := by
  intro cAs h hA hT hX
  obtain ⟨f, hf, hD⟩ := hd h hX
  obtain ⟨g, h1, h2, -⟩ := arr_of (k := 19) (c := 160) (p := 0) (sg := dSg) (by decide) (hT 19 _ rfl)
  rw [hf] at h1
  have e2 := eI_inj (Option.some.inj h1)
  subst e2
  have b2 := seg_at (i := 57) (lo := 2147483648) (hi := 2147483650) d_ones h2 rfl
  have b3 := seg_at (i := 58) (lo := 2147483648) (hi := 2147483667) d_ones h2 rfl
  have b4 := seg_at (i := 59) (lo := 2147483647) (hi := 2147483659) d_ones h2 rfl
  have hk : ky (f 57) = 2147483648 ∨ ky (f 57) = 2147483649 ∨ ky (f 57) = 2147483650 := by
    obtain ⟨c1, c2⟩ := b2
    omega
  rcases hk with q | q | q
  · exact chkI_ok (T0 := TD 11 2147483648 2147483648 2147483667 2147483647 2147483659 0) (sums := []) (F := 20000) MT_ok (hx _ (by decide +kernel)) (hiL hl (by decide +kernel)) sun (by decide +kernel) hA (TD_ok (j := 11) hT hf ⟨Nat.le_of_eq q.symm, Nat.le_of_eq q⟩ b3 b4) hX
  · have k1 : ky (1 : Int32) = 2147483649 := by decide
    obtain ⟨d3, d4⟩ := hD 11 (by decide) (ky_inj (by rw [k1]; exact q))
    exact chkI_ok (T0 := TD 11 2147483649 2147483648 2147483659 2147483648 2147483659 0) (sums := [kr_q10]) (F := 20000) MT_ok (hx _ (by decide +kernel)) (hiL hl (by decide +kernel)) (suc (kr_q10_ok l G lam hl EX hx) sun) (by decide +kernel) hA (TD_ok (j := 11) hT hf ⟨Nat.le_of_eq q.symm, Nat.le_of_eq q⟩ d3 d4) hX
  · exact chkI_ok (T0 := TD 11 2147483650 2147483648 2147483667 2147483647 2147483659 0) (sums := []) (F := 20000) MT_ok (hx _ (by decide +kernel)) (hiL hl (by decide +kernel)) sun (by decide +kernel) hA (TD_ok (j := 11) hT hf ⟨Nat.le_of_eq q.symm, Nat.le_of_eq q⟩ b3 b4) hX
theorem does_12 (l : Launch) (G : PG) (lam : Nat → Nat) (hl : LAMR lam) (EX : PH → Prop) (hx : EXK lam EX) (hd : ∀ h, EX h → DDH lam h) : SUOK lam TRf EX l G kr_m15 := by
  intro cAs h hA hT hX
  obtain ⟨f, hf, hD⟩ := hd h hX
  obtain ⟨g, h1, h2, -⟩ := arr_of (k := 19) (c := 160) (p := 0) (sg := dSg) (by decide) (hT 19 _ rfl)
  rw [hf] at h1
  have e2 := eI_inj (Option.some.inj h1)
  subst e2
  have b2 := seg_at (i := 62) (lo := 2147483648) (hi := 2147483650) d_ones h2 rfl
  have b3 := seg_at (i := 63) (lo := 2147483648) (hi := 2147483667) d_ones h2 rfl
  have b4 := seg_at (i := 64) (lo := 2147483647) (hi := 2147483659) d_ones h2 rfl
  have hk : ky (f 62) = 2147483648 ∨ ky (f 62) = 2147483649 ∨ ky (f 62) = 2147483650 := by
    obtain ⟨c1, c2⟩ := b2
    omega
  rcases hk with q | q | q
  · exact chkI_ok (T0 := TD 12 2147483648 2147483648 2147483667 2147483647 2147483659 0) (sums := []) (F := 20000) MT_ok (hx _ (by decide +kernel)) (hiL hl (by decide +kernel)) sun (by decide +kernel) hA (TD_ok (j := 12) hT hf ⟨Nat.le_of_eq q.symm, Nat.le_of_eq q⟩ b3 b4) hX
  · have k1 : ky (1 : Int32) = 2147483649 := by decide
    obtain ⟨d3, d4⟩ := hD 12 (by decide) (ky_inj (by rw [k1]; exact q))
    exact chkI_ok (T0 := TD 12 2147483649 2147483648 2147483659 2147483648 2147483659 0) (sums := [kr_q10]) (F := 20000) MT_ok (hx _ (by decide +kernel)) (hiL hl (by decide +kernel)) (suc (kr_q10_ok l G lam hl EX hx) sun) (by decide +kernel) hA (TD_ok (j := 12) hT hf ⟨Nat.le_of_eq q.symm, Nat.le_of_eq q⟩ d3 d4) hX
  · exact chkI_ok (T0 := TD 12 2147483650 2147483648 2147483667 2147483647 2147483659 0) (sums := []) (F := 20000) MT_ok (hx _ (by decide +kernel)) (hiL hl (by decide +kernel)) sun (by decide +kernel) hA (TD_ok (j := 12) hT hf ⟨Nat.le_of_eq q.symm, Nat.le_of_eq q⟩ b3 b4) hX
theorem does_13 (l : Launch) (G : PG) (lam : Nat → Nat) (hl : LAMR lam) (EX : PH → Prop) (hx : EXK lam EX) (hd : ∀ h, EX h → DDH lam h) : SUOK lam TRf EX l G kr_m16 := by
  intro cAs h hA hT hX
  obtain ⟨f, hf, hD⟩ := hd h hX
  obtain ⟨g, h1, h2, -⟩ := arr_of (k := 19) (c := 160) (p := 0) (sg := dSg) (by decide) (hT 19 _ rfl)
  rw [hf] at h1
  have e2 := eI_inj (Option.some.inj h1)
  subst e2
  have b2 := seg_at (i := 67) (lo := 2147483648) (hi := 2147483650) d_ones h2 rfl
  have b3 := seg_at (i := 68) (lo := 2147483648) (hi := 2147483667) d_ones h2 rfl
  have b4 := seg_at (i := 69) (lo := 2147483647) (hi := 2147483659) d_ones h2 rfl
  have hk : ky (f 67) = 2147483648 ∨ ky (f 67) = 2147483649 ∨ ky (f 67) = 2147483650 := by
    obtain ⟨c1, c2⟩ := b2
    omega
  rcases hk with q | q | q
  · exact chkI_ok (T0 := TD 13 2147483648 2147483648 2147483667 2147483647 2147483659 0) (sums := []) (F := 20000) MT_ok (hx _ (by decide +kernel)) (hiL hl (by decide +kernel)) sun (by decide +kernel) hA (TD_ok (j := 13) hT hf ⟨Nat.le_of_eq q.symm, Nat.le_of_eq q⟩ b3 b4) hX
  · have k1 : ky (1 : Int32) = 2147483649 := by decide
    obtain ⟨d3, d4⟩ := hD 13 (by decide) (ky_inj (by rw [k1]; exact q))
    exact chkI_ok (T0 := TD 13 2147483649 2147483648 2147483659 2147483648 2147483659 0) (sums := [kr_q10]) (F := 20000) MT_ok (hx _ (by decide +kernel)) (hiL hl (by decide +kernel)) (suc (kr_q10_ok l G lam hl EX hx) sun) (by decide +kernel) hA (TD_ok (j := 13) hT hf ⟨Nat.le_of_eq q.symm, Nat.le_of_eq q⟩ d3 d4) hX
  · exact chkI_ok (T0 := TD 13 2147483650 2147483648 2147483667 2147483647 2147483659 0) (sums := []) (F := 20000) MT_ok (hx _ (by decide +kernel)) (hiL hl (by decide +kernel)) sun (by decide +kernel) hA (TD_ok (j := 13) hT hf ⟨Nat.le_of_eq q.symm, Nat.le_of_eq q⟩ b3 b4) hX
theorem does_14 (l : Launch) (G : PG) (lam : Nat → Nat) (hl : LAMR lam) (EX : PH → Prop) (hx : EXK lam EX) (hd : ∀ h, EX h → DDH lam h) : SUOK lam TRf EX l G kr_m17 := by
  intro cAs h hA hT hX
  obtain ⟨f, hf, hD⟩ := hd h hX
  obtain ⟨g, h1, h2, -⟩ := arr_of (k := 19) (c := 160) (p := 0) (sg := dSg) (by decide) (hT 19 _ rfl)
  rw [hf] at h1
  have e2 := eI_inj (Option.some.inj h1)
  subst e2
  have b2 := seg_at (i := 72) (lo := 2147483648) (hi := 2147483650) d_ones h2 rfl
  have b3 := seg_at (i := 73) (lo := 2147483648) (hi := 2147483667) d_ones h2 rfl
  have b4 := seg_at (i := 74) (lo := 2147483647) (hi := 2147483659) d_ones h2 rfl
  have hk : ky (f 72) = 2147483648 ∨ ky (f 72) = 2147483649 ∨ ky (f 72) = 2147483650 := by
    obtain ⟨c1, c2⟩ := b2
    omega
  rcases hk with q | q | q
  · exact chkI_ok (T0 := TD 14 2147483648 2147483648 2147483667 2147483647 2147483659 0) (sums := []) (F := 20000) MT_ok (hx _ (by decide +kernel)) (hiL hl (by decide +kernel)) sun (by decide +kernel) hA (TD_ok (j := 14) hT hf ⟨Nat.le_of_eq q.symm, Nat.le_of_eq q⟩ b3 b4) hX
  · have k1 : ky (1 : Int32) = 2147483649 := by decide
    obtain ⟨d3, d4⟩ := hD 14 (by decide) (ky_inj (by rw [k1]; exact q))
    exact chkI_ok (T0 := TD 14 2147483649 2147483648 2147483659 2147483648 2147483659 0) (sums := [kr_q10]) (F := 20000) MT_ok (hx _ (by decide +kernel)) (hiL hl (by decide +kernel)) (suc (kr_q10_ok l G lam hl EX hx) sun) (by decide +kernel) hA (TD_ok (j := 14) hT hf ⟨Nat.le_of_eq q.symm, Nat.le_of_eq q⟩ d3 d4) hX
  · exact chkI_ok (T0 := TD 14 2147483650 2147483648 2147483667 2147483647 2147483659 0) (sums := []) (F := 20000) MT_ok (hx _ (by decide +kernel)) (hiL hl (by decide +kernel)) sun (by decide +kernel) hA (TD_ok (j := 14) hT hf ⟨Nat.le_of_eq q.symm, Nat.le_of_eq q⟩ b3 b4) hX
theorem does_15 (l : Launch) (G : PG) (lam : Nat → Nat) (hl : LAMR lam) (EX : PH → Prop) (hx : EXK lam EX) (hd : ∀ h, EX h → DDH lam h) : SUOK lam TRf EX l G kr_m18 := by
  intro cAs h hA hT hX
  obtain ⟨f, hf, hD⟩ := hd h hX
  obtain ⟨g, h1, h2, -⟩ := arr_of (k := 19) (c := 160) (p := 0) (sg := dSg) (by decide) (hT 19 _ rfl)
  rw [hf] at h1
  have e2 := eI_inj (Option.some.inj h1)
  subst e2
  have b2 := seg_at (i := 77) (lo := 2147483648) (hi := 2147483650) d_ones h2 rfl
  have b3 := seg_at (i := 78) (lo := 2147483648) (hi := 2147483667) d_ones h2 rfl
  have b4 := seg_at (i := 79) (lo := 2147483647) (hi := 2147483659) d_ones h2 rfl
  have hk : ky (f 77) = 2147483648 ∨ ky (f 77) = 2147483649 ∨ ky (f 77) = 2147483650 := by
    obtain ⟨c1, c2⟩ := b2
    omega
  rcases hk with q | q | q
  · exact chkI_ok (T0 := TD 15 2147483648 2147483648 2147483667 2147483647 2147483659 0) (sums := []) (F := 20000) MT_ok (hx _ (by decide +kernel)) (hiL hl (by decide +kernel)) sun (by decide +kernel) hA (TD_ok (j := 15) hT hf ⟨Nat.le_of_eq q.symm, Nat.le_of_eq q⟩ b3 b4) hX
  · have k1 : ky (1 : Int32) = 2147483649 := by decide
    obtain ⟨d3, d4⟩ := hD 15 (by decide) (ky_inj (by rw [k1]; exact q))
    exact chkI_ok (T0 := TD 15 2147483649 2147483648 2147483659 2147483648 2147483659 0) (sums := [kr_q10]) (F := 20000) MT_ok (hx _ (by decide +kernel)) (hiL hl (by decide +kernel)) (suc (kr_q10_ok l G lam hl EX hx) sun) (by decide +kernel) hA (TD_ok (j := 15) hT hf ⟨Nat.le_of_eq q.symm, Nat.le_of_eq q⟩ d3 d4) hX
  · exact chkI_ok (T0 := TD 15 2147483650 2147483648 2147483667 2147483647 2147483659 0) (sums := []) (F := 20000) MT_ok (hx _ (by decide +kernel)) (hiL hl (by decide +kernel)) sun (by decide +kernel) hA (TD_ok (j := 15) hT hf ⟨Nat.le_of_eq q.symm, Nat.le_of_eq q⟩ b3 b4) hX
