/-! fields and places told exactly; runs of the checker with symbols at the start -/
def FLD (h : PH) (a j : Nat) (x : Int32) : Prop := ∃ c fs, h[a]? = some (eO c fs) ∧ fs[j]? = some (vI x)
def ATP (h : PH) (a p : Nat) (x : Int32) : Prop := ∃ N f, h[a]? = some (eI N f) ∧ f p = x
theorem FLD.keep {lam : Nat → Nat} {W : List (Nat × Nat)} {h h' : PH} {a j : Nat} {x : Int32} (hF : FRG lam W h h') (hn : ∀ k, (k, j) ∈ W → lam k ≠ a) (hx : FLD h a j x) : FLD h' a j x := by
  obtain ⟨c, fs, h1, h2⟩ := hx
  obtain ⟨y, hy, hk⟩ := hF.2 _ _ h1
  match y, hy, hk with
  | .inr (b1, b2), hy, hk =>
    exact ⟨b1, b2, hy, by rw [← hk.2.2 j (fun ⟨k, hm, e⟩ => hn k hm e)]; exact h2⟩
  | .inl (.inl a), _, hk => cases hk
  | .inl (.inr a), _, hk => cases hk
theorem ATP.keep {lam : Nat → Nat} {W : List (Nat × Nat)} {h h' : PH} {a p : Nat} {x : Int32} (hF : FRG lam W h h') (hn : ∀ k, (k, 999) ∈ W → lam k ≠ a) (hx : ATP h a p x) : ATP h' a p x := by
  obtain ⟨N, f, h1, h2⟩ := hx
  obtain ⟨y, hy, hk⟩ := hF.2 _ _ h1
  match y, hy, hk with
  | .inl (.inl (t, N', f')), hy, hk =>
    obtain ⟨k1, k2, k3⟩ := hk
    have k1 : 0 = t := k1
    subst k1
    have k3 : f = f' := k3 (fun ⟨k, hm, e⟩ => hn k hm e)
    subst k3
    exact ⟨N', f, hy, h2⟩
  | .inl (.inr a), _, hk => cases hk
  | .inr a, _, hk => cases hk
theorem FLD.inj {h : PH} {a j : Nat} {x y : Int32} (h1 : FLD h a j x) (h2 : FLD h a j y) : x = y := by
  obtain ⟨c, fs, e1, e2⟩ := h1
  obtain ⟨c', fs', e3, e4⟩ := h2
  have e := e1.symm.trans e3
  have e := Option.some.inj e
  injection e with e
  injection e with e5 e6
  subst e6
  have := e2.symm.trans e4
  exact Sum.inl.inj (Option.some.inj this)
theorem FLD.other {lam : Nat → Nat} {W : List (Nat × Nat)} {h h' : PH} {a j : Nat} {x : Int32} (hF : FRG lam W h h') (hn : ∀ k, lam k ≠ a) (hx : FLD h a j x) : FLD h' a j x := hx.keep hF (fun k _ => hn k)
theorem ATP.other {lam : Nat → Nat} {W : List (Nat × Nat)} {h h' : PH} {a p : Nat} {x : Int32} (hF : FRG lam W h h') (hn : ∀ k, lam k ≠ a) (hx : ATP h a p x) : ATP h' a p x := hx.keep hF (fun k _ => hn k)
theorem HOK_fld {lam : Nat → Nat} {T : List AC} {h : PH} {k q j lo hi : Nat} {vs : List AV} (hH : HOK lam [] T h) (hk : nth T k = some (.inr (q, vs))) (hj : nth vs j = some (.inr (.inr (.inr (lo, hi))))) : ∃ x, FLD h (lam k) j x ∧ inb lo hi x := by
  obtain ⟨x, hx, xs, rfl, rr⟩ := hH k _ hk
  obtain ⟨y, gy, z, rfl, hz⟩ := R2.get rr hj
  exact ⟨z, ⟨q, xs, hx, gy⟩, hz⟩
/-- one field of an object told more closely -/
theorem HOK_fix {lam : Nat → Nat} {ρ : List Int32} {T : List AC} {h : PH} {k q j : Nat} {vs : List AV} {x : Int32} {v : AV} (hH : HOK lam ρ T h) (hk : nth T k = some (.inr (q, vs))) (hx : FLD h (lam k) j x) (hv : vRel lam ρ v (vI x)) : HOK lam ρ (stl T (.inr (q, stl vs v j)) k) h := by
  intro k' c hc
  by_cases e : k' = k
  · subst e
    obtain ⟨y, hy, xs, rfl, rr⟩ := hH k' _ hk
    obtain ⟨c2, fs, g1, g2⟩ := hx
    have e := Option.some.inj (hy.symm.trans g1)
    injection e with e
    injection e with e5 e6
    subst e6
    rw [nth_eq, stl_eq, List.getElem?_set] at hc
    simp only [if_true] at hc
    split at hc
    · have hc := Option.some.inj hc
      subst hc
      refine ⟨_, hy, xs, rfl, ?_⟩
      refine R2_of (by rw [stl_len]; exact rr.len) (fun j' a ha => ?_)
      by_cases ej : j' = j
      · subst ej
        rw [nth_eq, stl_eq, List.getElem?_set] at ha
        simp only [if_true] at ha
        split at ha
        · have ha := Option.some.inj ha
          subst ha
          exact ⟨_, g2, hv⟩
        · cases ha
      · rw [nth_eq, stl_eq, List.getElem?_set_ne (fun z => ej z.symm), ← nth_eq] at ha
        exact R2.get rr ha
    · cases hc
  · rw [nth_eq, stl_eq, List.getElem?_set_ne (fun z => e z.symm), ← nth_eq] at hc
    exact hH k' c hc
/-- and less closely again -/
theorem HOK_unfix {lam : Nat → Nat} {ρ : List Int32} {T : List AC} {h : PH} {k q j lo hi : Nat} {vs : List AV} {v : AV} (hH : HOK lam ρ (stl T (.inr (q, stl vs v j)) k) h) (hk : nth T k = some (.inr (q, vs))) (hj : nth vs j = some (.inr (.inr (.inr (lo, hi))))) (hv : ∀ x, vRel lam ρ v x → ∃ z, x = vI z ∧ inb lo hi z) : HOK lam ρ T h ∧ ∃ x, FLD h (lam k) j x ∧ vRel lam ρ v (vI x) := by
  have hkl : k < T.length := by rw [nth_eq] at hk; exact (List.getElem?_eq_some_iff.mp hk).1
  have hjl : j < vs.length := by rw [nth_eq] at hj; exact (List.getElem?_eq_some_iff.mp hj).1
  have hc0 : nth (stl T (.inr (q, stl vs v j)) k) k = some (.inr (q, stl vs v j)) := by rw [nth_eq, stl_eq, List.getElem?_set]; simp [hkl]
  have hv0 : nth (stl vs v j) j = some v := by rw [nth_eq, stl_eq, List.getElem?_set]; simp [hjl]
  obtain ⟨x, hx, xs, rfl, rr⟩ := hH k _ hc0
  obtain ⟨y, gy, hy⟩ := R2.get rr hv0
  obtain ⟨z, rfl, hz⟩ := hv y hy
  refine ⟨?_, z, ⟨q, xs, hx, gy⟩, hy⟩
  intro k' c hc
  by_cases e : k' = k
  · subst e
    cases hk.symm.trans hc
    refine ⟨_, hx, xs, rfl, R2_of (by have := rr.len; rw [stl_len] at this; exact this) (fun j' a ha => ?_)⟩
    by_cases ej : j' = j
    · subst ej
      cases hj.symm.trans ha
      exact ⟨_, gy, z, rfl, hz⟩
    · exact R2.get rr (by rw [nth_eq, stl_eq, List.getElem?_set_ne (fun z => ej z.symm), ← nth_eq]; exact ha)
  · exact hH k' c (by rw [nth_eq, stl_eq, List.getElem?_set_ne (fun z => e z.symm), ← nth_eq]; exact hc)
noncomputable def okN (n1 : Nat) (T : List AC) (res : Option (Nat × Nat)) (o : AO) : Bool := match o with
  | (r, (n, env, _, _, H)) => bif (match res with
      | none => (match r with
        | none => true
        | some _ => false)
      | some (lo, hi) => (match r with
        | some (.inl c) => Nat.ble lo (bnd n env c).1 && Nat.ble (bnd n env c).2 hi
        | _ => false)) then sb2 (sbC n env n1) T H else false
noncomputable def okNs (n1 : Nat) (T : List AC) (res : Option (Nat × Nat)) (os : List AO) : Bool := List.rec (motive := fun _ => Bool) true (fun o _ ih => bif okN n1 T res o then ih else false) os
noncomputable def chkS (n0 : Nat) (env0 : List SE) (T0 T T1 : List AC) (sums : List SU) (MT : MTb) (F : Nat) (su : SU) : Bool := match su with
  | (k, ds, args, res, eff) => (match exM T sums eff MT F ds k args (n0, env0, [], [], T0) with
    | some os => okNs n0 T1 res os
    | none => false)
theorem okNs_ok {n1 : Nat} {T : List AC} {res : Option (Nat × Nat)} : ∀ {os : List AO}, okNs n1 T res os = true → ∀ o, o ∈ os → okN n1 T res o = true := by
  intro os
  induction os with
  | nil => intro _ o ho; cases ho
  | cons a t ih =>
    intro h o ho
    have h : (bif okN n1 T res a then okNs n1 T res t else false) = true := h
    obtain ⟨h1, h2⟩ := bif_t h
    rcases List.mem_cons.mp ho with rfl | ho'
    · exact h1
    · exact ih h2 o ho'
theorem chkS_ok {lam : Nat → Nat} {n0 : Nat} {env0 : List SE} {ρ0 : List Int32} {T0 T T1 : List AC} {sums : List SU} {EX : PH → Prop} {l : Launch} {G : PG} {MT : MTb} {F : Nat} {k ds : Nat} {args : List AV} {res : Option (Nat × Nat)} {eff : List (Nat × Nat)} (hMT : MTOK MT) (hEX : ∀ h0 h, EX h0 → FRM lam eff h0 h → EX h) (hi : ∀ k j, (k, j) ∈ eff → ∀ k', lam k = lam k' → k = k') (hsu : ∀ su, su ∈ sums → SUOK lam T EX l G su) (h : chkS n0 env0 T0 T T1 sums MT F (k, ds, args, res, eff) = true) {cAs : List PV} {hh : PH} (hn0 : n0 = env0.length) (hE0 : EnvOK env0 ρ0) (hA : R2 (vRel lam ρ0) args cAs) (hT : HOK lam ρ0 T0 hh) (hX : EX hh) : ∃ Φ0, PMet l G (mY k) (mC k) (mN k) (mR k) ds 0 0 cAs hh Φ0 ∧ ∀ r h', Φ0 r h' → RSO res r ∧ FRM lam eff hh h' ∧ HOK lam ρ0 T1 h' := by
  unfold chkS at h
  simp only at h
  split at h
  · rename_i os ho
    have hS : SOK lam eff T0.length hh ρ0 (n0, env0, [], [], T0) hh := ⟨hn0, hE0, fun _ _ _ hm => (List.not_mem_nil hm).elim, fun _ _ _ hm => (List.not_mem_nil hm).elim, hT, rfl, FRM.refl hh⟩
    refine ⟨_, exM_ok hMT (fun h hf => hEX hh h hX hf) hi hsu ds k args _ os ho ρ0 cAs hh hA hS, ?_⟩
    rintro r h' ⟨o, S', hm, τ, h1, h2⟩
    obtain ⟨n, env, fs, mm, H⟩ := S'
    have hk := okNs_ok h _ hm
    obtain ⟨hn, hE, hF, hM, hH, hL, hR⟩ := h2
    unfold okN at hk
    simp only at hk
    obtain ⟨k1, k2⟩ := bif_t hk
    refine ⟨?_, hR, sbH_ok hn hE (hn0.trans hE0.len) k2 hH⟩
    match res, o with
    | none, none => exact h1
    | none, some _ => cases k1
    | some (lo, hi'), none => cases k1
    | some (lo, hi'), some (.inl c) =>
      obtain ⟨y, rfl, z, hz, rfl⟩ := h1
      have k1 : (Nat.ble lo (bnd n env c).1 && Nat.ble (bnd n env c).2 hi') = true := k1
      rw [Bool.and_eq_true, Nat.ble_eq, Nat.ble_eq] at k1
      have hb := bnd_ok hn hE hz
      exact ⟨z, rfl, Nat.le_trans k1.1 hb.1, Nat.le_trans hb.2 k1.2⟩
    | some (lo, hi'), some (.inr _) => cases k1
  · cases h
