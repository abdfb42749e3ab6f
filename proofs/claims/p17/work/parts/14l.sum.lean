/-! methods, and what is known of them -/
abbrev MTb : Type := List (Nat × List CO × List (Nat × CU))
def mGd (k : Nat) : Prop := plainName (mY k).cls = true ∧ OKs (eOK (mY k).cls (mC k) (mN k) (mR k) (mP k)) (mP k) ∧ hpc (mP k) = 0
def MTOK (MT : MTb) : Prop := ∀ k nL co cu, nth MT k = some (nL, co, cu) → nL = mN k ∧ co = (mP k).map cnv ∧ mGd k
/-- method, depth, arguments, answer, what may change -/
abbrev SU : Type := Nat × Nat × List AV × Option (Nat × Nat) × List (Nat × Nat)
def RSO (res : Option (Nat × Nat)) (r : Option PV) : Prop := match res with
  | none => r = none
  | some b => ∃ z, r = some (vI z) ∧ inb b.1 b.2 z
def SUOK (lam : Nat → Nat) (T : List AC) (EX : PH → Prop) (l : Launch) (G : PG) (su : SU) : Prop := match su with
  | (k, ds, args, res, eff) => ∀ cAs h, R2 (vRel lam []) args cAs → HOK lam [] T h → EX h → ∃ Φ0, PMet l G (mY k) (mC k) (mN k) (mR k) ds 0 0 cAs h Φ0 ∧ ∀ r h', Φ0 r h' → RSO res r ∧ FRM lam eff h h' ∧ HOK lam [] T h'
noncomputable def allW (W : List (Nat × Nat)) (eff : List (Nat × Nat)) : Bool := List.rec (motive := fun _ => Bool) true (fun e _ ih => bif memW W e.1 e.2 then ih else false) eff
theorem allW_ok {W : List (Nat × Nat)} : ∀ {eff : List (Nat × Nat)}, allW W eff = true → ∀ q, q ∈ eff → q ∈ W := by
  intro eff
  induction eff with
  | nil => intro _ q hq; cases hq
  | cons e t ih =>
    intro h q hq
    have h : (bif memW W e.1 e.2 then allW W t else false) = true := h
    obtain ⟨h1, h2⟩ := bif_t h
    rcases List.mem_cons.mp hq with rfl | hq'
    · exact memW_ok h1
    · exact ih h2 q hq'
noncomputable def hw1 (T : List AC) (H : List AC) (k f : Nat) : Option (List AC) := match nth T k with
  | some (.inr (_, us)) => (match nth H k with
    | some (.inr (q, vs)) => (match nth us f with
      | some u => some (stl H (.inr (q, stl vs u f)) k)
      | none => none)
    | _ => none)
  | some (.inl c) => some (stl H (.inl c) k)
  | none => none
noncomputable def hvE (T : List AC) (eff : List (Nat × Nat)) : List AC → Option (List AC) := List.rec (motive := fun _ => List AC → Option (List AC)) (fun H => some H) (fun e _ ih H => match hw1 T H e.1 e.2 with
  | some H' => ih H'
  | none => none) eff
noncomputable def mmE (eff : List (Nat × Nat)) : List (Nat × Nat × Nat) → List (Nat × Nat × Nat) := List.rec (motive := fun _ => List (Nat × Nat × Nat) → List (Nat × Nat × Nat)) (fun m => m) (fun e _ ih m => ih (mmd m e.1)) eff
theorem mmE_ok {eff : List (Nat × Nat)} : ∀ {m : List (Nat × Nat × Nat)} {q : Nat × Nat × Nat}, q ∈ mmE eff m → q ∈ m ∧ ∀ e, e ∈ eff → q.1 ≠ e.1 := by
  induction eff with
  | nil => intro m q h; exact ⟨h, fun e he => by cases he⟩
  | cons e t ih =>
    intro m q h
    have h : q ∈ mmE t (mmd m e.1) := h
    obtain ⟨h1, h2⟩ := ih h
    obtain ⟨h3, h4⟩ := mmd_ok h1
    refine ⟨h3, fun e' he' => ?_⟩
    rcases List.mem_cons.mp he' with rfl | he''
    · exact h4
    · exact h2 e' he''
/-- cells but for the places of D -/
def cellX (lam : Nat → Nat) (ρ : List Int32) (D : Nat → Prop) (c : AC) (x : PE) : Prop := match c with
  | .inl (.inl (ln, p, sg)) => ∃ N f, x = eI N f ∧ N < 2147483648 ∧ vRel lam ρ ln (vI (Int32.ofNat N)) ∧ (¬ D 999 → SegOK sg f ∧ PRD ρ p f)
  | .inl (.inr (q, rs)) => ∃ f, x = eR q rs.length f ∧ (¬ D 999 → ∀ j o, nth rs j = some o → f j = o.map lam)
  | .inr (q, fs) => ∃ xs, x = eO q xs ∧ fs.length = xs.length ∧ ∀ j v, ¬ D j → nth fs j = some v → ∃ y, xs[j]? = some y ∧ vRel lam ρ v y
theorem R2_of {α β : Type} {r : α → β → Prop} : ∀ {l : List α} {m : List β}, l.length = m.length → (∀ j a, nth l j = some a → ∃ b, m[j]? = some b ∧ r a b) → R2 r l m := by
  intro l
  induction l with
  | nil => intro m h _; cases m with
    | nil => exact trivial
    | cons b t => cases h
  | cons a t ih =>
    intro m h hk
    cases m with
    | nil => cases h
    | cons b u =>
      obtain ⟨b', h1, h2⟩ := hk 0 a rfl
      have h1 : b = b' := by injection h1
      subst h1
      refine ⟨h2, ih (by simpa using h) (fun j a' hj => ?_)⟩
      obtain ⟨b', h3, h4⟩ := hk (j + 1) a' hj
      exact ⟨b', by rw [List.getElem?_cons_succ] at h3; exact h3, h4⟩
theorem cellX_0 {lam : Nat → Nat} {ρ : List Int32} {D : Nat → Prop} {c : AC} {x : PE} (hD : ∀ j, ¬ D j) (h : cellX lam ρ D c x) : cellOK lam ρ c x := by
  match c with
  | .inl (.inl (ln, p, sg)) => obtain ⟨N, f, h1, h2, h3, h4⟩ := h; exact ⟨N, f, h1, h2, h3, h4 (hD _)⟩
  | .inl (.inr (q, rs)) => obtain ⟨f, h1, h2⟩ := h; exact ⟨f, h1, h2 (hD _)⟩
  | .inr (q, fs) => obtain ⟨xs, h1, h2, h3⟩ := h; exact ⟨xs, h1, R2_of h2 (fun j v hj => h3 j v (hD j) hj)⟩
theorem cellX_of {lam : Nat → Nat} {ρ : List Int32} {D : Nat → Prop} {c : AC} {x y : PE} (h : cellOK lam ρ c x) (hk : kpt D x y) : cellX lam ρ D c y := by
  match c with
  | .inl (.inl (ln, p, sg)) =>
    obtain ⟨N, f, rfl, h2, h3, h4, h5⟩ := h
    match y with
    | .inl (.inl (t, N', f')) =>
      obtain ⟨k1, k2, k3⟩ := hk
      have k1 : 0 = t := k1
      have k2 : N = N' := k2
      subst k1; subst k2
      refine ⟨N, f', rfl, h2, h3, fun q => ?_⟩
      have k3 : f = f' := k3 q
      rw [← k3]; exact ⟨h4, h5⟩
    | .inl (.inr _) => cases hk
    | .inr _ => cases hk
  | .inl (.inr (q, rs)) =>
    obtain ⟨f, rfl, h2⟩ := h
    match y with
    | .inl (.inl _) => cases hk
    | .inl (.inr (t, N', f')) =>
      obtain ⟨k1, k2, k3⟩ := hk
      have k1 : q = t := k1
      have k2 : rs.length = N' := k2
      subst k1; subst k2
      refine ⟨f', rfl, fun q' => ?_⟩
      have k3 : f = f' := k3 q'
      rw [← k3]; exact h2
    | .inr _ => cases hk
  | .inr (q, fs) =>
    obtain ⟨xs, rfl, h2⟩ := h
    match y with
    | .inl _ => cases hk
    | .inr (t, ys) =>
      obtain ⟨k1, k2, k3⟩ := hk
      have k1 : q = t := k1
      have k2 : xs.length = ys.length := k2
      subst k1
      refine ⟨ys, rfl, h2.len.trans k2, fun j v hj hv => ?_⟩
      obtain ⟨y', h5, h6⟩ := h2.get hv
      have k3 : xs[j]? = ys[j]? := k3 j hj
      exact ⟨y', by rw [← k3]; exact h5, h6⟩
theorem hvE_ok {lam : Nat → Nat} {ρ : List Int32} {T : List AC} {h : PH} (hT : HOK lam [] T h) : ∀ (eff : List (Nat × Nat)) (H : List AC), (∀ k c, nth H k = some c → ∃ x, h[lam k]? = some x ∧ cellX lam ρ (fun j => (k, j) ∈ eff) c x) → ∀ H', hvE T eff H = some H' → HOK lam ρ H' h ∧ H'.length = H.length := by
  intro eff
  induction eff with
  | nil =>
    intro H hH H' hs
    have hs : some H = some H' := hs
    have hs := Option.some.inj hs
    subst hs
    refine ⟨fun k c hk => ?_, rfl⟩
    obtain ⟨x, h1, h2⟩ := hH k c hk
    exact ⟨x, h1, cellX_0 (fun j hj => by cases hj) h2⟩
  | cons e t ih =>
    intro H hH H' hs
    obtain ⟨ke, fe⟩ := e
    have hs : (match hw1 T H ke fe with
      | some H' => hvE T t H'
      | none => none) = some H' := hs
    split at hs
    case h_2 => cases hs
    rename_i H1 hH1
    have hup : ∀ c x, cellOK lam [] c x → cellOK lam ρ c x := fun c x q => by
      have := q.up ρ
      rwa [List.append_nil] at this
    have key : (∀ k c, nth H1 k = some c → ∃ x, h[lam k]? = some x ∧ cellX lam ρ (fun j => (k, j) ∈ t) c x) ∧ H1.length = H.length := by
      have other : ∀ (k : Nat) (c : AC), k ≠ ke → nth H k = some c → ∃ x, h[lam k]? = some x ∧ cellX lam ρ (fun j => (k, j) ∈ t) c x := by
        intro k c hk hc
        obtain ⟨x, h1, h2⟩ := hH k c hc
        refine ⟨x, h1, ?_⟩
        have hD : ∀ j, ((k, j) ∈ (ke, fe) :: t) = ((k, j) ∈ t) := by
          intro j
          rw [List.mem_cons]
          apply propext
          constructor
          · rintro (q | q)
            · injection q with q1 q2; exact absurd q1 hk
            · exact q
          · exact Or.inr
        simp only [hD] at h2
        exact h2
      have setc : ∀ c', (∀ x, h[lam ke]? = some x → cellX lam ρ (fun j => (ke, j) ∈ t) c' x) → (∃ x, h[lam ke]? = some x) → ∀ k c, nth (stl H c' ke) k = some c → ∃ x, h[lam k]? = some x ∧ cellX lam ρ (fun j => (k, j) ∈ t) c x := by
        intro c' h1 ⟨x, hx⟩ k c hc
        by_cases hk : k = ke
        · subst hk
          rw [nth_eq, stl_eq, List.getElem?_set] at hc
          simp only [if_true] at hc
          split at hc
          · have hc := Option.some.inj hc
            subst hc
            exact ⟨x, hx, h1 x hx⟩
          · cases hc
        · rw [nth_eq, stl_eq, List.getElem?_set_ne (fun q => hk q.symm), ← nth_eq] at hc
          exact other k c hk hc
      unfold hw1 at hH1
      split at hH1
      · rename_i q us hTk
        obtain ⟨xT, hxT, usx, rfl, hus⟩ := hT ke _ hTk
        split at hH1
        · rename_i q' vs hHk
          split at hH1
          · rename_i u hu
            have hH1 := Option.some.inj hH1
            subst hH1
            refine ⟨setc _ ?_ ⟨_, hxT⟩, by rw [stl_len]⟩
            intro x hx
            obtain ⟨x2, h1, xs, rfl, h2, h3⟩ := hH ke _ hHk
            rw [hx] at h1
            have h1 := Option.some.inj h1
            subst h1
            rw [hx] at hxT
            have hxT := Option.some.inj hxT
            injection hxT with hxT
            injection hxT with e1 e2
            subst e1
            subst e2
            refine ⟨xs, rfl, by rw [stl_len]; exact h2, fun j v hj hv => ?_⟩
            by_cases hjf : j = fe
            · subst hjf
              rw [nth_eq, stl_eq, List.getElem?_set] at hv
              simp only [if_true] at hv
              split at hv
              · have hv := Option.some.inj hv
                subst hv
                obtain ⟨y, q1, q2⟩ := hus.get hu
                refine ⟨y, q1, ?_⟩
                have := q2.up ρ
                rwa [List.append_nil] at this
              · cases hv
            · rw [nth_eq, stl_eq, List.getElem?_set_ne (fun q => hjf q.symm), ← nth_eq] at hv
              exact h3 j v (fun hm => by
                rcases List.mem_cons.mp hm with q | q
                · injection q with q1 q2; exact hjf q2
                · exact hj q) hv
          · cases hH1
        · cases hH1
      · rename_i c hTk
        obtain ⟨xT, hxT, hcT⟩ := hT ke _ hTk
        have hH1 := Option.some.inj hH1
        subst hH1
        refine ⟨setc _ ?_ ⟨_, hxT⟩, by rw [stl_len]⟩
        intro x hx
        rw [hx] at hxT
        have hxT := Option.some.inj hxT
        subst hxT
        exact cellX_of (hup _ _ hcT) (kpt.refl x)
      · cases hH1
    obtain ⟨k1, k2⟩ := key
    obtain ⟨k3, k4⟩ := ih _ k1 _ hs
    exact ⟨k3, k4.trans k2⟩

noncomputable def su1 (T : List AC) (W : List (Nat × Nat)) (d k : Nat) (As : List AV) (n : Nat) (env : List SE) (fs mm : List (Nat × Nat × Nat)) (H : List AC) (su : SU) : Option (List AO) := match su with
  | (k', ds, args, res, eff) => bif Nat.beq k k' then (bif (Nat.ble ds d && (sb2 (sbV n env 0) args As && (allW W eff && sb2 (sbC n env 0) T H))) then (match hvE T eff H with
    | some H' => (match res with
      | none => some [(none, (n, env, fs, mmE eff mm, H'))]
      | some (lo, hi) => nsy n env lo hi 99 0 0 (fun c n' env' => some [(some (.inl c), (n', env', fs, mmE eff mm, H'))]))
    | none => none) else none) else none
noncomputable def sumF (T : List AC) (sums : List SU) (W : List (Nat × Nat)) (d k : Nat) (As : List AV) (n : Nat) (env : List SE) (fs mm : List (Nat × Nat × Nat)) (H : List AC) : Option (List AO) := List.rec (motive := fun _ => Option (List AO)) none (fun su _ ih => match su1 T W d k As n env fs mm H su with
  | some os => some os
  | none => ih) sums
theorem su1_ok {lam : Nat → Nat} {T : List AC} {W : List (Nat × Nat)} {NH : Nat} {H0 : PH} {EX : PH → Prop} {l : Launch} {G : PG} {d k : Nat} {As : List AV} {n : Nat} {env : List SE} {fs mm : List (Nat × Nat × Nat)} {H : List AC} {su : SU} {os : List AO} (hEX : ∀ h, FRM lam W H0 h → EX h) (hi : ∀ k j, (k, j) ∈ W → ∀ k', lam k = lam k' → k = k') (hsu : SUOK lam T EX l G su) (hs : su1 T W d k As n env fs mm H su = some os) {ρ : List Int32} {cAs : List PV} {h : PH} (hA : R2 (vRel lam ρ) As cAs) (hS : SOK lam W NH H0 ρ (n, env, fs, mm, H) h) : ∃ d' Φ0, d' ≤ d ∧ PMet l G (mY k) (mC k) (mN k) (mR k) d' 0 0 cAs h Φ0 ∧ ∀ r h', Φ0 r h' → PHI lam W NH H0 ρ os r h' := by
  obtain ⟨k', ds, args, res, eff⟩ := su
  obtain ⟨hn, hE, hF, hM, hH, hL, hR⟩ := hS
  unfold su1 at hs
  obtain ⟨e0, hs1⟩ := bif_some hs
  obtain rfl := Nat.eq_of_beq_eq_true e0
  obtain ⟨e1, hs2⟩ := bif_some hs1
  simp only [Bool.and_eq_true, Nat.ble_eq] at e1
  obtain ⟨c1, c2, c3, c4⟩ := e1
  have hE' : EnvOK env (ρ ++ []) := by rw [List.append_nil]; exact hE
  have hA' : R2 (vRel lam (ρ ++ [])) As cAs := by rw [List.append_nil]; exact hA
  have hH' : HOK lam (ρ ++ []) H h := by rw [List.append_nil]; exact hH
  have hargs : R2 (vRel lam []) args cAs := sb2_R2 (R := vRel lam (ρ ++ [])) (R' := vRel lam []) (fun a s x q1 q2 => sbV_ok hn hE' rfl q1 q2) c2 hA'
  have hTT : HOK lam [] T h := sbH_ok hn hE' rfl c4 hH'
  obtain ⟨Φ0, hP, him⟩ := hsu cAs h hargs hTT (hEX h hR)
  refine ⟨ds, Φ0, c1, hP, fun r h' hph => ?_⟩
  obtain ⟨q1, q2, q3⟩ := him r h' hph
  have hW := allW_ok c3
  have hR' : FRM lam W H0 h' := hR.trans hW q2
  split at hs2
  · rename_i H1 hH1
    have hcell : ∀ k c, nth H k = some c → ∃ x, h'[lam k]? = some x ∧ cellX lam ρ (fun j => (k, j) ∈ eff) c x := by
      intro k c hk
      obtain ⟨x, h1, h2⟩ := hH k c hk
      obtain ⟨x', h3, h4⟩ := q2.2 (lam k) x h1
      refine ⟨x', h3, cellX_of h2 (h4.mono ?_)⟩
      rintro j ⟨k2, hk2, e2⟩
      have := hi k2 j (hW _ hk2) k e2
      subst this
      exact hk2
    obtain ⟨hH2, hlen⟩ := hvE_ok q3 eff H hcell H1 hH1
    have hM2 : MOK lam ρ (mmE eff mm) h' := by
      intro k2 i v hm
      obtain ⟨m1, m2⟩ := mmE_ok hm
      obtain ⟨N, f, a, b, h1, h2, h3, h4⟩ := hM k2 i v m1
      obtain ⟨x', h5, h6⟩ := q2.2 (lam k2) _ h1
      match x' with
      | .inl (.inl (t, N', f')) =>
        obtain ⟨g1, g2, g3⟩ := h6
        have g1 : 0 = t := g1
        have g2 : N = N' := g2
        subst g1; subst g2
        have g3 : f = f' := g3 (by
          rintro ⟨k3, hk3, e3⟩
          have := hi k3 999 (hW _ hk3) k2 e3
          exact m2 _ hk3 this.symm)
        subst g3
        exact ⟨N, f, a, b, h5, h2, h3, h4⟩
      | .inl (.inr _) => cases h6
      | .inr _ => cases h6
    match res with
    | none =>
      have hs3 := Option.some.inj hs2
      have q1 : r = none := q1
      exact ⟨none, (n, env, fs, mmE eff mm, H1), by rw [← hs3]; exact List.mem_cons_self, [], q1, hn, hE, hF, hM2, hH2, hlen.trans hL, hR'⟩
    | some (lo, hi') =>
      obtain ⟨z, rfl, hz⟩ := q1
      have hs2 : nsy n env lo hi' 99 0 0 (fun c n' env' => some [(some (.inl c), (n', env', fs, mmE eff mm, H1))]) = some os := hs2
      revert hs2
      refine nsy_ok (P := fun o => o = some os → PHI lam W NH H0 ρ os (some (vI z)) h') hn hE hz (fun q => absurd q (by decide)) ?_
      intro c n' env' τ e1 e2 e3 hs
      have hs := Option.some.inj hs
      exact ⟨some (.inl c), _, by rw [← hs]; exact List.mem_cons_self, τ, ⟨_, rfl, z, e3, rfl⟩, e1, e2, hF.up τ, hM2.up τ, hH2.up τ, hlen.trans hL, hR'⟩
  · cases hs2
theorem sumF_ok {lam : Nat → Nat} {T : List AC} {W : List (Nat × Nat)} {NH : Nat} {H0 : PH} {EX : PH → Prop} {l : Launch} {G : PG} {d k : Nat} {As : List AV} {n : Nat} {env : List SE} {fs mm : List (Nat × Nat × Nat)} {H : List AC} {os : List AO} (hEX : ∀ h, FRM lam W H0 h → EX h) (hi : ∀ k j, (k, j) ∈ W → ∀ k', lam k = lam k' → k = k') {ρ : List Int32} {cAs : List PV} {h : PH} (hA : R2 (vRel lam ρ) As cAs) (hS : SOK lam W NH H0 ρ (n, env, fs, mm, H) h) : ∀ {sums : List SU}, (∀ su, su ∈ sums → SUOK lam T EX l G su) → sumF T sums W d k As n env fs mm H = some os → ∃ d' Φ0, d' ≤ d ∧ PMet l G (mY k) (mC k) (mN k) (mR k) d' 0 0 cAs h Φ0 ∧ ∀ r h', Φ0 r h' → PHI lam W NH H0 ρ os r h' := by
  intro sums
  induction sums with
  | nil => intro _ hs; cases hs
  | cons su t ih =>
    intro hsu hs
    have hs : (match su1 T W d k As n env fs mm H su with
      | some os => some os
      | none => sumF T t W d k As n env fs mm H) = some os := hs
    split at hs
    · rename_i os' h1
      have := Option.some.inj hs
      subst this
      exact su1_ok hEX hi (hsu su List.mem_cons_self) h1 hA hS
    · exact ih (fun s hs => hsu s (List.mem_cons_of_mem _ hs)) hs
/-- a method's paths; what is known of a callee is used, else its own paths are gone -/
noncomputable def exM (T : List AC) (sums : List SU) (W : List (Nat × Nat)) (MT : MTb) (F : Nat) (d : Nat) : Nat → List AV → AS → Option (List AO) := Nat.rec (motive := fun _ => Nat → List AV → AS → Option (List AO)) (fun _ _ _ => none) (fun d ih k As S => match nth MT k with
  | some (nL, co, cu) => bif Nat.ble As.length nL then exe T W co cu (fun k As S => match S with
      | (n, env, fs, mm, H) => (match sumF T sums W d k As n env fs mm H with
        | some os => some os
        | none => ih k As S)) F [] (0, As.map some ++ List.replicate (nL - As.length) none, [], S) else none
  | none => none) d
theorem exM_ok {lam : Nat → Nat} {T : List AC} {sums : List SU} {W : List (Nat × Nat)} {NH : Nat} {H0 : PH} {EX : PH → Prop} {l : Launch} {G : PG} {MT : MTb} {F : Nat} (hMT : MTOK MT) (hEX : ∀ h, FRM lam W H0 h → EX h) (hi : ∀ k j, (k, j) ∈ W → ∀ k', lam k = lam k' → k = k') (hsu : ∀ su, su ∈ sums → SUOK lam T EX l G su) : ∀ d k As S os, exM T sums W MT F d k As S = some os → ∀ ρ cAs h, R2 (vRel lam ρ) As cAs → SOK lam W NH H0 ρ S h → PMet l G (mY k) (mC k) (mN k) (mR k) d 0 0 cAs h (PHI lam W NH H0 ρ os) := by
  intro d
  induction d with
  | zero => intro k As S os hs; cases hs
  | succ d ih =>
    intro k As S os hs ρ cAs h hA hS
    have hs : (match nth MT k with
      | some (nL, co, cu) => bif Nat.ble As.length nL then exe T W co cu (fun k As S => match S with
          | (n, env, fs, mm, H) => (match sumF T sums W d k As n env fs mm H with
            | some os => some os
            | none => exM T sums W MT F d k As S)) F [] (0, As.map some ++ List.replicate (nL - As.length) none, [], S) else none
      | none => none) = some os := hs
    split at hs
    · rename_i nL co cu hk
      obtain ⟨rfl, rfl, hy, hO, hz⟩ := hMT k nL co cu hk
      obtain ⟨e1, hs2⟩ := bif_some hs
      rw [Nat.ble_eq] at e1
      have hcal : CALOK lam W NH H0 l G d (fun k As S => match S with
          | (n, env, fs, mm, H) => (match sumF T sums W d k As n env fs mm H with
            | some os => some os
            | none => exM T sums W MT F d k As S)) := by
        intro k2 As2 S2 os2 h2 ρ2 cAs2 hh2 a1 a2
        obtain ⟨n, env, fs, mm, H⟩ := S2
        simp only at h2
        split at h2
        · rename_i os3 h3
          have := Option.some.inj h2
          subst this
          exact sumF_ok hEX hi a1 a2 hsu h3
        · exact ⟨d, _, Nat.le_refl _, ih k2 As2 _ os2 h2 ρ2 cAs2 hh2 a1 a2, fun _ _ q => q⟩
      refine PMet.intro hy (by rw [← hA.len]; exact e1) ?_
      intro p e s m args below meth c X hr hlk hnm
      have key := exe_ok (T := T) (cuts := cu) (e := e) (below := below) (ρ0 := ρ) (OUTS := os) (F := F) hi hO hcal X hr hlk [] 0 _ [] S os hs2 (fun q hq => hq) ρ [] (cAs.map some ++ List.replicate (mN k - cAs.length) none) [] h rfl (fun A hA => by cases hA) ⟨?_, trivial, hS⟩
      · have key : PW p l e (rmD (d + 1) 0 0) s m args below meth c G (mN k) _ 0 0 h (hpc (mP k)) _ _ := key
        rw [hz] at key
        exact key
      · rw [hA.len]
        refine R2.app ?_ ?_
        · clear hs hs2 hcal
          have : ∀ (As : List AV) (cAs : List PV), R2 (vRel lam ρ) As cAs → R2 (oRel lam ρ) (As.map some) (cAs.map some) := by
            intro As
            induction As with
            | nil => intro cAs h; cases cAs with
              | nil => exact trivial
              | cons _ _ => cases h
            | cons a t iht => intro cAs h; cases cAs with
              | nil => cases h
              | cons b u => exact ⟨⟨b, rfl, h.1⟩, iht u h.2⟩
          exact this As cAs hA
        · generalize mN k - cAs.length = q
          induction q with
          | zero => exact trivial
          | succ q ihq => exact ⟨trivial, ihq⟩
    · cases hs
/-- what a run's ends must be -/
noncomputable def okO (T : List AC) (res : Option (Nat × Nat)) (o : AO) : Bool := match o with
  | (r, (n, env, _, _, H)) => bif (match res with
      | none => (match r with
        | none => true
        | some _ => false)
      | some (lo, hi) => (match r with
        | some (.inl c) => Nat.ble lo (bnd n env c).1 && Nat.ble (bnd n env c).2 hi
        | _ => false)) then sb2 (sbC n env 0) T H else false
noncomputable def okOs (T : List AC) (res : Option (Nat × Nat)) (os : List AO) : Bool := List.rec (motive := fun _ => Bool) true (fun o _ ih => bif okO T res o then ih else false) os
noncomputable def chk (T : List AC) (sums : List SU) (MT : MTb) (F : Nat) (su : SU) : Bool := match su with
  | (k, ds, args, res, eff) => (match exM T sums eff MT F ds k args (0, [], [], [], T) with
    | some os => okOs T res os
    | none => false)
theorem okOs_ok {T : List AC} {res : Option (Nat × Nat)} : ∀ {os : List AO}, okOs T res os = true → ∀ o, o ∈ os → okO T res o = true := by
  intro os
  induction os with
  | nil => intro _ o ho; cases ho
  | cons a t ih =>
    intro h o ho
    have h : (bif okO T res a then okOs T res t else false) = true := h
    obtain ⟨h1, h2⟩ := bif_t h
    rcases List.mem_cons.mp ho with rfl | ho'
    · exact h1
    · exact ih h2 o ho'
theorem chk_ok {lam : Nat → Nat} {T : List AC} {sums : List SU} {EX : PH → Prop} {l : Launch} {G : PG} {MT : MTb} {F : Nat} {su : SU} (hMT : MTOK MT) (hEX : ∀ h0 h, EX h0 → FRM lam su.2.2.2.2 h0 h → EX h) (hi : ∀ k j, (k, j) ∈ su.2.2.2.2 → ∀ k', lam k = lam k' → k = k') (hsu : ∀ su, su ∈ sums → SUOK lam T EX l G su) (h : chk T sums MT F su = true) : SUOK lam T EX l G su := by
  obtain ⟨k, ds, args, res, eff⟩ := su
  intro cAs hh hA hT hX
  unfold chk at h
  simp only at h
  split at h
  · rename_i os ho
    have hS : SOK lam eff T.length hh [] (0, [], [], [], T) hh := ⟨rfl, trivial, fun _ _ _ hm => (List.not_mem_nil hm).elim, fun _ _ _ hm => (List.not_mem_nil hm).elim, hT, rfl, FRM.refl hh⟩
    refine ⟨_, exM_ok hMT (fun h hf => hEX hh h hX hf) hi hsu ds k args _ os ho [] cAs hh hA hS, ?_⟩
    rintro r h' ⟨o, S', hm, τ, h1, h2⟩
    obtain ⟨n, env, fs, mm, H⟩ := S'
    have hk := okOs_ok h _ hm
    obtain ⟨hn, hE, hF, hM, hH, hL, hR⟩ := h2
    unfold okO at hk
    simp only at hk
    obtain ⟨k1, k2⟩ := bif_t hk
    refine ⟨?_, hR, sbH_ok hn hE rfl k2 hH⟩
    match res, o with
    | none, none => exact h1
    | none, some _ => cases k1
    | some (lo, hi'), none => cases k1
    | some (lo, hi'), some (.inl c) =>
      obtain ⟨y, rfl, z, hz, rfl⟩ := h1
      have k1 : (Nat.ble lo (bnd n env c).1 && Nat.ble (bnd n env c).2 hi') = true := k1
      rw [Bool.and_eq_true, Nat.ble_eq, Nat.ble_eq] at k1
      have hb := bnd_ok hn hE hz
      exact ⟨z, rfl, Nat.le_trans k1.1 hb.1, Nat.le_trans hb.2 k1.2⟩
    | some (lo, hi'), some (.inr _) => cases k1
  · cases h
