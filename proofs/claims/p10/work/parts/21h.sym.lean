/-! runs of the checker whose last states are told by a test; codes that are a symbol and a number -/
noncomputable def allO (tst : AO → Bool) (os : List AO) : Bool := List.rec (motive := fun _ => Bool) true (fun o _ ih => bif tst o then ih else false) os
theorem allO_ok {tst : AO → Bool} : ∀ {os : List AO}, allO tst os = true → ∀ o, o ∈ os → tst o = true := by
  intro os
  induction os with
  | nil => intro _ o ho; cases ho
  | cons a t ih =>
    intro h o ho
    have h : (bif tst a then allO tst t else false) = true := h
    obtain ⟨h1, h2⟩ := bif_t h
    rcases List.mem_cons.mp ho with rfl | ho'
    · exact h1
    · exact ih h2 o ho'
noncomputable def chkG (n0 : Nat) (env0 : List SE) (fs0 : List (Nat × Nat × Nat)) (T0 T : List AC) (sums : List SU) (MT : MTb) (F k ds : Nat) (args : List AV) (eff : List (Nat × Nat)) (tst : AO → Bool) : Bool := match exM T sums eff MT F ds k args (n0, env0, fs0, [], T0) with
  | some os => allO tst os
  | none => false
theorem chkG_ok {lam : Nat → Nat} {n0 : Nat} {env0 : List SE} {fs0 : List (Nat × Nat × Nat)} {ρ0 : List Int32} {T0 T : List AC} {sums : List SU} {EX : PH → Prop} {l : Launch} {G : PG} {MT : MTb} {F k ds : Nat} {args : List AV} {eff : List (Nat × Nat)} {tst : AO → Bool} (hMT : MTOK MT) (hEX : ∀ h0 h, EX h0 → FRM lam eff h0 h → EX h) (hi : ∀ k j, (k, j) ∈ eff → ∀ k', lam k = lam k' → k = k') (hsu : ∀ su, su ∈ sums → SUOK lam T EX l G su) (h : chkG n0 env0 fs0 T0 T sums MT F k ds args eff tst = true) {cAs : List PV} {hh : PH} (hn0 : n0 = env0.length) (hE0 : EnvOK env0 ρ0) (hF0 : FOK ρ0 fs0) (hA : R2 (vRel lam ρ0) args cAs) (hT : HOK lam ρ0 T0 hh) (hX : EX hh) : ∃ Φ0, PMet l G (mY k) (mC k) (mN k) (mR k) ds 0 0 cAs hh Φ0 ∧ ∀ r h', Φ0 r h' → ∃ o S τ, tst (o, S) = true ∧ OR lam (τ ++ ρ0) o r ∧ SOK lam eff T0.length hh (τ ++ ρ0) S h' := by
  unfold chkG at h
  split at h
  · rename_i os ho
    have hS : SOK lam eff T0.length hh ρ0 (n0, env0, fs0, [], T0) hh := ⟨hn0, hE0, hF0, fun _ _ _ hm => (List.not_mem_nil hm).elim, hT, rfl, FRM.refl hh⟩
    refine ⟨_, exM_ok hMT (fun h hf => hEX hh h hX hf) hi hsu ds k args _ os ho ρ0 cAs hh hA hS, ?_⟩
    rintro r h' ⟨o, S', hm, τ, h1, h2⟩
    exact ⟨o, S', τ, allO_ok h _ hm, h1, h2⟩
  · cases h
/-- the number that a code adds to the first symbol -/
noncomputable def rsv (n : Nat) (env : List SE) (F : Nat) : Nat → Option Nat := Nat.rec (motive := fun _ => Nat → Option Nat) (fun _ => none) (fun _ ih c => bif Nat.beq c 4294967296 then some 0 else bif Nat.blt c 4294967296 then none else match nth env (n - 1 - (c - 4294967296)) with
  | some (_, _, op, y, z) => bif (Nat.beq op 0 && (Nat.ble 2147483648 z && Nat.blt z 4294967296)) then (match ih y with
    | some k => some (k + (z - 2147483648))
    | none => none) else none
  | none => none) F
theorem kv_nI {z : Nat} (h1 : 2147483648 ≤ z) (h2 : z < 4294967296) : kv z = nI (z - 2147483648) := by
  apply ky_inj
  rw [ky_kv h2, ky_nI (by omega)]
  omega
theorem rsv_ok {n : Nat} {env : List SE} {ρ : List Int32} {x0 : Int32} (hn : n = env.length) (hE : EnvOK env ρ) (h0 : val ρ 4294967296 = some x0) : ∀ (F c k : Nat) (v : Int32), rsv n env F c = some k → val ρ c = some v → v = x0 + nI k := by
  intro F
  induction F with
  | zero => intro c k v h; cases h
  | succ F ih =>
    intro c k v h hv
    have h : (bif Nat.beq c 4294967296 then some 0 else bif Nat.blt c 4294967296 then none else match nth env (n - 1 - (c - 4294967296)) with
      | some (_, _, op, y, z) => bif (Nat.beq op 0 && (Nat.ble 2147483648 z && Nat.blt z 4294967296)) then (match rsv n env F y with
        | some k => some (k + (z - 2147483648))
        | none => none) else none
      | none => none) = some k := h
    cases hc : Nat.beq c 4294967296 with
    | true =>
      rw [hc] at h
      have h := Option.some.inj h
      subst h
      have e := Nat.eq_of_beq_eq_true hc
      subst e
      have := Option.some.inj (hv.symm.trans h0)
      rw [this]
      exact (Int32.add_zero x0).symm
    | false =>
      rw [hc] at h
      simp only [cond_false] at h
      cases hb : Nat.blt c 4294967296 with
      | true => rw [hb] at h; cases h
      | false =>
        rw [hb] at h
        simp only [cond_false] at h
        split at h
        · rename_i lo hi op y z he
          cases hq : (Nat.beq op 0 && (Nat.ble 2147483648 z && Nat.blt z 4294967296)) with
          | false => rw [hq] at h; cases h
          | true =>
            rw [hq] at h
            simp only [cond_true] at h
            rw [Bool.and_eq_true, Bool.and_eq_true, Nat.ble_eq, Nat.blt_eq] at hq
            have e0 := Nat.eq_of_beq_eq_true hq.1
            subst e0
            split at h
            · rename_i k' hk'
              have h := Option.some.inj h
              subst h
              obtain ⟨x, r, τ, h1, h2, h3⟩ := hE.at he
              have hvx : v = x := val_at (blt_f.mp hb) h1 (by rw [h2, hn, hE.len]) hv
              obtain ⟨y', z', q1, q2, q3⟩ := h3.2 (Nat.zero_le 8)
              have h1' : ρ = (τ ++ [x]) ++ r := by rw [h1]; simp
              have q1' : val ρ y = some y' := by rw [h1']; exact val_app _ q1
              have ey := ih y k' y' hk' q1'
              have q2 : val r z = some z' := q2
              rw [val_c hq.2.2] at q2
              have ez := Option.some.inj q2
              have q3 : x = y' + z' := q3
              rw [hvx, q3, ey, ← ez, kv_nI hq.2.1 hq.2.2, Int32.add_assoc, nI_add]
            · cases h
        · cases h
/-- the answer is what a field holds then: the first symbol and off -/
noncomputable def tstA (T : List AC) (cell fld off : Nat) (o : AO) : Bool := match o with
  | (some (.inl c), (n, env, _, _, H)) => (match rsv n env 40 c with
    | some k => Nat.beq k off
    | none => false) && ((match nth H cell with
    | some (.inr (_, vs)) => (match nth vs fld with
      | some (.inl c') => Nat.beq c c'
      | _ => false)
    | _ => false) && sb2 (sbC n env 0) T H)
  | _ => false
theorem chkA_ok {lam : Nat → Nat} {x0 : Int32} {env0 : SE} {T0 T : List AC} {EX : PH → Prop} {l : Launch} {G : PG} {MT : MTb} {F k ds cell fld off : Nat} {args : List AV} {eff : List (Nat × Nat)} (hMT : MTOK MT) (hEX : ∀ h0 h, EX h0 → FRM lam eff h0 h → EX h) (hi : ∀ k j, (k, j) ∈ eff → ∀ k', lam k = lam k' → k = k') (h : chkG 1 [env0] [] T0 T [] MT F k ds args eff (tstA T cell fld off) = true) {cAs : List PV} {hh : PH} (hE0 : EnvOK [env0] [x0]) (hA : R2 (vRel lam [x0]) args cAs) (hT : HOK lam [x0] T0 hh) (hX : EX hh) : ∃ Φ0, PMet l G (mY k) (mC k) (mN k) (mR k) ds 0 0 cAs hh Φ0 ∧ ∀ r h', Φ0 r h' → r = some (vI (x0 + nI off)) ∧ FRM lam eff hh h' ∧ HOK lam [] T h' ∧ FLD h' (lam cell) fld (x0 + nI off) := by
  obtain ⟨Φ0, hP, hQ⟩ := chkG_ok hMT hEX hi sun h rfl hE0 (fun _ _ _ hm => (List.not_mem_nil hm).elim) hA hT hX
  refine ⟨Φ0, hP, fun r h' hr => ?_⟩
  obtain ⟨o, S, τ, ht, hO, hS⟩ := hQ r h' hr
  obtain ⟨n, env, fs, mm, H⟩ := S
  obtain ⟨hn, hE, hF, hM, hH, hL, hR⟩ := hS
  match o, ht, hO with
  | some (.inl c), ht, hO =>
    have ht : ((match rsv n env 40 c with
      | some k => Nat.beq k off
      | none => false) && ((match nth H cell with
      | some (.inr (_, vs)) => (match nth vs fld with
        | some (.inl c') => Nat.beq c c'
        | _ => false)
      | _ => false) && sb2 (sbC n env 0) T H)) = true := ht
    rw [Bool.and_eq_true, Bool.and_eq_true] at ht
    obtain ⟨t1, t2, t3⟩ := ht
    obtain ⟨y, rfl, z, hz, rfl⟩ := hO
    have h0 : val (τ ++ [x0]) 4294967296 = some x0 := val_app τ val_s
    have ez : z = x0 + nI off := by
      split at t1
      · rename_i k' hk'
        rw [rsv_ok hn hE h0 40 c k' z hk' hz, Nat.eq_of_beq_eq_true t1]
      · cases t1
    refine ⟨by rw [ez], hR, ?_, ?_⟩
    · have hE' : EnvOK env ((τ ++ [x0]) ++ []) := by rw [List.append_nil]; exact hE
      have hH' : HOK lam ((τ ++ [x0]) ++ []) H h' := by rw [List.append_nil]; exact hH
      exact sbH_ok hn hE' rfl t3 hH'
    · split at t2
      · rename_i q vs hq
        split at t2
        · rename_i c' hc'
          have e := Nat.eq_of_beq_eq_true t2
          subst e
          obtain ⟨x, hx, xs, rfl, rr⟩ := hH cell _ hq
          obtain ⟨y, gy, z', hz', rfl⟩ := R2.get rr hc'
          rw [hz] at hz'
          have hz' := Option.some.inj hz'
          subst hz'
          exact ⟨q, xs, hx, by rw [← ez]; exact gy⟩
        · cases t2
      · cases t2
  | none, ht, _ => cases ht
  | some (.inr _), ht, _ => cases ht
