/-- a number that is put where it lies within: told by the facts of the paths -/
noncomputable def tstE (T : List AC) (cell fld : Nat) (o : AO) : Bool := match o with
  | (some (.inl c), (n, env, fs, _, H)) => (match nth H cell with
    | some (.inr (_, vs)) => (match nth vs fld with
      | some (.inl c') => ((Nat.beq c 2147483649 && (Nat.beq c' 4294967297 && fctQ fs 0 4294967297 4294967296)) || (Nat.beq c 2147483648 && (Nat.beq c' 4294967296 && fctQ fs 1 4294967296 4294967297)))
      | _ => false)
    | _ => false) && sb2 (sbC n env 0) T H
  | _ => false
theorem val_2 {x y : Int32} : val [y, x] 4294967296 = some x ∧ val [y, x] 4294967297 = some y := by
  constructor
  · unfold val
    rw [if_neg (by decide), if_pos (show 4294967296 - 4294967296 < [y, x].length from Nat.zero_lt_succ 1)]
    rfl
  · unfold val
    rw [if_neg (by decide), if_pos (show 4294967297 - 4294967296 < [y, x].length from Nat.lt_succ_self 1)]
    rfl
theorem chkW_ok {lam : Nat → Nat} {x y : Int32} {env0 : List SE} {T0 T : List AC} {EX : PH → Prop} {l : Launch} {G : PG} {MT : MTb} {F k ds cell fld : Nat} {args : List AV} {eff : List (Nat × Nat)} (hMT : MTOK MT) (hEX : ∀ h0 h, EX h0 → FRM lam eff h0 h → EX h) (hi : ∀ k j, (k, j) ∈ eff → ∀ k', lam k = lam k' → k = k') (h : chkG 2 env0 [] T0 T [] MT F k ds args eff (tstE T cell fld) = true) {cAs : List PV} {hh : PH} (hn0 : 2 = env0.length) (hE0 : EnvOK env0 [y, x]) (hA : R2 (vRel lam [y, x]) args cAs) (hT : HOK lam [y, x] T0 hh) (hX : EX hh) : ∃ Φ0, PMet l G (mY k) (mC k) (mN k) (mR k) ds 0 0 cAs hh Φ0 ∧ ∀ r h', Φ0 r h' → ((r = some (vI (nI 1)) ∧ ky y ≤ ky x ∧ FLD h' (lam cell) fld y) ∨ (r = some (vI (nI 0)) ∧ ky x < ky y ∧ FLD h' (lam cell) fld x)) ∧ FRM lam eff hh h' ∧ HOK lam [] T h' := by
  obtain ⟨Φ0, hP, hQ⟩ := chkG_ok hMT hEX hi sun h hn0 hE0 (fun _ _ _ hm => (List.not_mem_nil hm).elim) hA hT hX
  refine ⟨Φ0, hP, fun r h' hr => ?_⟩
  obtain ⟨o, S, τ, ht, hO, hS⟩ := hQ r h' hr
  obtain ⟨n, env, fs, mm, H⟩ := S
  obtain ⟨hn, hE, hF, hM, hH, hL, hR⟩ := hS
  match o, ht, hO with
  | some (.inl c), ht, hO =>
    have ht : ((match nth H cell with
      | some (.inr (_, vs)) => (match nth vs fld with
        | some (.inl c') => ((Nat.beq c 2147483649 && (Nat.beq c' 4294967297 && fctQ fs 0 4294967297 4294967296)) || (Nat.beq c 2147483648 && (Nat.beq c' 4294967296 && fctQ fs 1 4294967296 4294967297)))
        | _ => false)
      | _ => false) && sb2 (sbC n env 0) T H) = true := ht
    rw [Bool.and_eq_true] at ht
    obtain ⟨t2, t3⟩ := ht
    obtain ⟨w, rfl, z, hz, rfl⟩ := hO
    have hE' : EnvOK env ((τ ++ [y, x]) ++ []) := by rw [List.append_nil]; exact hE
    have hH' : HOK lam ((τ ++ [y, x]) ++ []) H h' := by rw [List.append_nil]; exact hH
    refine ⟨?_, hR, sbH_ok hn hE' rfl t3 hH'⟩
    have v0 : val (τ ++ [y, x]) 4294967296 = some x := val_app τ val_2.1
    have v1 : val (τ ++ [y, x]) 4294967297 = some y := val_app τ val_2.2
    split at t2
    · rename_i q vs hq
      split at t2
      · rename_i c' hc'
        obtain ⟨x', hx', xs, rfl, rr⟩ := hH cell _ hq
        obtain ⟨w', gy, z', hz', rfl⟩ := R2.get rr hc'
        rw [Bool.or_eq_true, Bool.and_eq_true, Bool.and_eq_true, Bool.and_eq_true, Bool.and_eq_true] at t2
        rcases t2 with ⟨e1, e2, e3⟩ | ⟨e1, e2, e3⟩
        · have e1 := Nat.eq_of_beq_eq_true e1
          have e2 := Nat.eq_of_beq_eq_true e2
          subst e1
          subst e2
          rw [val_c (by decide)] at hz
          have hz := Option.some.inj hz
          rw [v1] at hz'
          have hz' := Option.some.inj hz'
          obtain ⟨s', -, hm⟩ := fctQ_ok e3
          obtain ⟨a, b, ha, hb, hab, -⟩ := hF _ _ _ hm
          rw [v1] at ha
          rw [v0] at hb
          have ha := Option.some.inj ha
          have hb := Option.some.inj hb
          subst ha hb
          refine Or.inl ⟨by rw [← hz]; rfl, hab, q, xs, hx', by rw [hz']; exact gy⟩
        · have e1 := Nat.eq_of_beq_eq_true e1
          have e2 := Nat.eq_of_beq_eq_true e2
          subst e1
          subst e2
          rw [val_c (by decide)] at hz
          have hz := Option.some.inj hz
          rw [v0] at hz'
          have hz' := Option.some.inj hz'
          obtain ⟨s', hs', hm⟩ := fctQ_ok e3
          obtain ⟨a, b, ha, hb, -, hab⟩ := hF _ _ _ hm
          rw [v0] at ha
          rw [v1] at hb
          have ha := Option.some.inj ha
          have hb := Option.some.inj hb
          subst ha hb
          refine Or.inr ⟨by rw [← hz]; rfl, hab hs', q, xs, hx', by rw [hz']; exact gy⟩
      · cases t2
    · cases t2
  | none, ht, _ => cases ht
  | some (.inr _), ht, _ => cases ht
