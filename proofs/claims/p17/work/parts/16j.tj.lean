/-! a run of the checker that ends at an index told by hand -/
noncomputable def o1 (T : List AC) (res : Option (Nat × Nat)) : AO := match res with
  | none => (none, (0, [], [], [], T))
  | some (lo, hi) => (some (.inl 4294967296), (1, [(lo, hi, 9, 0, 0)], [], [], T))
theorem o1_phi {lam : Nat → Nat} {W : List (Nat × Nat)} {T : List AC} {H0 h : PH} {res : Option (Nat × Nat)} {r : Option PV} {os : List AO} (hr : RSO res r) (hF : FRM lam W H0 h) (hT : HOK lam [] T h) : PHI lam W T.length H0 [] (o1 T res :: os) r h := by
  match res with
  | none => exact ⟨none, (0, [], [], [], T), List.mem_cons_self, [], hr, rfl, trivial, fun _ _ _ hm => (List.not_mem_nil hm).elim, fun _ _ _ hm => (List.not_mem_nil hm).elim, hT, rfl, hF⟩
  | some (lo, hi) =>
    obtain ⟨z, rfl, hz⟩ := hr
    have hv : val ([z] ++ []) 4294967296 = some z := by
      unfold val
      rw [if_neg (by decide), if_pos (by show (0 : Nat) < 1; decide)]
      rfl
    exact ⟨some (.inl 4294967296), (1, [(lo, hi, 9, 0, 0)], [], [], T), List.mem_cons_self, [z], ⟨vI z, rfl, z, hv, rfl⟩, rfl, ⟨⟨hz, fun q => absurd q (by show ¬ 9 ≤ 8; decide)⟩, trivial⟩, fun _ _ _ hm => (List.not_mem_nil hm).elim, fun _ _ _ hm => (List.not_mem_nil hm).elim, hT.up [z], rfl, hF⟩
noncomputable def clF (T : List AC) (sums : List SU) (W : List (Nat × Nat)) (MT : MTb) (F d : Nat) : Nat → List AV → AS → Option (List AO) := fun k As S => match S with
  | (n, env, fs, mm, H) => (match sumF T sums W d k As n env fs mm H with
    | some os => some os
    | none => exM T sums W MT F d k As S)
theorem clF_ok {lam : Nat → Nat} {T : List AC} {sums : List SU} {W : List (Nat × Nat)} {NH : Nat} {H0 : PH} {EX : PH → Prop} {l : Launch} {G : PG} {MT : MTb} {F d : Nat} (hMT : MTOK MT) (hEX : ∀ h, FRM lam W H0 h → EX h) (hi : ∀ k j, (k, j) ∈ W → ∀ k', lam k = lam k' → k = k') (hsu : ∀ su, su ∈ sums → SUOK lam T EX l G su) : CALOK lam W NH H0 l G d (clF T sums W MT F d) := by
  intro k2 As2 S2 os2 h2 ρ2 cAs2 hh2 a1 a2
  obtain ⟨n, env, fs, mm, H⟩ := S2
  unfold clF at h2
  simp only at h2
  split at h2
  · rename_i os3 h3
    have := Option.some.inj h2
    subst this
    exact sumF_ok hEX hi a1 a2 hsu h3
  · exact ⟨d, _, Nat.le_refl _, exM_ok hMT hEX hi hsu d k2 As2 _ os2 h2 ρ2 cAs2 hh2 a1 a2, fun _ _ q => q⟩
theorem R2_args {lam : Nat → Nat} {ρ : List Int32} {As : List AV} {cAs : List PV} (n : Nat) (h : R2 (vRel lam ρ) As cAs) : R2 (oRel lam ρ) (As.map some ++ List.replicate (n - As.length) none) (cAs.map some ++ List.replicate (n - cAs.length) none) := by
  rw [h.len]
  refine R2.app ?_ ?_
  · have : ∀ (As : List AV) (cAs : List PV), R2 (vRel lam ρ) As cAs → R2 (oRel lam ρ) (As.map some) (cAs.map some) := by
      intro As
      induction As with
      | nil => intro cAs h; cases cAs with
        | nil => exact trivial
        | cons _ _ => cases h
      | cons a t iht => intro cAs h; cases cAs with
        | nil => cases h
        | cons b u => exact ⟨⟨b, rfl, h.1⟩, iht u h.2⟩
    exact this As cAs h
  · generalize n - cAs.length = q
    induction q with
    | zero => exact trivial
    | succ q ihq => exact ⟨trivial, ihq⟩
noncomputable def chkJ (T : List AC) (sums : List SU) (MT : MTb) (F : Nat) (cu : List (Nat × CU)) (j : Nat) (lsA : AL) (k d : Nat) (args : List AV) (res : Option (Nat × Nat)) (eff : List (Nat × Nat)) : Bool := match nth MT k with
  | some (nL, co, _) => bif Nat.ble args.length nL then (match exe T eff co cu (clF T sums eff MT F d) F [(j, 9, 0, 0, 0, lsA, T, 0, 0)] (0, args.map some ++ List.replicate (nL - args.length) none, [], (0, [], [], [], T)) with
    | some os => okOs T res (o1 T res :: os)
    | none => false) else false
  | none => false
theorem chkJ_ok {lam : Nat → Nat} {T : List AC} {sums : List SU} {EX : PH → Prop} {l : Launch} {G : PG} {MT : MTb} {F N0 : Nat} {cu : List (Nat × CU)} {j : Nat} {lsA : AL} {k d : Nat} {args : List AV} {res : Option (Nat × Nat)} {eff : List (Nat × Nat)} (hMT : MTOK MT) (hEX : ∀ h0 h, EX h0 → FRM lam eff h0 h → EX h) (hi : ∀ k j, (k, j) ∈ eff → ∀ k', lam k = lam k' → k = k') (hsu : ∀ su, su ∈ sums → SUOK lam T EX l G su) (hlb : LbI lam N0) (h : chkJ T sums MT F cu j lsA k d args res eff = true) (hJ : ∀ cls h2, R2 (oRel lam []) lsA cls → HOK lam [] T h2 → ∃ ls L r L' N, cls = sls lam ls ∧ Rep rdF h2 lam N0 L h2 ∧ rnX (mP k) N j ls [] L = some (r, L') ∧ ∀ h1, Rep rdF h2 lam N0 L' h1 → RSO res (r.map (sv lam)) ∧ FRM lam eff h2 h1 ∧ HOK lam [] T h1) : SUOK lam T EX l G (k, d + 1, args, res, eff) := by
  intro cAs hh hA hT hX
  unfold chkJ at h
  split at h
  · rename_i nL co cu0 hk
    obtain ⟨rfl, rfl, hy, hO, hz⟩ := hMT k nL co cu0 hk
    obtain ⟨e1, h⟩ := bif_t h
    rw [Nat.ble_eq] at e1
    split at h
    · rename_i os ho
      have hS : SOK lam eff T.length hh [] (0, [], [], [], T) hh := ⟨rfl, trivial, fun _ _ _ hm => (List.not_mem_nil hm).elim, fun _ _ _ hm => (List.not_mem_nil hm).elim, hT, rfl, FRM.refl hh⟩
      have hcal := clF_ok (NH := T.length) (H0 := hh) (W := eff) (F := F) (d := d) hMT (fun h hf => hEX hh h hX hf) hi hsu
      refine ⟨PHI lam eff T.length hh [] (o1 T res :: os), PMet.intro hy (by rw [← hA.len]; exact e1) ?_, ?_⟩
      · intro p e s m args' below meth c X hr hlk hnm
        have hact : ∀ A, A ∈ ([(j, 9, 0, 0, 0, lsA, T, 0, 0)] : List AT) → AOK lam eff T.length hh (KP p l e s m args' below meth c G (mN k) d (mP k) (PHI lam eff T.length hh [] (o1 T res :: os))) [] A := by
          intro A hm
          obtain rfl := List.mem_singleton.mp hm
          refine ⟨[], kv 0, [], rfl, rfl, rfl, (fun q => absurd q (by decide)), (fun _ => ky_kv (by decide)), fun cls h2 x hcc _ _ => ?_⟩
          obtain ⟨c1, c2, c3⟩ := hcc
          obtain ⟨ls, L, r, L', N, rfl, hR, hrun, hfin⟩ := hJ cls h2 c1 c2
          exact run_ok (l := l) (d := d) (e := e) (below := below) (Φ := PHI lam eff T.length hh [] (o1 T res :: os)) wrF_ok fzF_ok hlb (call := fun _ _ _ => none) (fun k As L r L' h => by cases h) hO X hr hlk (fun h1 hR1 => o1_phi (hfin h1 hR1).1 (FRM.trans (fun _ q => q) c3 (hfin h1 hR1).2.1) (hfin h1 hR1).2.2) N j ls [] L hrun h2 hR
        have key := exe_ok (T := T) (cuts := cu) (e := e) (below := below) (ρ0 := []) (OUTS := o1 T res :: os) (F := F) hi hO hcal X hr hlk _ 0 _ [] _ os ho (fun q hq => List.mem_cons_of_mem _ hq) [] [] (cAs.map some ++ List.replicate (mN k - cAs.length) none) [] hh rfl hact ⟨R2_args _ hA, trivial, hS⟩
        have key : PW p l e (rmD (d + 1) 0 0) s m args' below meth c G (mN k) _ 0 0 hh (hpc (mP k)) _ _ := key
        rw [hz] at key
        exact key
      · rintro r h' ⟨o, S', hm, τ, h1, h2⟩
        obtain ⟨n, env, fs, mm, H⟩ := S'
        have hk := okOs_ok h _ hm
        obtain ⟨hn, hE, hF, hM, hH, hL, hR⟩ := h2
        unfold okO at hk
        simp only at hk
        obtain ⟨k1, k2⟩ := bif_t hk
        refine ⟨?_, hR, sbH_ok hn hE rfl k2 hH⟩
        match res, o with
        | none, none => exact h1
        | none, some _ => cases k1
        | some (lo, hi'), none => cases k1
        | some (lo, hi'), some (.inl c) =>
          obtain ⟨y, rfl, z, hz, rfl⟩ := h1
          have k1 : (Nat.ble lo (bnd n env c).1 && Nat.ble (bnd n env c).2 hi') = true := k1
          rw [Bool.and_eq_true, Nat.ble_eq, Nat.ble_eq] at k1
          have hb := bnd_ok hn hE hz
          exact ⟨z, rfl, Nat.le_trans k1.1 hb.1, Nat.le_trans hb.2 k1.2⟩
        | some (lo, hi'), some (.inr _) => cases k1
    · cases h
  · cases h
