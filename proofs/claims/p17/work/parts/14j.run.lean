def OR (lam : Nat → Nat) (ρ : List Int32) (o : Option AV) (r : Option PV) : Prop := match o with
  | none => r = none
  | some v => ∃ y, r = some y ∧ vRel lam ρ v y
def PHI (lam : Nat → Nat) (W : List (Nat × Nat)) (NH : Nat) (H0 : PH) (ρ0 : List Int32) (os : List AO) (r : Option PV) (h : PH) : Prop := ∃ o S, (o, S) ∈ os ∧ ∃ τ, OR lam (τ ++ ρ0) o r ∧ SOK lam W NH H0 (τ ++ ρ0) S h
def psh (o : Option AV) (st : List AV) : List AV := match o with
  | some v => v :: st
  | none => st
noncomputable def callK (call : Nat → List AV → AS → Option (List AO)) (go : AX → Option (List AO)) (k t : Nat) (As st' : List AV) (ls : AL) (S : AS) : Option (List AO) := match call k As S with
  | some os => seqs go (os.map (fun o => (t, ls, psh o.1 st', o.2)))
  | none => none
noncomputable def r12 (call : Nat → List AV → AS → Option (List AO)) (go : AX → Option (List AO)) (a b : Nat) (tg : List Nat) (t : Nat) (ls : AL) (st : List AV) (S : AS) : Option (List AO) := match st.drop b with
  | .inr (.inl (some x)) :: st' => (match S with
    | (_, _, _, _, H) => (match nth H x with
      | some (.inr (q, _)) => bif (Nat.beq q (hd0 tg) && (Nat.ble b st.length && Nat.ble st'.length 8)) then callK call go a t (.inr (.inl (some x)) :: (st.take b).reverse) st' ls S else none
      | _ => none))
  | _ => none
def r14 (st : List AV) (S : AS) : Option (List AO) := match st with
  | [.inl z] => some [(some (.inl z), S)]
  | _ => none
noncomputable def r15 (st : List AV) (S : AS) : Option (List AO) := match st with
  | [.inl z] => (match S with
    | (n, env, _, _, _) => bif (Nat.ble 2147483648 (bnd n env z).1 && Nat.ble (bnd n env z).2 2147483649) then some [(some (.inl z), S)] else none)
  | _ => none
def r16 (st : List AV) (S : AS) : Option (List AO) := match st with
  | [] => some [(none, S)]
  | _ => none
noncomputable def bdy (W : List (Nat × Nat)) (code : List CO) (call : Nat → List AV → AS → Option (List AO)) (go : AX → Option (List AO)) (i : Nat) (ls : AL) (st : List AV) (S : AS) : Option (List AO) := match nth code i with
  | none => none
  | some (op, a, b, c, tg) => match op with
    | 12 => r12 call go a b tg (i + 1) ls st S
    | 13 => bif (Nat.ble b st.length && Nat.ble (st.drop b).length 8) then callK call go a (i + 1) (st.take b).reverse (st.drop b) ls S else none
    | 14 => r14 st S
    | 15 => r15 st S
    | 16 => r16 st S
    | op => (match stp W (i + 1) op a b c tg ls st S with
      | some xs => seqs go xs
      | none => none)
def CALOK (lam : Nat → Nat) (W : List (Nat × Nat)) (NH : Nat) (H0 : PH) (l : Launch) (G : PG) (d : Nat) (call : Nat → List AV → AS → Option (List AO)) : Prop := ∀ k As S os, call k As S = some os → ∀ ρ cAs h, R2 (vRel lam ρ) As cAs → SOK lam W NH H0 ρ S h → ∃ d' Φ0, d' ≤ d ∧ PMet l G (mY k) (mC k) (mN k) (mR k) d' 0 0 cAs h Φ0 ∧ ∀ r h', Φ0 r h' → PHI lam W NH H0 ρ os r h'
def KP (p : Program) (l : Launch) (e : Env) (s : State) (m : MethodId) (args : Array Value) (below : List Frame) (meth : Method) (c : Code) (G : PG) (nL d : Nat) (code : List PO) (Φ : Option PV → PH → Prop) (i : Nat) (cls : List (Option PV)) (cst : List PV) (h : PH) : Prop := PW p l e (rmD (d + 1) 0 0) s m args below meth c G nL (MQ below (pQ G Φ) args s 0 0 (pF G)) 0 0 h (hpc (drp i code)) cls cst
theorem nth_map {α β : Type} (f : α → β) : ∀ (l : List α) (k : Nat) (b : β), nth (l.map f) k = some b → ∃ a, nth l k = some a ∧ f a = b := by
  intro l k b h
  rw [nth_eq, List.getElem?_map] at h
  cases ha : l[k]? with
  | none => rw [ha] at h; cases h
  | some a => rw [ha] at h; exact ⟨a, by rw [nth_eq]; exact ha, Option.some.inj h⟩
theorem r14_inv {st : List AV} {S : AS} {os : List AO} (h : r14 st S = some os) : ∃ z, st = [.inl z] ∧ os = [(some (.inl z), S)] := by
  unfold r14 at h
  split at h
  · rename_i z; exact ⟨z, rfl, (Option.some.inj h).symm⟩
  · cases h
theorem r15_inv {st : List AV} {n : Nat} {env : List SE} {fs mm : List (Nat × Nat × Nat)} {H : List AC} {os : List AO} (h : r15 st (n, env, fs, mm, H) = some os) : ∃ z, st = [.inl z] ∧ os = [(some (.inl z), (n, env, fs, mm, H))] ∧ 2147483648 ≤ (bnd n env z).1 ∧ (bnd n env z).2 ≤ 2147483649 := by
  unfold r15 at h
  split at h
  · rename_i z
    obtain ⟨e1, e2⟩ := bif_some h
    rw [Bool.and_eq_true, Nat.ble_eq, Nat.ble_eq] at e1
    exact ⟨z, rfl, (Option.some.inj e2).symm, e1⟩
  · cases h
section RunS
variable {lam : Nat → Nat} {W : List (Nat × Nat)} {NH : Nat} {H0 : PH} {l : Launch} {G : PG} {d : Nat} {own : String} {cc : ByteArray} {nL : Nat} {ret : Option FieldType} {code : List PO} {p : Program} {e : Env} {s : State} {m : MethodId} {args : Array Value} {below : List Frame} {meth : Method} {c : Code} {ρ0 : List Int32} {OUTS : List AO} {call : Nat → List AV → AS → Option (List AO)}
theorem callK_ok {go : AX → Option (List AO)} {k t i0 : Nat} {As st' : List AV} {ls : AL} {S : AS} {os : List AO} {ρ : List Int32} {cls : List (Option PV)} {cAs cst' : List PV} {h : PH} {K : Nat → List (Option PV) → List PV → PH → Prop} (hc : CALOK lam W NH H0 l G d call) (hs : callK call go k t As st' ls S = some os) (hgo : ∀ x o, go x = some o → (∀ q, q ∈ o → q ∈ os) → ∀ τ cls cst h, GST lam W NH H0 (τ ++ ρ) x.2.1 x.2.2.1 x.2.2.2 cls cst h → K x.1 cls cst h) (gl : R2 (oRel lam ρ) ls cls) (ga : R2 (vRel lam ρ) As cAs) (gs : R2 (vRel lam ρ) st' cst') (hS : SOK lam W NH H0 ρ S h) (hT : ∀ (Φ : Option PV → PH → Prop) (d' : Nat), d' ≤ d → PMet l G (mY k) (mC k) (mN k) (mR k) d' 0 0 cAs h Φ → (∀ r h', Φ r h' → K t cls (r.toList ++ cst') h') → K i0 cls (cAs.reverse ++ cst') h) : K i0 cls (cAs.reverse ++ cst') h := by
  unfold callK at hs
  split at hs
  · rename_i os' hcall
    obtain ⟨d', Φ0, hd', hM, him⟩ := hc k As S os' hcall ρ cAs h ga hS
    refine hT _ d' hd' hM ?_
    intro r h' hph
    obtain ⟨o, S', hm, τ, h1, h2⟩ := him r h' hph
    obtain ⟨oo, q1, q2⟩ := seqs_ok hs (t, ls, psh o st', S') (List.mem_map.mpr ⟨(o, S'), hm, rfl⟩)
    refine hgo _ oo q1 q2 τ cls (r.toList ++ cst') h' ⟨gl.upo τ, ?_, h2⟩
    match o with
    | none =>
      have h1 : r = none := h1
      subst h1
      exact gs.upv τ
    | some v =>
      obtain ⟨y, rfl, hy⟩ := h1
      exact ⟨hy, gs.upv τ⟩
  · cases hs
theorem bdy_ok {go : AX → Option (List AO)} {i : Nat} {ls : AL} {st : List AV} {S : AS} {os : List AO} {ρ τ0 : List Int32} {cls : List (Option PV)} {cst : List PV} {h : PH} (hi : ∀ k j, (k, j) ∈ W → ∀ k', lam k = lam k' → k = k') (hcode : OKs (eOK own cc nL ret code) code) (hc : CALOK lam W NH H0 l G d call) (X : pX p s m args c G nL cc own) (hr : meth.sig.returnType = ret) (hlk : meth.locks = false) (hρ : ρ = τ0 ++ ρ0) (hs : bdy W (code.map cnv) call go i ls st S = some os) (hO : ∀ q, q ∈ os → q ∈ OUTS) (hgo : ∀ x o, go x = some o → (∀ q, q ∈ o → q ∈ OUTS) → ∀ τ cls cst h, GST lam W NH H0 (τ ++ ρ) x.2.1 x.2.2.1 x.2.2.2 cls cst h → KP p l e s m args below meth c G nL d code (PHI lam W NH H0 ρ0 OUTS) x.1 cls cst h) (hg : GST lam W NH H0 ρ ls st S cls cst h) : KP p l e s m args below meth c G nL d code (PHI lam W NH H0 ρ0 OUTS) i cls cst h := by
  unfold bdy at hs
  cases hk : nth (code.map cnv) i with
  | none => rw [hk] at hs; cases hs
  | some e0 =>
    obtain ⟨⟨pc, op, a, b, v, tg⟩, hn, he⟩ := nth_map cnv code i e0 hk
    rw [hk] at hs
    subst he
    have hE := OKs_nth i code _ hcode hn
    have hp : hpc (drp i code) = pc := hpc_drp hn
    have hC : CLO l G d own cc nL code (KP p l e s m args below meth c G nL d code (PHI lam W NH H0 ρ0 OUTS)) i pc := by
      intro np h h' cls cls' cst cst' hT hK
      show PW p l e (rmD (d + 1) 0 0) s m args below meth c G nL _ 0 0 h (hpc (drp i code)) cls cst
      rw [hp]
      exact hT p e s m args below meth c _ X hK
    have hsub : ∀ x o, go x = some o → (∀ q, q ∈ o → q ∈ os) → ∀ τ cls cst h, GST lam W NH H0 (τ ++ ρ) x.2.1 x.2.2.1 x.2.2.2 cls cst h → KP p l e s m args below meth c G nL d code (PHI lam W NH H0 ρ0 OUTS) x.1 cls cst h := fun x o h1 h2 => hgo x o h1 (fun q hq => hO q (h2 q hq))
    have hret : ∀ (o : Option AV) (r : Option PV), (o, S) ∈ OUTS → OR lam ρ o r → TR l G d own cc nL ret pc h cls cst r → KP p l e s m args below meth c G nL d code (PHI lam W NH H0 ρ0 OUTS) i cls cst h := by
      intro o r hm ho hT
      show PW p l e (rmD (d + 1) 0 0) s m args below meth c G nL _ 0 0 h (hpc (drp i code)) cls cst
      rw [hp]
      exact hT p e s m args below meth c _ X hr hlk ⟨o, S, hm, τ0, hρ ▸ ho, hρ ▸ hg.2.2⟩
    have hdef : (match stp W (i + 1) op a b (ky v) tg ls st S with
      | some xs => seqs go xs
      | none => none) = some os → KP p l e s m args below meth c G nL d code (PHI lam W NH H0 ρ0 OUTS) i cls cst h := by
      intro hd
      split at hd
      · rename_i xs hx
        refine stp_ok hi hC hE hg ?_ hx
        intro i' ls' st' S' hm τ cls' cst' h' hg'
        obtain ⟨o, q1, q2⟩ := seqs_ok hd _ hm
        exact hsub (i', ls', st', S') o q1 q2 τ cls' cst' h' hg'
      · cases hd
    clear hk
    revert hs hE hdef
    match op with
    | 12 =>
      intro hs hE _
      have hs : r12 call go a b tg (i + 1) ls st S = some os := hs
      unfold r12 at hs
      split at hs
      · rename_i x st' hst
        obtain ⟨n, env, fs, mm, H⟩ := S
        simp only at hs
        split at hs
        · rename_i q vs hx
          obtain ⟨e1, hs2⟩ := bif_some hs
          simp only [Bool.and_eq_true, Nat.beq_eq, Nat.ble_eq] at e1
          obtain ⟨c1, c2, c3⟩ := e1
          obtain ⟨g1, g2, hS⟩ := hg
          obtain ⟨y, hy, fsx, rfl, hfs⟩ := hS.2.2.2.2.1 x _ hx
          have gd := g2.drop (k := b)
          rw [hst] at gd
          obtain ⟨x', cst', hcd, ex, g4⟩ := gd.uncons
          have ex : x' = vR (lam x) := ex
          subst ex
          have gt := (g2.take (k := b)).rev
          have hlen : ((cst.take b).reverse).length = b := by
            have := g2.len
            simp; omega
          have hcst : cst = ((cst.take b).reverse).reverse ++ vR (lam x) :: cst' := by
            rw [List.reverse_reverse, ← hcd, List.take_append_drop]
          have key : KP p l e s m args below meth c G nL d code (PHI lam W NH H0 ρ0 OUTS) i cls ((vR (lam x) :: (cst.take b).reverse).reverse ++ cst') h := by
            refine callK_ok hc hs2 hsub g1 ⟨rfl, gt⟩ g4 hS ?_
            intro Φ d' hd' hM hk
            show PW p l e (rmD (d + 1) 0 0) s m args below meth c G nL _ 0 0 h (hpc (drp i code)) cls _
            rw [hp, List.reverse_cons, List.append_assoc]
            exact hE l G d h cls cst' ((cst.take b).reverse) (lam x) fsx Φ d' hd' hlen (by rw [← c1]; exact hy) (by rw [← g4.len]; exact c3) hM p e s m args below meth c _ X hk
          rw [List.reverse_cons, List.append_assoc] at key
          rw [hcst]
          exact key
        · cases hs
      · cases hs
    | 13 =>
      intro hs hE _
      have hs : (bif (Nat.ble b st.length && Nat.ble (st.drop b).length 8) then callK call go a (i + 1) (st.take b).reverse (st.drop b) ls S else none) = some os := hs
      obtain ⟨e1, hs2⟩ := bif_some hs
      simp only [Bool.and_eq_true, Nat.ble_eq] at e1
      obtain ⟨g1, g2, hS⟩ := hg
      have gt := (g2.take (k := b)).rev
      have g4 := g2.drop (k := b)
      have hlen : ((cst.take b).reverse).length = b := by
        have := g2.len
        simp; omega
      have hcst : cst = ((cst.take b).reverse).reverse ++ cst.drop b := by
        rw [List.reverse_reverse, List.take_append_drop]
      have key : KP p l e s m args below meth c G nL d code (PHI lam W NH H0 ρ0 OUTS) i cls (((cst.take b).reverse).reverse ++ cst.drop b) h := by
        refine callK_ok hc hs2 hsub g1 gt g4 hS ?_
        intro Φ d' hd' hM hk
        show PW p l e (rmD (d + 1) 0 0) s m args below meth c G nL _ 0 0 h (hpc (drp i code)) cls _
        rw [hp]
        exact hE l G d h cls (cst.drop b) ((cst.take b).reverse) Φ d' hd' hlen (by rw [← g4.len]; exact e1.2) hM p e s m args below meth c _ X hk
      rw [hcst]
      exact key
    | 14 =>
      intro hs hE hdd
      clear hdd
      have hs : r14 st S = some os := hs
      obtain ⟨z, rfl, rfl⟩ := r14_inv hs
      obtain ⟨y, c0, rfl, ⟨zz, hz, rfl⟩, g4⟩ := hg.2.1.uncons
      cases c0 with
      | cons _ _ => cases g4
      | nil => exact hret (some (.inl z)) (some (vI zz)) (hO _ List.mem_cons_self) ⟨_, rfl, zz, hz, rfl⟩ (hE l G d h cls [] zz)
    | 15 =>
      intro hs hE hdd
      clear hdd
      obtain ⟨n, env, fs, mm, H⟩ := S
      have hs : r15 st (n, env, fs, mm, H) = some os := hs
      obtain ⟨z, rfl, rfl, b1, b2⟩ := r15_inv hs
      obtain ⟨y, c0, rfl, ⟨zz, hz, rfl⟩, g4⟩ := hg.2.1.uncons
      have hb := bnd_ok hg.2.2.1 hg.2.2.2.1 hz
      have k1 : ky 1 = 2147483649 := by decide
      have hz2 : zz = 0 ∨ zz = 1 := by
        obtain ⟨d1, d2⟩ := hb
        by_cases e : ky zz = 2147483648
        · exact Or.inl (ky_inj (by rw [e, ky0]))
        · exact Or.inr (ky_inj (by rw [k1]; omega))
      cases c0 with
      | cons _ _ => cases g4
      | nil => exact hret (some (.inl z)) (some (vI zz)) (hO _ List.mem_cons_self) ⟨_, rfl, zz, hz, rfl⟩ (hE l G d h cls [] zz hz2)
    | 16 =>
      intro hs hE hdd
      clear hdd
      have hs : r16 st S = some os := hs
      unfold r16 at hs
      split at hs
      · have g2 := hg.2.1
        cases cst with
        | cons _ _ => cases g2
        | nil =>
          have hs := Option.some.inj hs
          exact hret none none (hO _ (by rw [← hs]; exact List.mem_cons_self)) rfl (hE l G d h cls [])
      · cases hs
    | 0 => exact fun hs _ hd => hd hs
    | 1 => exact fun hs _ hd => hd hs
    | 2 => exact fun hs _ hd => hd hs
    | 3 => exact fun hs _ hd => hd hs
    | 4 => exact fun hs _ hd => hd hs
    | 5 => exact fun hs _ hd => hd hs
    | 6 => exact fun hs _ hd => hd hs
    | 7 => exact fun hs _ hd => hd hs
    | 8 => exact fun hs _ hd => hd hs
    | 9 => exact fun hs _ hd => hd hs
    | 10 => exact fun hs _ hd => hd hs
    | 11 => exact fun hs _ hd => hd hs
    | n + 17 => exact fun hs _ hd => hd hs
end RunS
