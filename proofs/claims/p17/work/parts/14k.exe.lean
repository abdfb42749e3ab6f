def CC (lam : Nat → Nat) (W : List (Nat × Nat)) (H0 : PH) (ρ1 : List Int32) (lsA : AL) (HA : List AC) (cls : List (Option PV)) (h : PH) : Prop := R2 (oRel lam ρ1) lsA cls ∧ HOK lam ρ1 HA h ∧ FRM lam W H0 h
def LOC (lam : Nat → Nat) (kind L cl f : Nat) (cls : List (Option PV)) (h : PH) (x : Int32) : Prop := if kind = 9 then True else if kind = 3 then ∃ q xs, h[lam cl]? = some (eO q xs) ∧ xs[f]? = some (vI x) else cls[L]? = some (some (vI x)) ∧ (kind = 4 → ky x % cl = f)
def dn (kind : Nat) : Bool := Nat.beq kind 1 || Nat.beq kind 5
def en (kind : Nat) : Bool := Nat.beq kind 2 || (Nat.beq kind 4 || (Nat.beq kind 5 || Nat.beq kind 9))
def LTK (kind : Nat) (x0 x : Int32) : Prop := if kind = 9 then True else if dn kind = true then ky x < ky x0 else ky x0 < ky x
theorem LTK_ind (kind : Nat) (h9 : kind ≠ 9) (P : Int32 → Prop) (h : ∀ x, (∀ x', LTK kind x x' → P x') → P x) : ∀ x, P x := by
  have key : ∀ n x, (if dn kind = true then ky x else 4294967296 - ky x) = n → P x := by
    intro n
    induction n using Nat.strongRecOn with
    | ind n ih =>
      intro x hx
      refine h x (fun x' hl => ih _ ?_ x' rfl)
      have h1 := ky_lim x; have h2 := ky_lim x'
      unfold LTK at hl
      rw [if_neg h9] at hl
      by_cases hk : dn kind = true
      · rw [if_pos hk] at hl hx ⊢; omega
      · rw [if_neg hk] at hl hx ⊢; omega
  exact fun x => key _ x rfl
def AOK (lam : Nat → Nat) (W : List (Nat × Nat)) (NH : Nat) (H0 : PH) (K : Nat → List (Option PV) → List PV → PH → Prop) (ρ : List Int32) (A : AT) : Prop := match A with
  | (i, kind, L, cl, f, lsA, HA, n1, z) => ∃ ρ1 x0 τ, n1 = ρ1.length ∧ HA.length = NH ∧ ρ = τ ++ ρ1 ∧ (en kind = false → val ρ (4294967296 + n1) = some x0) ∧ (en kind = true → ky x0 = z) ∧ ∀ cls h x, CC lam W H0 ρ1 lsA HA cls h → LOC lam kind L cl f cls h x → LTK kind x0 x → K i cls [] h
theorem AOK.up {lam : Nat → Nat} {W : List (Nat × Nat)} {NH : Nat} {H0 : PH} {K : Nat → List (Option PV) → List PV → PH → Prop} {ρ : List Int32} {A : AT} (τ' : List Int32) (h : AOK lam W NH H0 K ρ A) : AOK lam W NH H0 K (τ' ++ ρ) A := by
  obtain ⟨i, kind, L, cl, f, lsA, HA, n1, z⟩ := A
  obtain ⟨ρ1, x0, τ, h1, h2, h3, h4, h5, h6⟩ := h
  exact ⟨ρ1, x0, τ' ++ τ, h1, h2, by rw [h3, List.append_assoc], fun q => val_app τ' (h4 q), h5, h6⟩
noncomputable def bkm (kind L cl f n1 z n : Nat) (env : List SE) (ls : AL) (H : List AC) : Bool := match kind with
  | 0 => (match nth ls L with
    | some (some (.inl c)) => grw true n env c (4294967296 + n1)
    | _ => false)
  | 1 => (match nth ls L with
    | some (some (.inl c)) => grw false n env c (4294967296 + n1)
    | _ => false)
  | 2 => (match nth ls L with
    | some (some (.inl c)) => Nat.blt z (bnd n env c).1
    | _ => false)
  | 4 => (match nth ls L with
    | some (some (.inl c)) => Nat.blt z (bnd n env c).1 && (Nat.beq (bnd n env c).1 (bnd n env c).2 && Nat.beq ((bnd n env c).1 % cl) f)
    | _ => false)
  | 5 => (match nth ls L with
    | some (some (.inl c)) => Nat.blt (bnd n env c).2 z
    | _ => false)
  | 9 => true
  | 3 => (match nth H cl with
    | some (.inr (_, vs)) => (match nth vs f with
      | some (.inl c) => grw true n env c (4294967296 + n1)
      | _ => false)
    | _ => false)
  | _ => false
noncomputable def bck (A : AT) (ls : AL) (st : List AV) (S : AS) : Bool := match A with
  | (_, kind, L, cl, f, lsA, HA, n1, z) => (match st with
    | [] => (match S with
      | (n, env, _, _, H) => bif sb2 (sbO n env n1) lsA ls then (bif sb2 (sbC n env n1) HA H then bkm kind L cl f n1 z n env ls H else false) else false)
    | _ :: _ => false)
theorem bif_t {c d : Bool} (h : (bif c then d else false) = true) : c = true ∧ d = true := by
  cases c
  · cases h
  · exact ⟨rfl, h⟩
theorem bck_ok {lam : Nat → Nat} {W : List (Nat × Nat)} {NH : Nat} {H0 : PH} {K : Nat → List (Option PV) → List PV → PH → Prop} {ρ : List Int32} {A : AT} {ls : AL} {st : List AV} {S : AS} {cls : List (Option PV)} {cst : List PV} {h : PH} (hb : bck A ls st S = true) (hA : AOK lam W NH H0 K ρ A) (hg : GST lam W NH H0 ρ ls st S cls cst h) : K A.1 cls cst h := by
  obtain ⟨i, kind, L, cl, f, lsA, HA, n1, z⟩ := A
  obtain ⟨ρ1, x0, τ, h1, h2, rfl, h4, h5, h6⟩ := hA
  obtain ⟨n, env, fs, mm, H⟩ := S
  obtain ⟨g1, g2, hn, hE, hF, hM, hH, hL, hR⟩ := hg
  cases st with
  | cons a t => cases hb
  | nil =>
    cases cst with
    | cons _ _ => cases g2
    | nil =>
      have hb : (bif sb2 (sbO n env n1) lsA ls then (bif sb2 (sbC n env n1) HA H then bkm kind L cl f n1 z n env ls H else false) else false) = true := hb
      obtain ⟨b1, b2⟩ := bif_t hb
      obtain ⟨b3, b4⟩ := bif_t b2
      have hcc : CC lam W H0 ρ1 lsA HA cls h := ⟨sb2_R2 (R := oRel lam (τ ++ ρ1)) (R' := oRel lam ρ1) (fun a s x q1 q2 => sbO_ok hn hE h1 a s x q1 q2) b1 g1, sbH_ok hn hE h1 b3 hH, hR⟩
      have loc : ∀ cc, nth ls L = some (some (.inl cc)) → ∃ x, val (τ ++ ρ1) cc = some x ∧ cls[L]? = some (some (vI x)) := by
        intro cc hcc
        obtain ⟨y, q1, y', rfl, x, q2, rfl⟩ := g1.get hcc
        exact ⟨x, q2, q1⟩
      unfold bkm at b4
      split at b4
      · split at b4
        · rename_i cc hcc2
          obtain ⟨x, q1, q2⟩ := loc cc hcc2
          have := grw_ok hn hE q1 (h4 rfl) b4
          rw [if_pos rfl] at this
          exact h6 cls h x hcc (by unfold LOC; rw [if_neg (by decide), if_neg (by decide)]; exact ⟨q2, fun q => absurd q (by decide)⟩) (by unfold LTK; rw [if_neg (by decide), if_neg (by decide)]; exact this)
        · cases b4
      · split at b4
        · rename_i cc hcc2
          obtain ⟨x, q1, q2⟩ := loc cc hcc2
          have := grw_ok hn hE q1 (h4 rfl) b4
          rw [if_neg (by decide)] at this
          exact h6 cls h x hcc (by unfold LOC; rw [if_neg (by decide), if_neg (by decide)]; exact ⟨q2, fun q => absurd q (by decide)⟩) (by unfold LTK; rw [if_neg (by decide), if_pos (by decide)]; exact this)
        · cases b4
      · split at b4
        · rename_i cc hcc2
          obtain ⟨x, q1, q2⟩ := loc cc hcc2
          have hbd := bnd_ok hn hE q1
          rw [blt_t] at b4
          exact h6 cls h x hcc (by unfold LOC; rw [if_neg (by decide), if_neg (by decide)]; exact ⟨q2, fun q => absurd q (by decide)⟩) (by unfold LTK; rw [if_neg (by decide), if_neg (by decide), h5 rfl]; exact Nat.lt_of_lt_of_le b4 hbd.1)
        · cases b4
      · split at b4
        · rename_i cc hcc2
          obtain ⟨x, q1, q2⟩ := loc cc hcc2
          have hbd := bnd_ok hn hE q1
          rw [Bool.and_eq_true, Bool.and_eq_true, blt_t, Nat.beq_eq, Nat.beq_eq] at b4
          obtain ⟨c1, c2, c3⟩ := b4
          have hk : ky x = (bnd n env cc).1 := Nat.le_antisymm (by rw [c2]; exact hbd.2) hbd.1
          exact h6 cls h x hcc (by unfold LOC; rw [if_neg (by decide), if_neg (by decide)]; exact ⟨q2, fun _ => by rw [hk]; exact c3⟩) (by unfold LTK; rw [if_neg (by decide), if_neg (by decide), h5 rfl]; exact Nat.lt_of_lt_of_le c1 hbd.1)
        · cases b4
      · split at b4
        · rename_i cc hcc2
          obtain ⟨x, q1, q2⟩ := loc cc hcc2
          have hbd := bnd_ok hn hE q1
          rw [blt_t] at b4
          exact h6 cls h x hcc (by unfold LOC; rw [if_neg (by decide), if_neg (by decide)]; exact ⟨q2, fun q => absurd q (by decide)⟩) (by unfold LTK; rw [if_neg (by decide), if_pos (by decide), h5 rfl]; exact Nat.lt_of_le_of_lt hbd.2 b4)
        · cases b4
      · exact h6 cls h 0 hcc (by unfold LOC; rw [if_pos rfl]; trivial) (by unfold LTK; rw [if_pos rfl]; trivial)
      · split at b4
        · rename_i q vs hx
          split at b4
          · rename_i cc hcc2
            obtain ⟨y, hy, fsx, rfl, hfs⟩ := hH cl _ hx
            obtain ⟨w, hw, x, q1, rfl⟩ := hfs.get hcc2
            have := grw_ok hn hE q1 (h4 rfl) b4
            rw [if_pos rfl] at this
            exact h6 cls h x hcc (by unfold LOC; rw [if_neg (by decide), if_pos rfl]; exact ⟨_, fsx, hy, hw⟩) (by unfold LTK; rw [if_neg (by decide), if_neg (by decide)]; exact this)
          · cases b4
        · cases b4
      · cases b4
noncomputable def enm (W : List (Nat × Nat)) (code : List CO) (call : Nat → List AV → AS → Option (List AO)) (ih : List AT → AX → Option (List AO)) (act : List AT) (i kind L stp f : Nat) (lsA : AL) (HA : List AC) (n : Nat) (env : List SE) (fs : List (Nat × Nat × Nat)) (s1 cnt : Nat) : Nat → Option (List AO) := Nat.rec (motive := fun _ => Nat → Option (List AO)) (fun _ => some []) (fun _ r z => oapp (bdy W code call (ih ((i, kind, L, stp, f, lsA, HA, n, z) :: act)) i (stl lsA (some (.inl z)) L) [] (n, env, fs, [], HA)) (r (z + s1))) cnt
noncomputable def ck4 (kind stp lo L n : Nat) (env : List SE) (ls : AL) : Bool := bif Nat.beq kind 4 then (Nat.blt 0 stp && (match nth ls L with
  | some (some (.inl c)) => Nat.beq (bnd n env c).1 lo && Nat.beq (bnd n env c).2 lo
  | _ => false)) else (Nat.beq kind 2 || Nat.beq kind 5)
noncomputable def entE (W : List (Nat × Nat)) (code : List CO) (call : Nat → List AV → AS → Option (List AO)) (ih : List AT → AX → Option (List AO)) (act : List AT) (i kind L stp : Nat) (lsA : AL) (HA : List AC) (n : Nat) (env : List SE) (fs : List (Nat × Nat × Nat)) (ls : AL) (H : List AC) : Option (List AO) := bif (sb2 (sbO n env n) lsA ls && sb2 (sbC n env n) HA H) then (match nth lsA L with
  | some (some (.inr (.inr (.inr (lo, hi))))) => bif ck4 kind stp lo L n env ls then (bif Nat.beq kind 4 then enm W code call ih act i kind L stp (lo % stp) lsA HA n env fs stp ((hi - lo) / stp + 1) lo else enm W code call ih act i kind L stp 0 lsA HA n env fs 1 (Nat.succ hi - lo) lo) else none
  | _ => none) else none
noncomputable def ent0 (W : List (Nat × Nat)) (code : List CO) (call : Nat → List AV → AS → Option (List AO)) (ih : List AT → AX → Option (List AO)) (act : List AT) (i kind L : Nat) (lsA : AL) (HA : List AC) (n : Nat) (env : List SE) (fs : List (Nat × Nat × Nat)) (ls : AL) (H : List AC) : Option (List AO) := bif (sb2 (sbO n env n) lsA ls && sb2 (sbC n env n) HA H) then (match nth lsA L with
  | some (some (.inr (.inr (.inr (lo, hi))))) => bdy W code call (ih ((i, kind, L, 0, 0, lsA, HA, n, 0) :: act)) i (stl lsA (some (.inl (4294967296 + n))) L) [] (Nat.succ n, (lo, hi, 99, 0, 0) :: env, fs, [], HA)
  | _ => none) else none
noncomputable def ent3 (W : List (Nat × Nat)) (code : List CO) (call : Nat → List AV → AS → Option (List AO)) (ih : List AT → AX → Option (List AO)) (act : List AT) (i k f : Nat) (lsA : AL) (HA : List AC) (n : Nat) (env : List SE) (fs : List (Nat × Nat × Nat)) (ls : AL) (H : List AC) : Option (List AO) := bif (sb2 (sbO n env n) lsA ls && sb2 (sbC n env n) HA H) then (match nth HA k with
  | some (.inr (q, vs)) => (match nth vs f with
    | some (.inr (.inr (.inr (lo, hi)))) => bdy W code call (ih ((i, 3, 0, k, f, lsA, HA, n, 0) :: act)) i lsA [] (Nat.succ n, (lo, hi, 99, 0, 0) :: env, fs, [], stl HA (.inr (q, stl vs (.inl (4294967296 + n)) f)) k)
    | _ => none)
  | _ => none) else none
noncomputable def entJ (W : List (Nat × Nat)) (code : List CO) (call : Nat → List AV → AS → Option (List AO)) (ih : List AT → AX → Option (List AO)) (act : List AT) (i j : Nat) (lsA : AL) (HA : List AC) (n : Nat) (env : List SE) (fs mm : List (Nat × Nat × Nat)) (ls : AL) (H : List AC) : Option (List AO) := bif sb2 (sbC n env n) HA H then oapp (ih act (j, lsA, [], (n, env, fs, [], HA))) (bdy W code call (ih ((j, 9, 0, 0, 0, lsA, HA, n, 2147483648) :: act)) i ls [] (n, env, fs, mm, H)) else none
noncomputable def hvF (H : List AC) (k f lo hi : Nat) : List AC := match nth H k with
  | some (.inr (q, vs)) => stl H (.inr (q, stl vs (.inr (.inr (.inr (lo, hi)))) f)) k
  | _ => H
noncomputable def ent (T : List AC) (W : List (Nat × Nat)) (code : List CO) (call : Nat → List AV → AS → Option (List AO)) (ih : List AT → AX → Option (List AO)) (act : List AT) (i : Nat) (cu : CU) (ls : AL) (st : List AV) (S : AS) : Option (List AO) := match st with
  | _ :: _ => none
  | [] => (match cu with
    | (kind, L, pt, f, lo, hi, locs, hps) => (match S with
      | (n, env, fs, mm, H) => bif Nat.beq kind 9 then entJ W code call ih act i f (hvL locs ls) (hvH T ls hps H) n env fs mm ls H else bif Nat.beq kind 3 then (match pthL ls H L pt with
          | some k => ent3 W code call ih act i k f (hvL locs ls) (hvF (hvH T ls hps H) k f lo hi) n env fs ls H
          | none => none)
        else bif en kind then (match nth ls L with
          | some (some (.inl c)) => entE W code call ih act i kind L f (stl (hvL locs ls) (some (.inr (.inr (.inr (bif Nat.beq kind 5 then (lo, (bnd n env c).2) else ((bnd n env c).1, hi)))))) L) (hvH T ls hps H) n env fs ls H
          | _ => none)
        else bif Nat.ble kind 1 then ent0 W code call ih act i kind L (stl (hvL locs ls) (some (.inr (.inr (.inr (lo, hi))))) L) (hvH T ls hps H) n env fs ls H else none))
noncomputable def exe (T : List AC) (W : List (Nat × Nat)) (code : List CO) (cuts : List (Nat × CU)) (call : Nat → List AV → AS → Option (List AO)) (F : Nat) : List AT → AX → Option (List AO) := Nat.rec (motive := fun _ => List AT → AX → Option (List AO)) (fun _ _ => none) (fun _ ih act x => match x with
  | (i, ls, st, S) => (match actF act i with
    | some A => bif bck A ls st S then some [] else none
    | none => (match cutF cuts i with
      | none => bdy W code call (ih act) i ls st S
      | some cu => ent T W code call ih act i cu ls st S))) F
section ExeS
variable {lam : Nat → Nat} {T : List AC} {W : List (Nat × Nat)} {NH : Nat} {H0 : PH} {l : Launch} {G : PG} {d : Nat} {own : String} {cc : ByteArray} {nL : Nat} {ret : Option FieldType} {code : List PO} {p : Program} {e : Env} {s : State} {m : MethodId} {args : Array Value} {below : List Frame} {meth : Method} {c : Code} {ρ0 : List Int32} {OUTS : List AO} {call : Nat → List AV → AS → Option (List AO)}
def IHK (lam : Nat → Nat) (W : List (Nat × Nat)) (NH : Nat) (H0 : PH) (ρ0 : List Int32) (OUTS : List AO) (K : Nat → List (Option PV) → List PV → PH → Prop) (ih : List AT → AX → Option (List AO)) : Prop := ∀ act i ls st S os, ih act (i, ls, st, S) = some os → (∀ q, q ∈ os → q ∈ OUTS) → ∀ ρ τ0 cls cst h, ρ = τ0 ++ ρ0 → (∀ A, A ∈ act → AOK lam W NH H0 K ρ A) → GST lam W NH H0 ρ ls st S cls cst h → K i cls cst h
theorem ent0_ok {ih : List AT → AX → Option (List AO)} {act : List AT} {i kind L : Nat} {lsA ls : AL} {HA H : List AC} {n : Nat} {env : List SE} {fs mm : List (Nat × Nat × Nat)} {os : List AO} {ρ τ0 : List Int32} {cls : List (Option PV)} {h : PH} (hi : ∀ k j, (k, j) ∈ W → ∀ k', lam k = lam k' → k = k') (hcode : OKs (eOK own cc nL ret code) code) (hc : CALOK lam W NH H0 l G d call) (X : pX p s m args c G nL cc own) (hr : meth.sig.returnType = ret) (hlk : meth.locks = false) (hih : IHK lam W NH H0 ρ0 OUTS (KP p l e s m args below meth c G nL d code (PHI lam W NH H0 ρ0 OUTS)) ih) (hkind : kind ≤ 1) (hs : ent0 W (code.map cnv) call ih act i kind L lsA HA n env fs ls H = some os) (hO : ∀ q, q ∈ os → q ∈ OUTS) (hρ : ρ = τ0 ++ ρ0) (hact : ∀ A, A ∈ act → AOK lam W NH H0 (KP p l e s m args below meth c G nL d code (PHI lam W NH H0 ρ0 OUTS)) ρ A) (hg : GST lam W NH H0 ρ ls [] (n, env, fs, mm, H) cls [] h) : KP p l e s m args below meth c G nL d code (PHI lam W NH H0 ρ0 OUTS) i cls [] h := by
  obtain ⟨g1, -, hn, hE, hF, hM, hH, hL, hR⟩ := hg
  unfold ent0 at hs
  obtain ⟨e1, hs2⟩ := bif_some hs
  rw [Bool.and_eq_true] at e1
  have hlen : n = ρ.length := hn.trans hE.len
  have hcc : CC lam W H0 ρ lsA HA cls h := ⟨sb2_R2 (R := oRel lam ([] ++ ρ)) (R' := oRel lam ρ) (fun a s x q1 q2 => sbO_ok (τ := []) hn hE hlen a s x q1 q2) e1.1 g1, sbH_ok (τ := []) hn hE hlen e1.2 hH, hR⟩
  have hHA : HA.length = NH := (sb2_len e1.2).trans hL
  split at hs2
  · rename_i lo hi' hLL
    have key : ∀ x, ∀ cls h, CC lam W H0 ρ lsA HA cls h → LOC lam kind L 0 0 cls h x → KP p l e s m args below meth c G nL d code (PHI lam W NH H0 ρ0 OUTS) i cls [] h := by
      refine LTK_ind kind (by omega) _ ?_
      intro x hx cls h hc1 hl1
      have hl2 : cls[L]? = some (some (vI x)) := by
        unfold LOC at hl1
        rw [if_neg (by omega), if_neg (by omega)] at hl1
        exact hl1.1
      have hbx : inb lo hi' x := by
        obtain ⟨y, q1, y', rfl, z, rfl, hb⟩ := hc1.1.get hLL
        rw [hl2] at q1
        rw [Sum.inl.inj (Option.some.inj (Option.some.inj q1))]; exact hb
      have hen : en kind = false := by
        rcases (show kind = 0 ∨ kind = 1 by omega) with rfl | rfl <;> rfl
      refine bdy_ok (τ0 := x :: τ0) (ρ := x :: ρ) hi hcode hc X hr hlk (by rw [hρ]; rfl) hs2 hO ?_ ⟨(hc1.1.upo [x]).put ⟨_, rfl, x, val_new hlen, rfl⟩ hl2, trivial, by rw [hn]; rfl, ⟨⟨hbx, fun q => absurd (show 99 ≤ 8 from q) (by decide)⟩, hE⟩, hF.up [x], fun _ _ _ hm => (List.not_mem_nil hm).elim, hc1.2.1.up [x], hHA, hc1.2.2⟩
      intro x' o q1 q2 τ cls' cst' h' hg'
      obtain ⟨i', ls', st', S'⟩ := x'
      refine hih _ i' ls' st' S' o q1 q2 (τ ++ x :: ρ) (τ ++ x :: τ0) cls' cst' h' (by rw [hρ, List.append_assoc]; rfl) ?_ hg'
      intro A hA
      rcases List.mem_cons.mp hA with rfl | hA'
      · refine ⟨ρ, x, τ ++ [x], hlen, hHA, by simp, fun _ => val_app τ (val_new hlen), fun q => absurd q (by rw [hen]; decide), fun cls2 h2 x2 a1 a2 a3 => hx x2 a3 cls2 h2 a1 a2⟩
      · have := (hact A hA').up (τ ++ [x])
        rw [List.append_assoc] at this
        exact this
    obtain ⟨y, q1, y', rfl, z, rfl, hb⟩ := hcc.1.get hLL
    exact key z cls h hcc (by unfold LOC; rw [if_neg (by omega), if_neg (by omega)]; exact ⟨q1, fun q => by omega⟩)
  · cases hs2
theorem entE_ok {ih : List AT → AX → Option (List AO)} {act : List AT} {i kind L stp : Nat} {lsA ls : AL} {HA H : List AC} {n : Nat} {env : List SE} {fs mm : List (Nat × Nat × Nat)} {os : List AO} {ρ τ0 : List Int32} {cls : List (Option PV)} {h : PH} (hi : ∀ k j, (k, j) ∈ W → ∀ k', lam k = lam k' → k = k') (hcode : OKs (eOK own cc nL ret code) code) (hc : CALOK lam W NH H0 l G d call) (X : pX p s m args c G nL cc own) (hr : meth.sig.returnType = ret) (hlk : meth.locks = false) (hih : IHK lam W NH H0 ρ0 OUTS (KP p l e s m args below meth c G nL d code (PHI lam W NH H0 ρ0 OUTS)) ih) (hkind : en kind = true) (hs : entE W (code.map cnv) call ih act i kind L stp lsA HA n env fs ls H = some os) (hO : ∀ q, q ∈ os → q ∈ OUTS) (hρ : ρ = τ0 ++ ρ0) (hact : ∀ A, A ∈ act → AOK lam W NH H0 (KP p l e s m args below meth c G nL d code (PHI lam W NH H0 ρ0 OUTS)) ρ A) (hg : GST lam W NH H0 ρ ls [] (n, env, fs, mm, H) cls [] h) : KP p l e s m args below meth c G nL d code (PHI lam W NH H0 ρ0 OUTS) i cls [] h := by
  obtain ⟨g1, -, hn, hE, hF, hM, hH, hL, hR⟩ := hg
  unfold entE at hs
  obtain ⟨e1, hs2⟩ := bif_some hs
  rw [Bool.and_eq_true] at e1
  have hlen : n = ρ.length := hn.trans hE.len
  have hcc : CC lam W H0 ρ lsA HA cls h := ⟨sb2_R2 (R := oRel lam ([] ++ ρ)) (R' := oRel lam ρ) (fun a s x q1 q2 => sbO_ok (τ := []) hn hE hlen a s x q1 q2) e1.1 g1, sbH_ok (τ := []) hn hE hlen e1.2 hH, hR⟩
  have hHA : HA.length = NH := (sb2_len e1.2).trans hL
  split at hs2
  · rename_i lo hi' hLL
    have hk3 : kind ≠ 3 := fun q => by subst q; cases hkind
    obtain ⟨e4, hs3⟩ := bif_some hs2
    have hk9 : kind ≠ 9 := fun q => by subst q; cases e4
    have key : ∀ x, ∀ cls h, CC lam W H0 ρ lsA HA cls h → LOC lam kind L stp (bif Nat.beq kind 4 then lo % stp else 0) cls h x → KP p l e s m args below meth c G nL d code (PHI lam W NH H0 ρ0 OUTS) i cls [] h := by
      refine LTK_ind kind hk9 _ ?_
      intro x hx cls h hc1 hl1
      have hl2 : cls[L]? = some (some (vI x)) := by
        unfold LOC at hl1
        rw [if_neg hk9, if_neg hk3] at hl1
        exact hl1.1
      have hbx : inb lo hi' x := by
        obtain ⟨y, q1, y', rfl, z, rfl, hb⟩ := hc1.1.get hLL
        rw [hl2] at q1
        rw [Sum.inl.inj (Option.some.inj (Option.some.inj q1))]; exact hb
      obtain ⟨b1, b2⟩ := hbx
      have enr : ∀ (f0 s1 cnt z : Nat) (os : List AO), enm W (code.map cnv) call ih act i kind L stp f0 lsA HA n env fs s1 cnt z = some os → z ≤ ky x → ky x < z + cnt * s1 → (ky x - z) % s1 = 0 → ∃ o, bdy W (code.map cnv) call (ih ((i, kind, L, stp, f0, lsA, HA, n, ky x) :: act)) i (stl lsA (some (.inl (ky x))) L) [] (n, env, fs, [], HA) = some o ∧ ∀ q, q ∈ o → q ∈ os := by
        intro f0 s1 cnt
        induction cnt with
        | zero => intro z os _ h1 h2; omega
        | succ cnt ihc =>
          intro z os hz h1 h2 h3
          have hz : oapp (bdy W (code.map cnv) call (ih ((i, kind, L, stp, f0, lsA, HA, n, z) :: act)) i (stl lsA (some (.inl z)) L) [] (n, env, fs, [], HA)) (enm W (code.map cnv) call ih act i kind L stp f0 lsA HA n env fs s1 cnt (z + s1)) = some os := hz
          obtain ⟨xa, xb, h4, h5, rfl⟩ := oapp_inv hz
          by_cases hzx : z = ky x
          · rw [hzx] at h4
            exact ⟨xa, h4, fun q hq => List.mem_append_left _ hq⟩
          · have hs1 : s1 ≤ ky x - z := by
              apply Nat.le_of_dvd (by omega)
              exact Nat.dvd_of_mod_eq_zero h3
            obtain ⟨o, h6, h7⟩ := ihc (z + s1) xb h5 (by omega) (by rw [Nat.succ_mul] at h2; omega) (by
              rw [show ky x - (z + s1) = ky x - z - s1 by omega]
              rw [← Nat.mod_eq_sub_mod hs1]; exact h3)
            exact ⟨o, h6, fun q hq => List.mem_append_right _ (h7 q hq)⟩
      have hex : ∃ o, bdy W (code.map cnv) call (ih ((i, kind, L, stp, (bif Nat.beq kind 4 then lo % stp else 0), lsA, HA, n, ky x) :: act)) i (stl lsA (some (.inl (ky x))) L) [] (n, env, fs, [], HA) = some o ∧ ∀ q, q ∈ o → q ∈ os := by
        cases hk4 : Nat.beq kind 4 with
        | true =>
          rw [hk4, cond_true] at hs3
          have hk4' := Nat.eq_of_beq_eq_true hk4
          unfold ck4 at e4
          rw [hk4, cond_true, Bool.and_eq_true, blt_t] at e4
          have hm : ky x % stp = lo % stp := by
            unfold LOC at hl1
            rw [if_neg hk9, if_neg hk3] at hl1
            have := hl1.2 hk4'
            rw [hk4, cond_true] at this
            exact this
          refine enr _ _ _ _ _ hs3 b1 ?_ (Nat.sub_mod_eq_zero_of_mod_eq hm)
          have hd := Nat.div_add_mod (hi' - lo) stp
          have hr' := Nat.mod_lt (hi' - lo) e4.1
          rw [Nat.add_mul, Nat.one_mul, Nat.mul_comm]
          generalize stp * ((hi' - lo) / stp) = P at hd ⊢
          omega
        | false =>
          rw [hk4, cond_false] at hs3
          exact enr _ _ _ _ _ hs3 b1 (by omega) (Nat.mod_one _)
      obtain ⟨o, h5, h6⟩ := hex
      refine bdy_ok (τ0 := τ0) (ρ := ρ) hi hcode hc X hr hlk hρ h5 (fun q hq => hO q (h6 q hq)) ?_ ⟨hc1.1.put ⟨_, rfl, x, val_ky x, rfl⟩ hl2, trivial, hn, hE, hF, fun _ _ _ hm => (List.not_mem_nil hm).elim, hc1.2.1, hHA, hc1.2.2⟩
      intro x' o q1 q2 τ cls' cst' h' hg'
      obtain ⟨i', ls', st', S'⟩ := x'
      refine hih _ i' ls' st' S' o q1 q2 (τ ++ ρ) (τ ++ τ0) cls' cst' h' (by rw [hρ, List.append_assoc]) ?_ hg'
      intro A hA
      rcases List.mem_cons.mp hA with rfl | hA'
      · exact ⟨ρ, x, τ, hlen, hHA, rfl, fun q => absurd q (by rw [hkind]; decide), fun _ => rfl, fun cls2 h2 x2 a1 a2 a3 => hx x2 a3 cls2 h2 a1 a2⟩
      · exact (hact A hA').up τ
    obtain ⟨y, q1, y', rfl, z, rfl, hb⟩ := hcc.1.get hLL
    refine key z cls h hcc ?_
    unfold LOC
    rw [if_neg hk9, if_neg hk3]
    refine ⟨q1, fun hk4 => ?_⟩
    subst hk4
    unfold ck4 at e4
    rw [show Nat.beq 4 4 = true from rfl, cond_true, Bool.and_eq_true] at e4
    rw [show Nat.beq 4 4 = true from rfl, cond_true]
    have e42 := e4.2
    split at e42
    · rename_i c' hc'
      rw [Bool.and_eq_true, Nat.beq_eq, Nat.beq_eq] at e42
      obtain ⟨y2, w1, y3, rfl, z2, w2, w3⟩ := g1.get hc'
      rw [q1] at w1
      have w1 := Sum.inl.inj ((Option.some.inj (Option.some.inj w1)).trans w3)
      subst w1
      have hb2 := bnd_ok hn hE w2
      have : ky z = lo := Nat.le_antisymm (by rw [← e42.2]; exact hb2.2) (by rw [← e42.1]; exact hb2.1)
      rw [this]
    · cases e42
  · cases hs2
theorem ent3_ok {ih : List AT → AX → Option (List AO)} {act : List AT} {i k f : Nat} {lsA ls : AL} {HA H : List AC} {n : Nat} {env : List SE} {fs mm : List (Nat × Nat × Nat)} {os : List AO} {ρ τ0 : List Int32} {cls : List (Option PV)} {h : PH} (hi : ∀ k j, (k, j) ∈ W → ∀ k', lam k = lam k' → k = k') (hcode : OKs (eOK own cc nL ret code) code) (hc : CALOK lam W NH H0 l G d call) (X : pX p s m args c G nL cc own) (hr : meth.sig.returnType = ret) (hlk : meth.locks = false) (hih : IHK lam W NH H0 ρ0 OUTS (KP p l e s m args below meth c G nL d code (PHI lam W NH H0 ρ0 OUTS)) ih) (hs : ent3 W (code.map cnv) call ih act i k f lsA HA n env fs ls H = some os) (hO : ∀ q, q ∈ os → q ∈ OUTS) (hρ : ρ = τ0 ++ ρ0) (hact : ∀ A, A ∈ act → AOK lam W NH H0 (KP p l e s m args below meth c G nL d code (PHI lam W NH H0 ρ0 OUTS)) ρ A) (hg : GST lam W NH H0 ρ ls [] (n, env, fs, mm, H) cls [] h) : KP p l e s m args below meth c G nL d code (PHI lam W NH H0 ρ0 OUTS) i cls [] h := by
  obtain ⟨g1, -, hn, hE, hF, hM, hH, hL, hR⟩ := hg
  unfold ent3 at hs
  obtain ⟨e1, hs2⟩ := bif_some hs
  rw [Bool.and_eq_true] at e1
  have hlen : n = ρ.length := hn.trans hE.len
  have hcc : CC lam W H0 ρ lsA HA cls h := ⟨sb2_R2 (R := oRel lam ([] ++ ρ)) (R' := oRel lam ρ) (fun a s x q1 q2 => sbO_ok (τ := []) hn hE hlen a s x q1 q2) e1.1 g1, sbH_ok (τ := []) hn hE hlen e1.2 hH, hR⟩
  have hHA : HA.length = NH := (sb2_len e1.2).trans hL
  split at hs2
  · rename_i q vs hk
    split at hs2
    · rename_i lo hi' hLL
      have key : ∀ x, ∀ cls h, CC lam W H0 ρ lsA HA cls h → LOC lam 3 0 k f cls h x → KP p l e s m args below meth c G nL d code (PHI lam W NH H0 ρ0 OUTS) i cls [] h := by
        refine LTK_ind 3 (by decide) _ ?_
        intro x hx cls h hc1 hl1
        unfold LOC at hl1
        rw [if_neg (by decide), if_pos rfl] at hl1
        obtain ⟨q', xs', hl2, hl3⟩ := hl1
        obtain ⟨y, hy, fsx, rfl, hfs⟩ := hc1.2.1 k _ hk
        rw [hl2] at hy
        injection hy with hy
        injection hy with hy
        injection hy with hy1 hy2
        subst hy1
        subst hy2
        have hbx : inb lo hi' x := by
          obtain ⟨w, q1, z, rfl, hb⟩ := hfs.get hLL
          rw [hl3] at q1
          rw [Sum.inl.inj (Option.some.inj q1)]; exact hb
        refine bdy_ok (τ0 := x :: τ0) (ρ := x :: ρ) hi hcode hc X hr hlk (by rw [hρ]; rfl) hs2 hO ?_ ⟨hc1.1.upo [x], trivial, by rw [hn]; rfl, ⟨⟨hbx, fun q => absurd (show 99 ≤ 8 from q) (by decide)⟩, hE⟩, hF.up [x], fun _ _ _ hm => (List.not_mem_nil hm).elim, (hc1.2.1.up [x]).put hl2 ⟨_, rfl, (hfs.upv [x]).put ⟨x, val_new hlen, rfl⟩ hl3⟩, by rw [stl_len]; exact hHA, hc1.2.2⟩
        intro x' o q1 q2 τ cls' cst' h' hg'
        obtain ⟨i', ls', st', S'⟩ := x'
        refine hih _ i' ls' st' S' o q1 q2 (τ ++ x :: ρ) (τ ++ x :: τ0) cls' cst' h' (by rw [hρ, List.append_assoc]; rfl) ?_ hg'
        intro A hA
        rcases List.mem_cons.mp hA with rfl | hA'
        · refine ⟨ρ, x, τ ++ [x], hlen, hHA, by simp, fun _ => val_app τ (val_new hlen), fun q => absurd q (by decide), fun cls2 h2 x2 a1 a2 a3 => hx x2 a3 cls2 h2 a1 a2⟩
        · have := (hact A hA').up (τ ++ [x])
          rw [List.append_assoc] at this
          exact this
      obtain ⟨y, hy, fsx, rfl, hfs⟩ := hcc.2.1 k _ hk
      obtain ⟨w, q1, z, rfl, hb⟩ := hfs.get hLL
      exact key z cls h hcc (by unfold LOC; rw [if_neg (by decide), if_pos rfl]; exact ⟨_, fsx, hy, q1⟩)
    · cases hs2
  · cases hs2
theorem entJ_ok {ih : List AT → AX → Option (List AO)} {act : List AT} {i j : Nat} {lsA ls : AL} {HA H : List AC} {n : Nat} {env : List SE} {fs mm : List (Nat × Nat × Nat)} {os : List AO} {ρ τ0 : List Int32} {cls : List (Option PV)} {h : PH} (hi : ∀ k j, (k, j) ∈ W → ∀ k', lam k = lam k' → k = k') (hcode : OKs (eOK own cc nL ret code) code) (hc : CALOK lam W NH H0 l G d call) (X : pX p s m args c G nL cc own) (hr : meth.sig.returnType = ret) (hlk : meth.locks = false) (hih : IHK lam W NH H0 ρ0 OUTS (KP p l e s m args below meth c G nL d code (PHI lam W NH H0 ρ0 OUTS)) ih) (hs : entJ W (code.map cnv) call ih act i j lsA HA n env fs mm ls H = some os) (hO : ∀ q, q ∈ os → q ∈ OUTS) (hρ : ρ = τ0 ++ ρ0) (hact : ∀ A, A ∈ act → AOK lam W NH H0 (KP p l e s m args below meth c G nL d code (PHI lam W NH H0 ρ0 OUTS)) ρ A) (hg : GST lam W NH H0 ρ ls [] (n, env, fs, mm, H) cls [] h) : KP p l e s m args below meth c G nL d code (PHI lam W NH H0 ρ0 OUTS) i cls [] h := by
  have hg0 := hg
  obtain ⟨g1, -, hn, hE, hF, hM, hH, hL, hR⟩ := hg
  unfold entJ at hs
  obtain ⟨e1, hs2⟩ := bif_some hs
  have hlen : n = ρ.length := hn.trans hE.len
  have hHA : HA.length = NH := (sb2_len e1).trans hL
  obtain ⟨xa, xb, h1, h2, rfl⟩ := oapp_inv hs2
  have hj : ∀ cls h, CC lam W H0 ρ lsA HA cls h → KP p l e s m args below meth c G nL d code (PHI lam W NH H0 ρ0 OUTS) j cls [] h := by
    intro cls h hc1
    exact hih act j lsA [] _ xa h1 (fun q hq => hO q (List.mem_append_left _ hq)) ρ τ0 cls [] h hρ hact ⟨hc1.1, trivial, hn, hE, hF, fun _ _ _ hm => (List.not_mem_nil hm).elim, hc1.2.1, hHA, hc1.2.2⟩
  refine bdy_ok (τ0 := τ0) (ρ := ρ) hi hcode hc X hr hlk hρ h2 (fun q hq => hO q (List.mem_append_right _ hq)) ?_ hg0
  intro x' o q1 q2 τ cls' cst' h' hg'
  obtain ⟨i', ls', st', S'⟩ := x'
  refine hih _ i' ls' st' S' o q1 q2 (τ ++ ρ) (τ ++ τ0) cls' cst' h' (by rw [hρ, List.append_assoc]) ?_ hg'
  intro A hA
  rcases List.mem_cons.mp hA with rfl | hA'
  · exact ⟨ρ, 0, τ, hlen, hHA, rfl, fun q => absurd q (by decide), fun _ => ky0, fun cls2 h2 x2 a1 _ _ => hj cls2 h2 a1⟩
  · exact (hact A hA').up τ
theorem exe_ok {cuts : List (Nat × CU)} (hi : ∀ k j, (k, j) ∈ W → ∀ k', lam k = lam k' → k = k') (hcode : OKs (eOK own cc nL ret code) code) (hc : CALOK lam W NH H0 l G d call) (X : pX p s m args c G nL cc own) (hr : meth.sig.returnType = ret) (hlk : meth.locks = false) : ∀ F, IHK lam W NH H0 ρ0 OUTS (KP p l e s m args below meth c G nL d code (PHI lam W NH H0 ρ0 OUTS)) (exe T W (code.map cnv) cuts call F) := by
  intro F
  induction F with
  | zero => intro act i ls st S os hs; cases hs
  | succ F ih =>
    intro act i ls st S os hs hO ρ τ0 cls cst h hρ hact hg
    have hs : (match actF act i with
      | some A => bif bck A ls st S then some [] else none
      | none => (match cutF cuts i with
        | none => bdy W (code.map cnv) call (exe T W (code.map cnv) cuts call F act) i ls st S
        | some cu => ent T W (code.map cnv) call (exe T W (code.map cnv) cuts call F) act i cu ls st S)) = some os := hs
    split at hs
    · rename_i A hA
      obtain ⟨m1, m2⟩ := actF_ok hA
      obtain ⟨e1, -⟩ := bif_some hs
      have := bck_ok e1 (hact A m1) hg
      rw [m2] at this
      exact this
    · split at hs
      · refine bdy_ok (τ0 := τ0) hi hcode hc X hr hlk hρ hs hO ?_ hg
        intro x' o q1 q2 τ cls' cst' h' hg'
        obtain ⟨i', ls', st', S'⟩ := x'
        exact ih act i' ls' st' S' o q1 q2 (τ ++ ρ) (τ ++ τ0) cls' cst' h' (by rw [hρ, List.append_assoc]) (fun A hA => (hact A hA).up τ) hg'
      · rename_i cu hcu
        unfold ent at hs
        cases st with
        | cons a t => cases hs
        | nil =>
          have g2 := hg.2.1
          cases cst with
          | cons _ _ => cases g2
          | nil =>
            obtain ⟨kind, L, pt, f, lo, hi', locs, hps⟩ := cu
            obtain ⟨n, env, fs, mm, H⟩ := S
            simp only at hs
            cases hk9 : Nat.beq kind 9 with
            | true =>
              rw [hk9, cond_true] at hs
              exact entJ_ok hi hcode hc X hr hlk ih hs hO hρ hact hg
            | false =>
            rw [hk9, cond_false] at hs
            cases hk3 : Nat.beq kind 3 with
            | true =>
              rw [hk3, cond_true] at hs
              split at hs
              · exact ent3_ok hi hcode hc X hr hlk ih hs hO hρ hact hg
              · cases hs
            | false =>
              rw [hk3, cond_false] at hs
              cases hk2 : en kind with
              | true =>
                rw [hk2, cond_true] at hs
                split at hs
                · exact entE_ok hi hcode hc X hr hlk ih hk2 hs hO hρ hact hg
                · cases hs
              | false =>
                rw [hk2, cond_false] at hs
                obtain ⟨hkk, hs3⟩ := bif_some hs
                exact ent0_ok hi hcode hc X hr hlk ih (Nat.ble_eq.mp hkk) hs3 hO hρ hact hg
end ExeS
