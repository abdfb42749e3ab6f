/-! paths through a method -/
abbrev CO : Type := Nat × Nat × Nat × Nat × List Nat
def cnv (e : PO) : CO := (e.2.1, e.2.2.1, e.2.2.2.1, ky e.2.2.2.2.1, e.2.2.2.2.2)
abbrev AO : Type := Option AV × AS
/-- a cut: kind (0 a local grows, 1 it falls, 2 it is told number by number, 3 a field grows), which local (of 3: path and field), its bounds, locals, heap -/
abbrev CU : Type := Nat × Nat × List Nat × Nat × Nat × Nat × List (Nat × Nat × Nat) × List (Nat × List Nat × Nat)
/-- an active cut: place, kind, local, cell and field, locals, heap, base, number -/
abbrev AT : Type := Nat × Nat × Nat × Nat × Nat × AL × List AC × Nat × Nat
noncomputable def stp (W : List (Nat × Nat)) (t op a b c : Nat) (tg : List Nat) (ls : AL) (st : List AV) (S : AS) : Option (List AX) := match op with
  | 0 => x_iload a t ls st S
  | 1 => x_aload a t ls st S
  | 2 => some [(t, ls, .inl c :: st, S)]
  | 3 => x_get a b t ls st S
  | 4 => x_icmp a b t ls st S
  | 5 => x_iald t ls st S
  | 6 => bif Nat.ble a 8 then x_bin a t ls st S else none
  | 7 => x_istore a t ls st S
  | 8 => x_inc 0 a c t ls st S
  | 9 => some [(a, ls, st, S)]
  | 10 => x_if0 a b t ls st S
  | 11 => x_iast t W ls st S
  | 17 => x_div t ls st S
  | 18 => x_rem t ls st S
  | 19 => x_put a b c t W ls st S
  | 20 => x_neg t ls st S
  | 21 => (match st with
    | z :: st' => some [(t, ls, z :: z :: st', S)]
    | _ => none)
  | 22 => (match st with
    | z :: w :: st' => some [(t, ls, z :: w :: z :: w :: st', S)]
    | _ => none)
  | 23 => (match st with
    | _ :: st' => some [(t, ls, st', S)]
    | _ => none)
  | 24 => x_alen t ls st S
  | 25 => x_aald t ls st S
  | 27 => x_max false t ls st S
  | 28 => x_max true t ls st S
  | 29 => x_abs t ls st S
  | 30 => x_tab a b tg ls st S
  | 31 => x_astore a t ls st S
  | 32 => some [(t, ls, .inr (.inl none) :: st, S)]
  | 33 => x_ifnull a t ls st S
  | 34 => x_ifnull t a ls st S
  | 36 => x_aast t W ls st S
  | 37 => x_copy t W ls st S
  | _ => none
theorem stp_ok {lam : Nat → Nat} {W : List (Nat × Nat)} {NH : Nat} {H0 : PH} {l : Launch} {G : PG} {d : Nat} {own : String} {cc : ByteArray} {nL : Nat} {ret : Option FieldType} {code : List PO} {K : Nat → List (Option PV) → List PV → PH → Prop} {i0 t : Nat} {ρ : List Int32} {ls : AL} {st : List AV} {S : AS} {cls : List (Option PV)} {cst : List PV} {h : PH} {xs : List AX} {pc op a b : Nat} {v : Int32} {tg : List Nat} (hi : ∀ k j, (k, j) ∈ W → ∀ k', lam k = lam k' → k = k') (hC : CLO l G d own cc nL code K i0 pc) (hE : eOK own cc nL ret code (pc, op, a, b, v, tg) (hpc (drp t code))) (hg : GST lam W NH H0 ρ ls st S cls cst h) (hK : SUC lam W NH H0 K ρ xs) (hs : stp W t op a b (ky v) tg ls st S = some xs) : K i0 cls cst h := by
  revert hs hE
  match op with
  | 0 => exact fun hE hs => xo_iload hC hE hg hK hs
  | 1 => exact fun hE hs => xo_aload hC hE hg hK hs
  | 2 => exact fun hE hs => xo_const hC hE hg hK hs
  | 3 => exact fun hE hs => xo_get hC hE hg hK hs
  | 4 => exact fun hE hs => xo_icmp hC hE hg hK hs
  | 5 => exact fun hE hs => xo_iald hC hE hg hK hs
  | 6 =>
    intro hE hs
    have hs : (bif Nat.ble a 8 then x_bin a t ls st S else none) = some xs := hs
    obtain ⟨e1, e2⟩ := bif_some hs
    exact xo_bin hC hE hg hK e2 (Nat.ble_eq.mp e1)
  | 7 => exact fun hE hs => xo_istore hC hE hg hK hs
  | 8 =>
    intro hE hs
    have hs : x_inc 0 a (ky v) t ls st S = some xs := hs
    have h1 : inb (ky v) (ky v) v := ⟨Nat.le_refl _, Nat.le_refl _⟩
    have h2 : val ρ (ky v) = some v := val_ky v
    revert hs h1 h2
    generalize ky v = kq
    intro hs h1 h2
    exact xo_inc (op := 0) (fun _ => rfl) h1 h2 hC hE hg hK hs
  | 9 => exact fun hE hs => xo_goto hC hE hg hK hs
  | 10 => exact fun hE hs => xo_if0 hC hE hg hK hs
  | 11 => exact fun hE hs => xo_iast hi hC hE hg hK hs
  | 12 => intro hE hs; cases hs
  | 13 => intro hE hs; cases hs
  | 14 => intro hE hs; cases hs
  | 15 => intro hE hs; cases hs
  | 16 => intro hE hs; cases hs
  | 17 => exact fun hE hs => xo_div hC hE hg hK hs
  | 18 => exact fun hE hs => xo_rem hC hE hg hK hs
  | 19 => exact fun hE hs => xo_put hi hC hE hg hK hs
  | 20 => exact fun hE hs => xo_neg hC hE hg hK hs
  | 21 =>
    intro hE hs
    cases st with
    | nil => cases hs
    | cons z st' => exact xo_dup hC hE hg hK hs
  | 22 =>
    intro hE hs
    cases st with
    | nil => cases hs
    | cons z st' => cases st' with
      | nil => cases hs
      | cons w st'' => exact xo_dup2 hC hE hg hK hs
  | 23 =>
    intro hE hs
    cases st with
    | nil => cases hs
    | cons z st' => exact xo_pop hC hE hg hK hs
  | 24 => exact fun hE hs => xo_alen hC hE hg hK hs
  | 25 => exact fun hE hs => xo_aald hC hE hg hK hs
  | 26 => intro hE hs; cases hs
  | 27 => exact fun hE hs => xo_max hC hE hg hK hs
  | 28 => exact fun hE hs => xo_min hC hE hg hK hs
  | 29 => exact fun hE hs => xo_abs hC hE hg hK hs
  | 30 => exact fun hE hs => xo_tab hC hE hg hK hs
  | 31 => exact fun hE hs => xo_astore hC hE hg hK hs
  | 32 => exact fun hE hs => xo_null hC hE hg hK hs
  | 33 => exact fun hE hs => xo_ifnull hC hE hg hK hs
  | 34 => exact fun hE hs => xo_ifnonnull hC hE hg hK hs
  | 35 => intro hE hs; cases hs
  | 36 => exact fun hE hs => xo_aast hi hC hE hg hK hs
  | 37 => exact fun hE hs => xo_copy hi hC hE hg hK hs
  | _ + 38 => intro hE hs; cases hs
noncomputable def seqs (f : AX → Option (List AO)) (xs : List AX) : Option (List AO) := List.rec (motive := fun _ => Option (List AO)) (some []) (fun x _ ih => oapp (f x) ih) xs
theorem seqs_ok {f : AX → Option (List AO)} : ∀ {xs : List AX} {os : List AO}, seqs f xs = some os → ∀ x, x ∈ xs → ∃ o, f x = some o ∧ ∀ q, q ∈ o → q ∈ os := by
  intro xs
  induction xs with
  | nil => intro os h x hx; cases hx
  | cons y t ih =>
    intro os h x hx
    have h : oapp (f y) (seqs f t) = some os := h
    obtain ⟨a, b, h1, h2, rfl⟩ := oapp_inv h
    rcases List.mem_cons.mp hx with rfl | hx'
    · exact ⟨a, h1, fun q hq => List.mem_append_left _ hq⟩
    · obtain ⟨o, h3, h4⟩ := ih h2 x hx'
      exact ⟨o, h3, fun q hq => List.mem_append_right _ (h4 q hq)⟩
/-- a path from a local through references -/
noncomputable def pth (H : List AC) (js : List Nat) : Nat → Option Nat := List.rec (motive := fun _ => Nat → Option Nat) (fun k => some k) (fun j _ ih k => match nth H k with
  | some (.inr (_, vs)) => (match nth vs j with
    | some (.inr (.inl (some k'))) => ih k'
    | _ => none)
  | some (.inl (.inr (_, rs))) => (match nth rs j with
    | some (some k') => ih k'
    | _ => none)
  | _ => none) js
noncomputable def pthL (ls : AL) (H : List AC) (x : Nat) (js : List Nat) : Option Nat := match nth ls x with
  | some (some (.inr (.inl (some k)))) => pth H js k
  | _ => none
noncomputable def hv1 (T : List AC) (H : List AC) (k f : Nat) : List AC := match nth T k with
  | some (.inr (_, us)) => (match nth H k with
    | some (.inr (q, vs)) => (match nth us f with
      | some u => stl H (.inr (q, stl vs u f)) k
      | none => H)
    | _ => H)
  | some c => stl H c k
  | none => H
noncomputable def hvH (T : List AC) (ls : AL) (es : List (Nat × List Nat × Nat)) : List AC → List AC := List.rec (motive := fun _ => List AC → List AC) (fun H => H) (fun e _ ih H => match pthL ls H e.1 e.2.1 with
  | some k => ih (hv1 T H k e.2.2)
  | none => ih H) es
noncomputable def hvL (es : List (Nat × Nat × Nat)) : AL → AL := List.rec (motive := fun _ => AL → AL) (fun ls => ls) (fun e _ ih ls => ih (stl ls (bif Nat.ble e.2.2 4294967295 then some (.inr (.inr (.inr (e.2.1, e.2.2)))) else none) e.1)) es
noncomputable def cutF (cuts : List (Nat × CU)) (i : Nat) : Option CU := List.rec (motive := fun _ => Option CU) none (fun c _ ih => bif Nat.beq c.1 i then some c.2 else ih) cuts
noncomputable def actF (act : List AT) (i : Nat) : Option AT := List.rec (motive := fun _ => Option AT) none (fun c _ ih => bif Nat.beq c.1 i then some c else ih) act
theorem actF_ok {act : List AT} {i : Nat} {a : AT} (h : actF act i = some a) : a ∈ act ∧ a.1 = i := by
  induction act with
  | nil => cases h
  | cons c t ih =>
    have h : (bif Nat.beq c.1 i then some c else actF t i) = some a := h
    cases hc : Nat.beq c.1 i with
    | true =>
      rw [hc] at h
      have h := Option.some.inj h
      subst h
      exact ⟨List.mem_cons_self, Nat.eq_of_beq_eq_true hc⟩
    | false => rw [hc] at h; exact ⟨List.mem_cons_of_mem _ (ih h).1, (ih h).2⟩
/-- the code c' is above m (below it): it is m and a constant -/
noncomputable def grw0 (up : Bool) (n : Nat) (env : List SE) (c' m : Nat) : Bool := bif Nat.blt c' 4294967296 then false else match nth env (n - 1 - (c' - 4294967296)) with
  | some (_, _, op, a, b) => bif Nat.beq op 0 then (bif (Nat.beq a m && Nat.blt b 4294967296) then (bif up then Nat.blt 2147483648 b && Nat.blt ((bnd n env m).2 + b) 6442450944 else Nat.blt b 2147483648 && Nat.ble 2147483648 ((bnd n env m).1 + b))
      else bif (Nat.beq b m && Nat.blt a 4294967296) then (bif up then Nat.blt 2147483648 a && Nat.blt ((bnd n env m).2 + a) 6442450944 else Nat.blt a 2147483648 && Nat.ble 2147483648 ((bnd n env m).1 + a)) else false)
    else bif (Nat.beq op 1 && (Nat.beq a m && Nat.blt b 4294967296)) then (bif up then false else Nat.blt 2147483648 b && Nat.ble b ((bnd n env m).1 + 2147483648)) else false
  | none => false
theorem grw0_ok {up : Bool} {n : Nat} {env : List SE} {ρ : List Int32} {c' m : Nat} {z x : Int32} (hn : n = env.length) (hE : EnvOK env ρ) (hz : val ρ c' = some z) (hx : val ρ m = some x) (h : grw0 up n env c' m = true) : if up = true then ky x < ky z else ky z < ky x := by
  have hb := bnd_ok hn hE hx
  obtain ⟨b1, b2⟩ := hb
  unfold grw0 at h
  cases hc : Nat.blt c' 4294967296 with
  | true => rw [hc] at h; cases h
  | false =>
    have hc' := blt_f.mp hc
    rw [hc, cond_false] at h
    split at h
    · rename_i lo hi op a b he
      obtain ⟨z', r, τ, h1, h2, h3⟩ := hE.at he
      have hzx : z = z' := val_at hc' h1 (by rw [h2, hn, hE.len]) hz
      subst hzx
      have h33 : op ≤ 8 → ∃ y w, val r a = some y ∧ val r b = some w ∧ z = pbin op y w := h3.2
      have hup : ∀ {q : Nat} {y : Int32}, val r q = some y → val ρ q = some y := by
        intro q y hq
        rw [h1, show τ ++ z :: r = (τ ++ [z]) ++ r by simp]
        exact val_app _ hq
      generalize bnd n env m = bm at *
      have addc : ∀ k : Nat, k < 4294967296 → z = x + kv k → ((bif up then Nat.blt 2147483648 k && Nat.blt (bm.2 + k) 6442450944 else Nat.blt k 2147483648 && Nat.ble 2147483648 (bm.1 + k)) = true) → (if up = true then ky x < ky z else ky z < ky x) := by
        intro k hk ez hg
        have hk' := ky_kv hk
        cases up with
        | true =>
          rw [cond_true, Bool.and_eq_true, blt_t, blt_t] at hg
          have := ky_add (x := x) (y := kv k) (by rw [hk']; omega) (by rw [hk']; omega)
          rw [if_pos rfl, ez, this, hk']
          omega
        | false =>
          rw [cond_false, Bool.and_eq_true, blt_t, Nat.ble_eq] at hg
          have := ky_add (x := x) (y := kv k) (by rw [hk']; omega) (by rw [hk']; have := ky_lim x; omega)
          rw [if_neg (by decide), ez, this, hk']
          omega
      cases ho : Nat.beq op 0 with
      | true =>
        have ho' := Nat.eq_of_beq_eq_true ho
        subst ho'
        obtain ⟨y, w, q1, q2, q3⟩ := h33 (by decide)
        have q3 : z = y + w := q3
        have q1 := hup q1; have q2 := hup q2
        rw [ho, cond_true] at h
        cases hg : (Nat.beq a m && Nat.blt b 4294967296) with
        | true =>
          rw [hg, cond_true] at h
          rw [Bool.and_eq_true, Nat.beq_eq, blt_t] at hg
          rw [hg.1, hx] at q1
          rw [val_c hg.2] at q2
          exact addc b hg.2 (by rw [q3, ← Option.some.inj q1, ← Option.some.inj q2]) h
        | false =>
          rw [hg, cond_false] at h
          cases hg2 : (Nat.beq b m && Nat.blt a 4294967296) with
          | true =>
            rw [hg2, cond_true] at h
            rw [Bool.and_eq_true, Nat.beq_eq, blt_t] at hg2
            rw [hg2.1, hx] at q2
            rw [val_c hg2.2] at q1
            exact addc a hg2.2 (by rw [q3, ← Option.some.inj q1, ← Option.some.inj q2, Int32.add_comm]) h
          | false => rw [hg2] at h; cases h
      | false =>
        rw [ho, cond_false] at h
        cases hg : (Nat.beq op 1 && (Nat.beq a m && Nat.blt b 4294967296)) with
        | false => rw [hg] at h; cases h
        | true =>
          rw [hg, cond_true] at h
          rw [Bool.and_eq_true, Bool.and_eq_true, Nat.beq_eq, Nat.beq_eq, blt_t] at hg
          obtain ⟨rfl, rfl, hb⟩ := hg
          obtain ⟨y, w, q1, q2, q3⟩ := h33 (by decide)
          have q3 : z = y - w := q3
          have q1 := hup q1; have q2 := hup q2
          rw [hx] at q1
          rw [val_c hb] at q2
          have hk' := ky_kv hb
          cases up with
          | true => cases h
          | false =>
            rw [cond_false, Bool.and_eq_true, blt_t, Nat.ble_eq] at h
            have := ky_sub (x := x) (y := kv b) (by rw [hk']; omega) (by rw [hk']; have := ky_lim x; omega)
            rw [if_neg (by decide), q3, ← Option.some.inj q1, ← Option.some.inj q2, this, hk']
            omega
    · cases h
noncomputable def grw (up : Bool) (n : Nat) (env : List SE) (c' m : Nat) : Bool := bif (bif up then Nat.blt (bnd n env m).2 (bnd n env c').1 else Nat.blt (bnd n env c').2 (bnd n env m).1) then true else grw0 up n env c' m
theorem grw_ok {up : Bool} {n : Nat} {env : List SE} {ρ : List Int32} {c' m : Nat} {z x : Int32} (hn : n = env.length) (hE : EnvOK env ρ) (hz : val ρ c' = some z) (hx : val ρ m = some x) (h : grw up n env c' m = true) : if up = true then ky x < ky z else ky z < ky x := by
  unfold grw at h
  cases hc : (bif up then Nat.blt (bnd n env m).2 (bnd n env c').1 else Nat.blt (bnd n env c').2 (bnd n env m).1) with
  | false => rw [hc, cond_false] at h; exact grw0_ok hn hE hz hx h
  | true =>
    have b1 := bnd_ok hn hE hz
    have b2 := bnd_ok hn hE hx
    cases up with
    | true =>
      rw [cond_true, blt_t] at hc
      rw [if_pos rfl]
      exact Nat.lt_of_le_of_lt b2.2 (Nat.lt_of_lt_of_le hc b1.1)
    | false =>
      rw [cond_false, blt_t] at hc
      rw [if_neg (by decide)]
      exact Nat.lt_of_le_of_lt b1.2 (Nat.lt_of_lt_of_le hc b2.1)
