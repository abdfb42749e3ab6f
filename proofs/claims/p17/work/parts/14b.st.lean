/-! refining the bounds of symbols -/
noncomputable def rfq (ih : List SE → Nat → Nat → Nat → Option (List SE)) (n : Nat) (env : List SE) (lo hi a k : Nat) : Option (List SE) := bif (Nat.ble 2147483648 ((bnd n env a).1 + k) && Nat.blt ((bnd n env a).2 + k) 6442450944) then ih env a (lo + 2147483648 - k) (hi + 2147483648 - k) else some env
noncomputable def rfs (ih : List SE → Nat → Nat → Nat → Option (List SE)) (n : Nat) (env : List SE) (lo hi a k : Nat) : Option (List SE) := bif (Nat.ble k ((bnd n env a).1 + 2147483648) && Nat.blt ((bnd n env a).2 + 2147483648) (4294967296 + k)) then ih env a (lo + k - 2147483648) (hi + k - 2147483648) else some env
noncomputable def rfp (ih : List SE → Nat → Nat → Nat → Option (List SE)) (n : Nat) (env : List SE) (lo hi op a b : Nat) : Option (List SE) := bif Nat.beq op 0 then (bif Nat.blt b 4294967296 then rfq ih n env lo hi a b else bif Nat.blt a 4294967296 then rfq ih n env lo hi b a else some env) else bif (Nat.beq op 1 && Nat.blt b 4294967296) then rfs ih n env lo hi a b else some env
noncomputable def rfn (F : Nat) (n : Nat) : List SE → Nat → Nat → Nat → Option (List SE) := Nat.rec (motive := fun _ => List SE → Nat → Nat → Nat → Option (List SE)) (fun env _ _ _ => some env) (fun _ ih env c lo hi => bif Nat.blt c 4294967296 then (bif (Nat.ble lo c && Nat.ble c hi) then some env else none) else match nth env (n - 1 - (c - 4294967296)) with
  | none => some env
  | some (l, h, op, a, b) => frN (bif Nat.ble lo l then l else lo) (fun lo' => frN (bif Nat.ble hi h then hi else h) (fun hi' => bif Nat.ble lo' hi' then rfp ih n (stl env (lo', hi', op, a, b) (n - 1 - (c - 4294967296))) lo' hi' op a b else none))) F
theorem stl_len {α : Type} (l : List α) (v : α) (k : Nat) : (stl l v k).length = l.length := by rw [stl_eq, List.length_set]
theorem mx_le {a b x : Nat} (h1 : a ≤ x) (h2 : b ≤ x) : (bif Nat.ble a b then b else a) ≤ x := by cases Nat.ble a b <;> assumption
theorem mn_le {a b x : Nat} (h1 : x ≤ a) (h2 : x ≤ b) : x ≤ (bif Nat.ble a b then a else b) := by cases Nat.ble a b <;> assumption
def RFok (n : Nat) (ρ : List Int32) (o : Option (List SE)) : Prop := ∃ env', o = some env' ∧ n = env'.length ∧ EnvOK env' ρ
def RIH (n : Nat) (ρ : List Int32) (ih : List SE → Nat → Nat → Nat → Option (List SE)) : Prop := ∀ (env : List SE) (c lo hi : Nat) (z : Int32), n = env.length → EnvOK env ρ → val ρ c = some z → inb lo hi z → RFok n ρ (ih env c lo hi)
theorem rfq_ok {n : Nat} {ρ : List Int32} {ih : List SE → Nat → Nat → Nat → Option (List SE)} (H : RIH n ρ ih) {env : List SE} {lo hi a k : Nat} {y z : Int32} (hn : n = env.length) (hE : EnvOK env ρ) (hk : k < 4294967296) (hy : val ρ a = some y) (hz : z = y + kv k) (hb : inb lo hi z) : RFok n ρ (rfq ih n env lo hi a k) := by
  unfold rfq
  have hbd := bnd_ok hn hE hy
  generalize bnd n env a = q at hbd ⊢
  cases hg : (Nat.ble 2147483648 (q.1 + k) && Nat.blt (q.2 + k) 6442450944) with
  | false => exact ⟨env, rfl, hn, hE⟩
  | true =>
    rw [cond_true]
    rw [Bool.and_eq_true, Nat.ble_eq, blt_t] at hg
    obtain ⟨g1, g2⟩ := hg
    obtain ⟨b1, b2⟩ := hbd
    obtain ⟨c1, c2⟩ := hb
    have hk' := ky_kv hk
    have hadd := ky_add (x := y) (y := kv k) (by rw [hk']; omega) (by rw [hk']; omega)
    rw [← hz, hk'] at hadd
    have t1 : lo + 2147483648 - k ≤ ky y := by omega
    have t2 : ky y ≤ hi + 2147483648 - k := by omega
    generalize lo + 2147483648 - k = u at t1 ⊢
    generalize hi + 2147483648 - k = w at t2 ⊢
    exact H env a u w y hn hE hy ⟨t1, t2⟩
theorem rfs_ok {n : Nat} {ρ : List Int32} {ih : List SE → Nat → Nat → Nat → Option (List SE)} (H : RIH n ρ ih) {env : List SE} {lo hi a k : Nat} {y z : Int32} (hn : n = env.length) (hE : EnvOK env ρ) (hk : k < 4294967296) (hy : val ρ a = some y) (hz : z = y - kv k) (hb : inb lo hi z) : RFok n ρ (rfs ih n env lo hi a k) := by
  unfold rfs
  have hbd := bnd_ok hn hE hy
  generalize bnd n env a = q at hbd ⊢
  cases hg : (Nat.ble k (q.1 + 2147483648) && Nat.blt (q.2 + 2147483648) (4294967296 + k)) with
  | false => exact ⟨env, rfl, hn, hE⟩
  | true =>
    rw [cond_true]
    rw [Bool.and_eq_true, Nat.ble_eq, blt_t] at hg
    obtain ⟨g1, g2⟩ := hg
    obtain ⟨b1, b2⟩ := hbd
    obtain ⟨c1, c2⟩ := hb
    have hk' := ky_kv hk
    have hsub := ky_sub (x := y) (y := kv k) (by rw [hk']; omega) (by rw [hk']; omega)
    rw [← hz, hk'] at hsub
    have t1 : lo + k - 2147483648 ≤ ky y := by omega
    have t2 : ky y ≤ hi + k - 2147483648 := by omega
    exact H env a _ _ y hn hE hy ⟨t1, t2⟩
theorem rfp_ok {n : Nat} {ρ r : List Int32} {ih : List SE → Nat → Nat → Nat → Option (List SE)} (H : RIH n ρ ih) {env : List SE} {lo hi op a b : Nat} {z : Int32} (hn : n = env.length) (hE : EnvOK env ρ) (hup : ∀ {q : Nat} {y : Int32}, val r q = some y → val ρ q = some y) (h33 : op ≤ 8 → ∃ y z', val r a = some y ∧ val r b = some z' ∧ z = pbin op y z') (hb : inb lo hi z) : RFok n ρ (rfp ih n env lo hi op a b) := by
  have hself : RFok n ρ (some env) := ⟨env, rfl, hn, hE⟩
  unfold rfp
  cases ho : Nat.beq op 0 with
  | true =>
    have ho' := Nat.eq_of_beq_eq_true ho
    subst ho'
    obtain ⟨y1, y2, hy1, hy2, hz⟩ := h33 (by decide)
    have hz : z = y1 + y2 := hz
    rw [cond_true]
    cases hb1 : Nat.blt b 4294967296 with
    | true =>
      have hb' := blt_t.mp hb1
      rw [cond_true]
      rw [val_c hb'] at hy2
      exact rfq_ok H hn hE hb' (hup hy1) (by rw [hz, Option.some.inj hy2]) hb
    | false =>
      rw [cond_false]
      cases ha1 : Nat.blt a 4294967296 with
      | false => exact hself
      | true =>
        have ha' := blt_t.mp ha1
        rw [cond_true]
        rw [val_c ha'] at hy1
        exact rfq_ok H hn hE ha' (hup hy2) (by rw [hz, Option.some.inj hy1, Int32.add_comm]) hb
  | false =>
    rw [cond_false]
    cases hg1 : (Nat.beq op 1 && Nat.blt b 4294967296) with
    | false => exact hself
    | true =>
      rw [Bool.and_eq_true, blt_t] at hg1
      obtain ⟨ho1, hb'⟩ := hg1
      have ho' := Nat.eq_of_beq_eq_true ho1
      subst ho'
      obtain ⟨y1, y2, hy1, hy2, hz⟩ := h33 (by decide)
      have hz : z = y1 - y2 := hz
      rw [cond_true]
      rw [val_c hb'] at hy2
      exact rfs_ok H hn hE hb' (hup hy1) (by rw [hz, Option.some.inj hy2]) hb
theorem rfn_ok {n : Nat} {ρ : List Int32} : ∀ (F : Nat), RIH n ρ (rfn F n) := by
  intro F
  induction F with
  | zero => intro env c lo hi z hn hE hv hb; exact ⟨env, rfl, hn, hE⟩
  | succ F ih =>
    intro env c lo hi z hn hE hv hb
    show RFok n ρ (bif Nat.blt c 4294967296 then (bif (Nat.ble lo c && Nat.ble c hi) then some env else none) else match nth env (n - 1 - (c - 4294967296)) with
      | none => some env
      | some (l, h, op, a, b) => frN (bif Nat.ble lo l then l else lo) (fun lo' => frN (bif Nat.ble hi h then hi else h) (fun hi' => bif Nat.ble lo' hi' then rfp (rfn F n) n (stl env (lo', hi', op, a, b) (n - 1 - (c - 4294967296))) lo' hi' op a b else none)))
    cases hc : Nat.blt c 4294967296 with
    | true =>
      have hc' := blt_t.mp hc
      rw [val_c hc'] at hv
      have hz := Option.some.inj hv
      subst hz
      obtain ⟨h1, h2⟩ := hb
      rw [ky_kv hc'] at h1 h2
      rw [cond_true, show (Nat.ble lo c && Nat.ble c hi) = true by rw [Bool.and_eq_true, Nat.ble_eq, Nat.ble_eq]; exact ⟨h1, h2⟩]
      exact ⟨env, rfl, hn, hE⟩
    | false =>
      have hc' := blt_f.mp hc
      rw [cond_false]
      have hat : ∀ e, nth env (n - 1 - (c - 4294967296)) = some e → ∃ r τ, ρ = τ ++ z :: r ∧ τ.length = n - 1 - (c - 4294967296) ∧ okE r e z := by
        intro e he
        obtain ⟨x, r, τ, h1, h2, h3⟩ := hE.at he
        have hzx : z = x := val_at hc' h1 (by rw [h2, hn, hE.len]) hv
        exact ⟨r, τ, by rw [hzx]; exact h1, h2, by rw [hzx]; exact h3⟩
      generalize n - 1 - (c - 4294967296) = idx at hat ⊢
      cases he : nth env idx with
      | none => exact ⟨env, rfl, hn, hE⟩
      | some e =>
        obtain ⟨l, h, op, a, b⟩ := e
        obtain ⟨r, τ, h1, h2, h3⟩ := hat _ he
        show RFok n ρ (frN (bif Nat.ble lo l then l else lo) (fun lo' => frN (bif Nat.ble hi h then hi else h) (fun hi' => bif Nat.ble lo' hi' then rfp (rfn F n) n (stl env (lo', hi', op, a, b) idx) lo' hi' op a b else none)))
        rw [frN_eq, frN_eq]
        have h31 : l ≤ ky z := h3.1.1
        have h32 : ky z ≤ h := h3.1.2
        have h33 : op ≤ 8 → ∃ y z', val r a = some y ∧ val r b = some z' ∧ z = pbin op y z' := h3.2
        have hlo := mx_le hb.1 h31
        have hhi := mn_le hb.2 h32
        generalize (bif Nat.ble lo l then l else lo) = lo' at hlo ⊢
        generalize (bif Nat.ble hi h then hi else h) = hi' at hhi ⊢
        rw [Nat.ble_eq.mpr (Nat.le_trans hlo hhi), cond_true]
        have hE' : EnvOK (stl env (lo', hi', op, a, b) idx) ρ := by
          refine hE.set he ?_
          rintro x' r' ⟨τ', g1, g2⟩ g3
          have e : z = x' ∧ r = r' := by
            rw [h1] at g1
            have := (List.append_inj g1 (by rw [h2, g2])).2
            injection this with q1 q2
            exact ⟨q1, q2⟩
          obtain ⟨rfl, rfl⟩ := e
          exact ⟨⟨hlo, hhi⟩, g3.2⟩
        refine rfp_ok ih (by rw [stl_len]; exact hn) hE' ?_ h33 ⟨hlo, hhi⟩
        intro q y hq
        rw [h1, show τ ++ z :: r = (τ ++ [z]) ++ r by simp]
        exact val_app _ hq
/-! compares: 0 x = y, 1 x and y unlike, 2 x < y, 3 x ≤ y -/
noncomputable def cmpT (n : Nat) (env : List SE) (o x y : Nat) : Option (List SE) := match o with
  | 0 => (match rfn 3 n env x (bnd n env y).1 (bnd n env y).2 with
    | some e1 => rfn 3 n e1 y (bnd n e1 x).1 (bnd n e1 x).2
    | none => none)
  | 1 => bif Nat.beq (bnd n env y).1 (bnd n env y).2 then (bif Nat.beq (bnd n env x).1 (bnd n env y).1 then rfn 3 n env x ((bnd n env y).1 + 1) 4294967295 else bif Nat.beq (bnd n env x).2 (bnd n env y).1 then rfn 3 n env x 0 ((bnd n env y).1 - 1) else some env)
      else bif Nat.beq (bnd n env x).1 (bnd n env x).2 then (bif Nat.beq (bnd n env y).1 (bnd n env x).1 then rfn 3 n env y ((bnd n env x).1 + 1) 4294967295 else bif Nat.beq (bnd n env y).2 (bnd n env x).1 then rfn 3 n env y 0 ((bnd n env x).1 - 1) else some env) else some env
  | 2 => (match rfn 3 n env x 0 ((bnd n env y).2 - 1) with
    | some e1 => rfn 3 n e1 y ((bnd n e1 x).1 + 1) 4294967295
    | none => none)
  | _ => (match rfn 3 n env x 0 (bnd n env y).2 with
    | some e1 => rfn 3 n e1 y (bnd n e1 x).1 4294967295
    | none => none)
def cmpP (o : Nat) (x y : Int32) : Prop := match o with
  | 0 => x = y
  | 1 => ¬ x = y
  | 2 => ky x < ky y
  | _ => ky x ≤ ky y
theorem cmpT_ok {n : Nat} {env : List SE} {ρ : List Int32} {o x y : Nat} {zx zy : Int32} (hn : n = env.length) (hE : EnvOK env ρ) (hx : val ρ x = some zx) (hy : val ρ y = some zy) (hp : cmpP o zx zy) : RFok n ρ (cmpT n env o x y) := by
  have bx := bnd_ok hn hE hx
  have bY := bnd_ok hn hE hy
  have hself : RFok n ρ (some env) := ⟨env, rfl, hn, hE⟩
  have lx := ky_lim zx; have ly := ky_lim zy
  match o with
  | 0 =>
    have hp : zx = zy := hp
    subst hp
    unfold cmpT
    simp only
    obtain ⟨e1, h1, h2, h3⟩ := rfn_ok 3 env x _ _ zx hn hE hx bY
    rw [h1]
    exact rfn_ok 3 e1 y _ _ zx h2 h3 hy (bnd_ok h2 h3 hx)
  | 1 =>
    have hp : ¬ zx = zy := hp
    unfold cmpT
    simp only
    cases c1 : Nat.beq (bnd n env y).1 (bnd n env y).2 with
    | true =>
      have c1 := Nat.eq_of_beq_eq_true c1
      have hk : ky zx ≠ ky zy := fun q => hp (ky_inj q)
      simp only [cond_true]
      cases c2 : Nat.beq (bnd n env x).1 (bnd n env y).1 with
      | true =>
        have c2 := Nat.eq_of_beq_eq_true c2
        have := bx.1; have := bx.2; have := bY.1; have := bY.2
        exact rfn_ok 3 env x _ _ zx hn hE hx ⟨by omega, by omega⟩
      | false =>
        simp only [cond_false]
        cases c3 : Nat.beq (bnd n env x).2 (bnd n env y).1 with
        | true =>
          have c3 := Nat.eq_of_beq_eq_true c3
          have := bx.1; have := bx.2; have := bY.1; have := bY.2
          exact rfn_ok 3 env x _ _ zx hn hE hx ⟨by omega, by omega⟩
        | false => exact hself
    | false =>
      simp only [cond_false]
      cases c1 : Nat.beq (bnd n env x).1 (bnd n env x).2 with
      | true =>
        have c1 := Nat.eq_of_beq_eq_true c1
        have hk : ky zx ≠ ky zy := fun q => hp (ky_inj q)
        simp only [cond_true]
        cases c2 : Nat.beq (bnd n env y).1 (bnd n env x).1 with
        | true =>
          have c2 := Nat.eq_of_beq_eq_true c2
          have := bx.1; have := bx.2; have := bY.1; have := bY.2
          exact rfn_ok 3 env y _ _ zy hn hE hy ⟨by omega, by omega⟩
        | false =>
          simp only [cond_false]
          cases c3 : Nat.beq (bnd n env y).2 (bnd n env x).1 with
          | true =>
            have c3 := Nat.eq_of_beq_eq_true c3
            have := bx.1; have := bx.2; have := bY.1; have := bY.2
            exact rfn_ok 3 env y _ _ zy hn hE hy ⟨by omega, by omega⟩
          | false => exact hself
      | false => exact hself
  | 2 =>
    have hp : ky zx < ky zy := hp
    unfold cmpT
    simp only
    obtain ⟨e1, h1, h2, h3⟩ := rfn_ok 3 env x 0 ((bnd n env y).2 - 1) zx hn hE hx ⟨Nat.zero_le _, by have := bY.2; omega⟩
    rw [h1]
    exact rfn_ok 3 e1 y _ _ zy h2 h3 hy ⟨by have := (bnd_ok h2 h3 hx).1; omega, by omega⟩
  | o + 3 =>
    have hp : ky zx ≤ ky zy := hp
    unfold cmpT
    simp only
    obtain ⟨e1, h1, h2, h3⟩ := rfn_ok 3 env x 0 (bnd n env y).2 zx hn hE hx ⟨Nat.zero_le _, by have := bY.2; omega⟩
    rw [h1]
    exact rfn_ok 3 e1 y _ _ zy h2 h3 hy ⟨by have := (bnd_ok h2 h3 hx).1; omega, by omega⟩
/-! segments of arrays -/
def jn (a b : Nat × Nat) : Nat × Nat := (bif Nat.ble a.1 b.1 then a.1 else b.1, bif Nat.ble a.2 b.2 then b.2 else a.2)
theorem jn_l {a b : Nat × Nat} {z : Int32} (h : inb a.1 a.2 z) : inb (jn a b).1 (jn a b).2 z := by
  obtain ⟨h1, h2⟩ := h
  unfold jn
  refine ⟨?_, ?_⟩
  · cases c : Nat.ble a.1 b.1 with
    | true => exact h1
    | false => rw [ble_f] at c; simp only [cond_false]; omega
  · cases c : Nat.ble a.2 b.2 with
    | true => rw [Nat.ble_eq] at c; simp only [cond_true]; omega
    | false => exact h2
theorem jn_r {a b : Nat × Nat} {z : Int32} (h : inb b.1 b.2 z) : inb (jn a b).1 (jn a b).2 z := by
  obtain ⟨h1, h2⟩ := h
  unfold jn
  refine ⟨?_, ?_⟩
  · cases c : Nat.ble a.1 b.1 with
    | true => rw [Nat.ble_eq] at c; simp only [cond_true]; omega
    | false => exact h1
  · cases c : Nat.ble a.2 b.2 with
    | true => exact h2
    | false => rw [ble_f] at c; simp only [cond_false]; omega
noncomputable def sgR (sg : List (Nat × Nat × Nat)) : Nat → Nat → Nat × Nat := List.rec (motive := fun _ => Nat → Nat → Nat × Nat) (fun _ _ => (0, 4294967295)) (fun s _ ih i j => bif Nat.blt j s.1 then s.2 else bif Nat.ble s.1 i then ih (i - s.1) (j - s.1) else jn s.2 (ih 0 (j - s.1))) sg
noncomputable def sgW (w : Bool) (vl vh : Nat) (sg : List (Nat × Nat × Nat)) : Nat → Nat → List (Nat × Nat × Nat) := List.rec (motive := fun _ => Nat → Nat → List (Nat × Nat × Nat)) (fun _ _ => []) (fun s t ih i j => bif Nat.ble s.1 i then s :: ih (i - s.1) (j - s.1) else (s.1, bif (w && Nat.beq s.1 1) then (vl, vh) else jn s.2 (vl, vh)) :: (bif Nat.blt j s.1 then t else ih 0 (j - s.1))) sg
def SegOK (sg : List (Nat × Nat × Nat)) (f : Nat → Int32) : Prop := match sg with
  | [] => True
  | s :: t => (∀ j, j < s.1 → inb s.2.1 s.2.2 (f j)) ∧ SegOK t (fun j => f (s.1 + j))
theorem sgR_ok (sg : List (Nat × Nat × Nat)) : ∀ (f : Nat → Int32) (i j k : Nat), SegOK sg f → i ≤ k → k ≤ j → inb (sgR sg i j).1 (sgR sg i j).2 (f k) := by
  induction sg with
  | nil => intro f i j k h h1 h2; exact inb_top _
  | cons s t ih =>
    intro f i j k h h1 h2
    show inb (bif Nat.blt j s.1 then s.2 else bif Nat.ble s.1 i then sgR t (i - s.1) (j - s.1) else jn s.2 (sgR t 0 (j - s.1))).1 (bif Nat.blt j s.1 then s.2 else bif Nat.ble s.1 i then sgR t (i - s.1) (j - s.1) else jn s.2 (sgR t 0 (j - s.1))).2 (f k)
    cases c1 : Nat.blt j s.1 with
    | true => exact h.1 k (by have := blt_t.mp c1; omega)
    | false =>
      have c1 := blt_f.mp c1
      simp only [cond_false]
      cases c2 : Nat.ble s.1 i with
      | true =>
        rw [Nat.ble_eq] at c2
        have := ih (fun j => f (s.1 + j)) (i - s.1) (j - s.1) (k - s.1) h.2 (by omega) (by omega)
        simp only [show s.1 + (k - s.1) = k by omega] at this
        exact this
      | false =>
        rw [ble_f] at c2
        simp only [cond_false]
        by_cases hk : k < s.1
        · exact jn_l (h.1 k hk)
        · have := ih (fun j => f (s.1 + j)) 0 (j - s.1) (k - s.1) h.2 (by omega) (by omega)
          simp only [show s.1 + (k - s.1) = k by omega] at this
          exact jn_r this
theorem upd_sh {f : Nat → Int32} {n k : Nat} {z : Int32} : (fun j => upd f (n + k) z (n + j)) = upd (fun j => f (n + j)) k z := by
  funext j
  by_cases e : j = k
  · subst e; rw [pk_us, pk_us]
  · rw [pk_un e, pk_un (by omega)]
theorem upd_lo {f : Nat → Int32} {n k : Nat} {z : Int32} (h : k < n) : (fun j => upd f k z (n + j)) = (fun j => f (n + j)) := by
  funext j
  rw [pk_un (by omega)]
theorem sgW_no {vl vh : Nat} (sg : List (Nat × Nat × Nat)) : ∀ (f : Nat → Int32) (i j : Nat), SegOK sg f → SegOK (sgW false vl vh sg i j) f := by
  induction sg with
  | nil => intro f i j h; trivial
  | cons s t ih =>
    intro f i j h
    show SegOK (bif Nat.ble s.1 i then s :: sgW false vl vh t (i - s.1) (j - s.1) else (s.1, jn s.2 (vl, vh)) :: (bif Nat.blt j s.1 then t else sgW false vl vh t 0 (j - s.1))) f
    cases c1 : Nat.ble s.1 i with
    | true => exact ⟨h.1, ih _ _ _ h.2⟩
    | false =>
      refine ⟨fun j' hj' => jn_l (h.1 j' hj'), ?_⟩
      show SegOK (bif Nat.blt j s.1 then t else sgW false vl vh t 0 (j - s.1)) (fun j' => f (s.1 + j'))
      cases c3 : Nat.blt j s.1 with
      | true => exact h.2
      | false => exact ih _ _ _ h.2
theorem sgW_ok {w : Bool} {vl vh : Nat} {z : Int32} (hz : inb vl vh z) (sg : List (Nat × Nat × Nat)) : ∀ (f : Nat → Int32) (i j k : Nat), SegOK sg f → i ≤ k → k ≤ j → (w = true → i = j) → SegOK (sgW w vl vh sg i j) (upd f k z) := by
  induction sg with
  | nil => intro f i j k h h1 h2 hw; trivial
  | cons s t ih =>
    intro f i j k h h1 h2 hw
    show SegOK (bif Nat.ble s.1 i then s :: sgW w vl vh t (i - s.1) (j - s.1) else (s.1, bif (w && Nat.beq s.1 1) then (vl, vh) else jn s.2 (vl, vh)) :: (bif Nat.blt j s.1 then t else sgW w vl vh t 0 (j - s.1))) (upd f k z)
    cases c1 : Nat.ble s.1 i with
    | true =>
      rw [Nat.ble_eq] at c1
      refine ⟨fun j' hj' => ?_, ?_⟩
      · rw [pk_un (by omega)]; exact h.1 j' hj'
      · have := ih (fun j => f (s.1 + j)) (i - s.1) (j - s.1) (k - s.1) h.2 (by omega) (by omega) (fun q => by rw [hw q])
        rw [← upd_sh] at this
        rw [show s.1 + (k - s.1) = k by omega] at this
        exact this
    | false =>
      rw [ble_f] at c1
      simp only [cond_false]
      refine ⟨fun j' hj' => ?_, ?_⟩
      · have hj' : j' < s.1 := hj'
        show inb (bif (w && Nat.beq s.1 1) then (vl, vh) else jn s.2 (vl, vh)).1 (bif (w && Nat.beq s.1 1) then (vl, vh) else jn s.2 (vl, vh)).2 _
        cases c2 : (w && Nat.beq s.1 1) with
        | true =>
          rw [Bool.and_eq_true, Nat.beq_eq] at c2
          have := hw c2.1
          rw [show j' = k by omega, pk_us]
          exact hz
        | false =>
          by_cases e : j' = k
          · subst e; rw [pk_us]; exact jn_r hz
          · rw [pk_un e]; exact jn_l (h.1 j' hj')
      · show SegOK (bif Nat.blt j s.1 then t else sgW w vl vh t 0 (j - s.1)) (fun j' => upd f k z (s.1 + j'))
        cases c3 : Nat.blt j s.1 with
        | true =>
          have c3 := blt_t.mp c3
          rw [upd_lo (by omega)]
          exact h.2
        | false =>
          have c3 := blt_f.mp c3
          have hw0 : w = false := by
            cases w with
            | false => rfl
            | true => have := hw rfl; omega
          subst hw0
          simp only [cond_false]
          by_cases hk : k < s.1
          · rw [upd_lo hk]
            exact sgW_no t _ _ _ h.2
          · have := ih (fun j => f (s.1 + j)) 0 (j - s.1) (k - s.1) h.2 (by omega) (by omega) (fun q => by cases q)
            rw [← upd_sh] at this
            rw [show s.1 + (k - s.1) = k by omega] at this
            exact this
