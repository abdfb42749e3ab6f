/-! the instructions on abstract states -/
noncomputable def memW (W : List (Nat × Nat)) (k j : Nat) : Bool := List.rec (motive := fun _ => Bool) false (fun p _ ih => bif (Nat.beq p.1 k && Nat.beq p.2 j) then true else ih) W
theorem memW_ok {W : List (Nat × Nat)} {k j : Nat} (h : memW W k j = true) : (k, j) ∈ W := by
  induction W with
  | nil => cases h
  | cons p t ih =>
    have h' : (bif (Nat.beq p.1 k && Nat.beq p.2 j) then true else memW t k j) = true := h
    cases hc : (Nat.beq p.1 k && Nat.beq p.2 j) with
    | true =>
      rw [Bool.and_eq_true, Nat.beq_eq, Nat.beq_eq] at hc
      obtain ⟨a, b⟩ := p
      obtain ⟨rfl, rfl⟩ := hc
      exact List.mem_cons_self
    | false => rw [hc] at h'; exact List.mem_cons_of_mem _ (ih h')
noncomputable def vnf (env : List SE) (op a b : Nat) : Nat → Nat → Option Nat := List.rec (motive := fun _ => Nat → Nat → Option Nat) (fun _ _ => none) (fun e _ ih j F => Nat.rec (motive := fun _ => Option Nat) none (fun F' _ => bif (Nat.beq e.2.2.1 op && (Nat.beq e.2.2.2.1 a && Nat.beq e.2.2.2.2 b)) then some j else ih (Nat.succ j) F') F) env
theorem vnf_ok {op a b : Nat} : ∀ (env : List SE) (j F q : Nat), vnf env op a b j F = some q → ∃ e, j ≤ q ∧ nth env (q - j) = some e ∧ e.2.2.1 = op ∧ e.2.2.2.1 = a ∧ e.2.2.2.2 = b := by
  intro env
  induction env with
  | nil => intro j F q h; cases h
  | cons e t ih =>
    intro j F q h
    cases F with
    | zero => cases h
    | succ F =>
      have h' : (bif (Nat.beq e.2.2.1 op && (Nat.beq e.2.2.2.1 a && Nat.beq e.2.2.2.2 b)) then some j else vnf t op a b (Nat.succ j) F) = some q := h
      cases hc : (Nat.beq e.2.2.1 op && (Nat.beq e.2.2.2.1 a && Nat.beq e.2.2.2.2 b)) with
      | true =>
        rw [hc, cond_true] at h'
        have := Option.some.inj h'
        subst this
        rw [Bool.and_eq_true, Bool.and_eq_true, Nat.beq_eq, Nat.beq_eq, Nat.beq_eq] at hc
        exact ⟨e, Nat.le_refl _, by rw [Nat.sub_self]; rfl, hc.1, hc.2.1, hc.2.2⟩
      | false =>
        rw [hc, cond_false] at h'
        obtain ⟨e', h1, h2, h3⟩ := ih _ _ _ h'
        refine ⟨e', by omega, ?_, h3⟩
        rw [show q - j = (q - Nat.succ j) + 1 by omega]
        exact h2
noncomputable def fctQ (fs : List (Nat × Nat × Nat)) (s x y : Nat) : Bool := List.rec (motive := fun _ => Bool) false (fun f _ ih => bif (Nat.ble s f.1 && (Nat.beq f.2.1 x && Nat.beq f.2.2 y)) then true else ih) fs
theorem fctQ_ok {s x y : Nat} : ∀ {fs : List (Nat × Nat × Nat)}, fctQ fs s x y = true → ∃ s', s ≤ s' ∧ (s', x, y) ∈ fs := by
  intro fs
  induction fs with
  | nil => intro h; cases h
  | cons f t ih =>
    intro h
    have h' : (bif (Nat.ble s f.1 && (Nat.beq f.2.1 x && Nat.beq f.2.2 y)) then true else fctQ t s x y) = true := h
    cases hc : (Nat.ble s f.1 && (Nat.beq f.2.1 x && Nat.beq f.2.2 y)) with
    | true =>
      rw [Bool.and_eq_true, Bool.and_eq_true, Nat.ble_eq, Nat.beq_eq, Nat.beq_eq] at hc
      obtain ⟨a, b, c⟩ := f
      obtain ⟨h1, rfl, rfl⟩ := hc
      exact ⟨a, h1, List.mem_cons_self⟩
    | false =>
      rw [hc] at h'
      obtain ⟨s', h1, h2⟩ := ih h'
      exact ⟨s', h1, List.mem_cons_of_mem _ h2⟩
noncomputable def mmf (mm : List (Nat × Nat × Nat)) (k i : Nat) : Option Nat := List.rec (motive := fun _ => Option Nat) none (fun f _ ih => bif (Nat.beq f.1 k && Nat.beq f.2.1 i) then some f.2.2 else ih) mm
theorem mmf_ok {k i v : Nat} : ∀ {mm : List (Nat × Nat × Nat)}, mmf mm k i = some v → (k, i, v) ∈ mm := by
  intro mm
  induction mm with
  | nil => intro h; cases h
  | cons f t ih =>
    intro h
    have h' : (bif (Nat.beq f.1 k && Nat.beq f.2.1 i) then some f.2.2 else mmf t k i) = some v := h
    cases hc : (Nat.beq f.1 k && Nat.beq f.2.1 i) with
    | true =>
      rw [hc, cond_true] at h'
      have e := Option.some.inj h'
      rw [Bool.and_eq_true, Nat.beq_eq, Nat.beq_eq] at hc
      obtain ⟨a, b, c⟩ := f
      obtain ⟨rfl, rfl⟩ := hc
      have e : c = v := e
      subst e
      exact List.mem_cons_self
    | false => rw [hc] at h'; exact List.mem_cons_of_mem _ (ih h')
noncomputable def mmd (mm : List (Nat × Nat × Nat)) (k : Nat) : List (Nat × Nat × Nat) := List.rec (motive := fun _ => List (Nat × Nat × Nat)) [] (fun f _ ih => bif Nat.beq f.1 k then ih else f :: ih) mm
theorem mmd_ok {k : Nat} {q : Nat × Nat × Nat} : ∀ {mm : List (Nat × Nat × Nat)}, q ∈ mmd mm k → q ∈ mm ∧ q.1 ≠ k := by
  intro mm
  induction mm with
  | nil => intro h; cases h
  | cons f t ih =>
    intro h
    have h' : q ∈ (bif Nat.beq f.1 k then mmd t k else f :: mmd t k) := h
    cases hc : Nat.beq f.1 k with
    | true =>
      rw [hc] at h'
      exact ⟨List.mem_cons_of_mem _ (ih h').1, (ih h').2⟩
    | false =>
      rw [hc] at h'
      rcases List.mem_cons.mp h' with rfl | h''
      · exact ⟨List.mem_cons_self, fun e => by rw [e] at hc; rw [Nat.beq_eq.mpr rfl] at hc; cases hc⟩
      · exact ⟨List.mem_cons_of_mem _ (ih h'').1, (ih h'').2⟩
noncomputable def x_iload (a t : Nat) (ls : AL) (st : List AV) (S : AS) : Option (List AX) := match nth ls a with
  | some (some (.inl c)) => some [(t, ls, .inl c :: st, S)]
  | some (some (.inr (.inr (.inr (lo, hi))))) => (match S with
    | (n, env, fs, mm, H) => nsy n env lo hi 99 0 0 (fun c n' env' => some [(t, stl ls (some (.inl c)) a, .inl c :: st, (n', env', fs, mm, H))]))
  | _ => none
noncomputable def x_aload (a t : Nat) (ls : AL) (st : List AV) (S : AS) : Option (List AX) := match nth ls a with
  | some (some (.inr (.inl x))) => some [(t, ls, .inr (.inl x) :: st, S)]
  | _ => none
noncomputable def x_get (a b t : Nat) (ls : AL) (st : List AV) (S : AS) : Option (List AX) := match st with
  | .inr (.inl (some x)) :: st' => (match S with
    | (n, env, fs, mm, H) => (match nth H x with
      | some (.inr (q, vs)) => bif Nat.beq q a then (match nth vs b with
        | some (.inr (.inr (.inr (lo, hi)))) => nsy n env lo hi 99 0 0 (fun c n' env' => some [(t, ls, .inl c :: st', (n', env', fs, mm, stl H (.inr (q, stl vs (.inl c) b)) x))])
        | some (.inl c) => some [(t, ls, .inl c :: st', S)]
        | some (.inr (.inl o)) => some [(t, ls, .inr (.inl o) :: st', S)]
        | _ => none) else none
      | _ => none))
  | _ => none
noncomputable def x_put (a b v t : Nat) (W : List (Nat × Nat)) (ls : AL) (st : List AV) (S : AS) : Option (List AX) := match st with
  | .inl z :: .inr (.inl (some x)) :: st' => (match S with
    | (n, env, fs, mm, H) => (match nth H x with
      | some (.inr (q, vs)) => bif (Nat.beq q a && (Nat.blt b vs.length && (memW W x b && (Nat.beq v 2147483648 || (Nat.ble 2147483648 (bnd n env z).1 && Nat.ble (bnd n env z).2 2147483649))))) then some [(t, ls, st', (n, env, fs, mm, stl H (.inr (q, stl vs (.inl z) b)) x))] else none
      | _ => none))
  | _ => none
def sb0 (k : Nat) : Nat := k - 2147483648
noncomputable def inL (n : Nat) (env : List SE) (fs : List (Nat × Nat × Nat)) (ln : AV) (i : Nat) : Bool := Nat.ble 2147483648 (bnd n env i).1 && (match ln with
  | .inl c => Nat.blt (bnd n env i).2 (bnd n env c).1 || fctQ fs 1 i c
  | .inr (.inr (.inr (lo, _))) => Nat.blt (bnd n env i).2 lo
  | _ => false)
noncomputable def x_iald (t : Nat) (ls : AL) (st : List AV) (S : AS) : Option (List AX) := match st with
  | .inl i :: .inr (.inl (some x)) :: st' => (match S with
    | (n, env, fs, mm, H) => (match nth H x with
      | some (.inl (.inl (ln, p, sg))) => bif inL n env fs ln i then (match mmf mm x i with
        | some v => some [(t, ls, .inl v :: st', S)]
        | none => (match sgR sg (sb0 (bnd n env i).1) (sb0 (bnd n env i).2) with
          | (lo, hi) => nsy n env (lkl p x i lo (sb0 (bnd n env i).1) (sb0 (bnd n env i).2) n env mm) hi 99 0 0 (fun c n' env' => some [(t, ls, .inl c :: st', (n', env', fs, (x, i, c) :: mm, H))]))) else none
      | _ => none))
  | _ => none
noncomputable def x_iast (t : Nat) (W : List (Nat × Nat)) (ls : AL) (st : List AV) (S : AS) : Option (List AX) := match st with
  | .inl z :: .inl i :: .inr (.inl (some x)) :: st' => (match S with
    | (n, env, fs, mm, H) => (match nth H x with
      | some (.inl (.inl (ln, p, sg))) => bif (inL n env fs ln i && memW W x 999) then frN (sb0 (bnd n env i).1) (fun il => frN (sb0 (bnd n env i).2) (fun ih => (match bnd n env z with
        | (vl, vh) => frN vl (fun vl => frN vh (fun vh => frN (npd p x i il ih vl vh n env mm) (fun p' => some [(t, ls, st', (n, env, fs, (x, i, z) :: mmd mm x, stl H (.inl (.inl (ln, p', sgW (Nat.beq il ih) vl vh sg il ih))) x))])))))) else none
      | _ => none))
  | _ => none
noncomputable def x_bin (op t : Nat) (ls : AL) (st : List AV) (S : AS) : Option (List AX) := match st with
  | .inl y :: .inl x :: st' => (match S with
    | (n, env, fs, mm, H) => (match vnf env op x y 0 20 with
      | some j => some [(t, ls, .inl (4294967296 + (n - 1 - j)) :: st', S)]
      | none => (match ibin op (bnd n env x).1 (bnd n env x).2 (bnd n env y).1 (bnd n env y).2 with
        | (lo, hi) => nsy n env (bif (Nat.beq op 1 && (Nat.blt lo 2147483648 && (Nat.blt 0 lo && fctQ fs 0 y x))) then 2147483648 else lo) hi op x y (fun c n' env' => some [(t, ls, .inl c :: st', (n', env', fs, mm, H))]))))
  | _ => none
noncomputable def x_istore (a t : Nat) (ls : AL) (st : List AV) (S : AS) : Option (List AX) := match st with
  | .inl x :: st' => some [(t, stl ls (some (.inl x)) a, st', S)]
  | _ => none
noncomputable def x_astore (a t : Nat) (ls : AL) (st : List AV) (S : AS) : Option (List AX) := match st with
  | .inr (.inl x) :: st' => some [(t, stl ls (some (.inr (.inl x))) a, st', S)]
  | _ => none
noncomputable def x_inc (op a v t : Nat) (ls : AL) (st : List AV) (S : AS) : Option (List AX) := match nth ls a with
  | some (some (.inl x)) => (match S with
    | (n, env, fs, mm, H) => (match ibin op (bnd n env x).1 (bnd n env x).2 v v with
      | (lo, hi) => nsy n env lo hi op x v (fun c n' env' => some [(t, stl ls (some (.inl c)) a, st, (n', env', fs, mm, H))])))
  | some (some (.inr (.inr (.inr (l, h))))) => (match S with
    | (n, env, fs, mm, H) => (match ibin op l h v v with
      | (lo, hi) => nsy n env lo hi 99 0 0 (fun c n' env' => some [(t, stl ls (some (.inl c)) a, st, (n', env', fs, mm, H))])))
  | _ => none
/-- a compare b between x and y that comes out so -/
noncomputable def brn (n : Nat) (env : List SE) (fs : List (Nat × Nat × Nat)) (b x y : Nat) (r : Bool) (k : List SE → List (Nat × Nat × Nat) → Option (List AX)) : Option (List AX) := match b with
  | 0 => (match cmpT n env (bif r then 0 else 1) x y with
    | some e => k e fs
    | none => some [])
  | 1 => (match cmpT n env (bif r then 1 else 0) x y with
    | some e => k e fs
    | none => some [])
  | 2 => bif r then (match cmpT n env 2 x y with
      | some e => k e ((1, x, y) :: fs)
      | none => some []) else (match cmpT n env 3 y x with
      | some e => k e ((0, y, x) :: fs)
      | none => some [])
  | 3 => bif r then (match cmpT n env 3 y x with
      | some e => k e ((0, y, x) :: fs)
      | none => some []) else (match cmpT n env 2 x y with
      | some e => k e ((1, x, y) :: fs)
      | none => some [])
  | 4 => bif r then (match cmpT n env 2 y x with
      | some e => k e ((1, y, x) :: fs)
      | none => some []) else (match cmpT n env 3 x y with
      | some e => k e ((0, x, y) :: fs)
      | none => some [])
  | _ => bif r then (match cmpT n env 3 x y with
      | some e => k e ((0, x, y) :: fs)
      | none => some []) else (match cmpT n env 2 y x with
      | some e => k e ((1, y, x) :: fs)
      | none => some [])
def oapp {α : Type} (a b : Option (List α)) : Option (List α) := match a with
  | some x => (match b with
    | some y => some (x ++ y)
    | none => none)
  | none => none
noncomputable def x_icmp (a b t : Nat) (ls : AL) (st : List AV) (S : AS) : Option (List AX) := match st with
  | .inl y :: .inl x :: st' => (match S with
    | (n, env, fs, mm, H) => oapp (brn n env fs b x y true (fun e f => some [(a, ls, st', (n, e, f, mm, H))])) (brn n env fs b x y false (fun e f => some [(t, ls, st', (n, e, f, mm, H))])))
  | _ => none
noncomputable def x_if0 (a b t : Nat) (ls : AL) (st : List AV) (S : AS) : Option (List AX) := match st with
  | .inl x :: st' => (match S with
    | (n, env, fs, mm, H) => oapp (brn n env fs b x 2147483648 true (fun e f => some [(a, ls, st', (n, e, f, mm, H))])) (brn n env fs b x 2147483648 false (fun e f => some [(t, ls, st', (n, e, f, mm, H))])))
  | _ => none
def idiv (la ha lb hb : Nat) : Nat × Nat := bif (Nat.ble 2147483648 la && Nat.blt 2147483648 lb) then ((la - 2147483648) / (hb - 2147483648) + 2147483648, (ha - 2147483648) / (lb - 2147483648) + 2147483648) else (0, 4294967295)
def irem (la ha lb hb : Nat) : Nat × Nat := bif (Nat.ble 2147483648 la && Nat.blt 2147483648 lb) then (bif (Nat.beq la ha && Nat.beq lb hb) then ((la - 2147483648) % (lb - 2147483648) + 2147483648, (la - 2147483648) % (lb - 2147483648) + 2147483648) else (2147483648, bif Nat.blt ha hb then ha else hb - 1)) else (0, 4294967295)
noncomputable def x_div (t : Nat) (ls : AL) (st : List AV) (S : AS) : Option (List AX) := match st with
  | .inl y :: .inl x :: st' => (match S with
    | (n, env, fs, mm, H) => bif (Nat.blt (bnd n env y).2 2147483648 || Nat.blt 2147483648 (bnd n env y).1) then (match idiv (bnd n env x).1 (bnd n env x).2 (bnd n env y).1 (bnd n env y).2 with
      | (lo, hi) => nsy n env lo hi 99 0 0 (fun c n' env' => some [(t, ls, .inl c :: st', (n', env', fs, mm, H))])) else none)
  | _ => none
noncomputable def x_rem (t : Nat) (ls : AL) (st : List AV) (S : AS) : Option (List AX) := match st with
  | .inl y :: .inl x :: st' => (match S with
    | (n, env, fs, mm, H) => bif (Nat.blt (bnd n env y).2 2147483648 || Nat.blt 2147483648 (bnd n env y).1) then (match irem (bnd n env x).1 (bnd n env x).2 (bnd n env y).1 (bnd n env y).2 with
      | (lo, hi) => nsy n env lo hi 99 0 0 (fun c n' env' => some [(t, ls, .inl c :: st', (n', env', fs, mm, H))])) else none)
  | _ => none
noncomputable def x_neg (t : Nat) (ls : AL) (st : List AV) (S : AS) : Option (List AX) := match st with
  | .inl _ :: st' => (match S with
    | (n, env, fs, mm, H) => nsy n env 0 4294967295 99 0 0 (fun c n' env' => some [(t, ls, .inl c :: st', (n', env', fs, mm, H))]))
  | _ => none
noncomputable def x_alen (t : Nat) (ls : AL) (st : List AV) (S : AS) : Option (List AX) := match st with
  | .inr (.inl (some x)) :: st' => (match S with
    | (n, env, fs, mm, H) => (match nth H x with
      | some (.inl (.inl (.inl c, _, _))) => some [(t, ls, .inl c :: st', S)]
      | some (.inl (.inl (.inr (.inr (.inr (lo, hi))), p, sg))) => nsy n env lo hi 99 0 0 (fun c n' env' => some [(t, ls, .inl c :: st', (n', env', fs, mm, stl H (.inl (.inl (.inl c, p, sg))) x))])
      | _ => none))
  | _ => none
noncomputable def x_aalds (n : Nat) (env : List SE) (i t : Nat) (ls : AL) (st : List AV) (fs mm : List (Nat × Nat × Nat)) (H : List AC) (rs : List (Option Nat)) : Nat → Option (List AX) := List.rec (motive := fun _ => Nat → Option (List AX)) (fun _ => some []) (fun r _ ih j => oapp (match cmpT n env 0 i (2147483648 + j) with
  | some e => some [(t, ls, .inr (.inl r) :: st, (n, e, fs, mm, H))]
  | none => some []) (ih (Nat.succ j))) rs
noncomputable def x_aald (t : Nat) (ls : AL) (st : List AV) (S : AS) : Option (List AX) := match st with
  | .inl i :: .inr (.inl (some x)) :: st' => (match S with
    | (n, env, fs, mm, H) => (match nth H x with
      | some (.inl (.inr (q, rs))) => bif ((Nat.beq q 1 || (Nat.beq q 2 || Nat.beq q 3)) && (Nat.ble 2147483648 (bnd n env i).1 && Nat.blt (bnd n env i).2 (2147483648 + rs.length))) then x_aalds n env i t ls st' fs mm H rs 0 else none
      | _ => none))
  | _ => none
noncomputable def x_aast (t : Nat) (W : List (Nat × Nat)) (ls : AL) (st : List AV) (S : AS) : Option (List AX) := match st with
  | .inr (.inl (some y)) :: .inl i :: .inr (.inl (some x)) :: st' => (match S with
    | (n, env, fs, mm, H) => (match nth H x with
      | some (.inl (.inr (q, rs))) => (match nth H y with
        | some (.inr (ci, _)) => bif (((Nat.beq q 1 && Nat.beq ci 0) || ((Nat.beq q 2 && Nat.beq ci 8) || (Nat.beq q 3 && Nat.beq ci 9))) && (memW W x 999 && (Nat.beq (bnd n env i).1 (bnd n env i).2 && (Nat.ble 2147483648 (bnd n env i).1 && Nat.blt (bnd n env i).2 (2147483648 + rs.length))))) then some [(t, ls, st', (n, env, fs, mm, stl H (.inl (.inr (q, stl rs (some y) (sb0 (bnd n env i).1)))) x))] else none
        | _ => none)
      | _ => none))
  | _ => none
noncomputable def sgT (sg : List (Nat × Nat × Nat)) : Nat := List.rec (motive := fun _ => Nat) 0 (fun s _ ih => s.1 + ih) sg
noncomputable def x_copy (t : Nat) (W : List (Nat × Nat)) (ls : AL) (st : List AV) (S : AS) : Option (List AX) := match st with
  | .inl k :: .inl dp :: .inr (.inl (some y)) :: .inl sp :: .inr (.inl (some x)) :: st' => (match S with
    | (n, env, fs, mm, H) => (match nth H x with
      | some (.inl (.inl (.inl ln, p, sg))) => (match nth H y with
        | some (.inl (.inl (.inl ln', _, _))) => bif (Nat.beq dp 2147483648 && (Nat.beq sp 2147483648 && (Nat.ble st'.length 8 && (memW W y 999 && (Nat.blt k 4294967296 && (Nat.beq ln k && (Nat.beq ln' k && (Nat.ble 2147483648 k && Nat.ble (sgT sg) (k - 2147483648))))))))) then some [(t, ls, st', (n, env, fs, mmd mm y, stl H (.inl (.inl (.inl ln', 0, sg))) y))] else none
        | _ => none)
      | _ => none))
  | _ => none
noncomputable def x_max (mn : Bool) (t : Nat) (ls : AL) (st : List AV) (S : AS) : Option (List AX) := match st with
  | .inl y :: .inl x :: st' => (match S with
    | (n, env, fs, mm, H) => bif Nat.ble st'.length 8 then (bif mn then oapp (brn n env fs 2 y x true (fun e f => some [(t, ls, .inl y :: st', (n, e, f, mm, H))])) (brn n env fs 2 y x false (fun e f => some [(t, ls, .inl x :: st', (n, e, f, mm, H))])) else oapp (brn n env fs 2 x y true (fun e f => some [(t, ls, .inl y :: st', (n, e, f, mm, H))])) (brn n env fs 2 x y false (fun e f => some [(t, ls, .inl x :: st', (n, e, f, mm, H))]))) else none)
  | _ => none
noncomputable def x_abs (t : Nat) (ls : AL) (st : List AV) (S : AS) : Option (List AX) := match st with
  | .inl _ :: st' => (match S with
    | (n, env, fs, mm, H) => bif Nat.ble st'.length 8 then nsy n env 0 4294967295 99 0 0 (fun c n' env' => some [(t, ls, .inl c :: st', (n', env', fs, mm, H))]) else none)
  | _ => none
/-- a switch: its default (0 of tg), then case by case -/
noncomputable def x_tabs (n : Nat) (env : List SE) (x : Nat) (ls : AL) (st : List AV) (fs mm : List (Nat × Nat × Nat)) (H : List AC) (tg : List Nat) : Nat → Option (List AX) := List.rec (motive := fun _ => Nat → Option (List AX)) (fun _ => some []) (fun k _ ih j => oapp (match cmpT n env 0 x j with
  | some e => some [(k, ls, st, (n, e, fs, mm, H))]
  | none => some []) (ih (Nat.succ j))) tg
noncomputable def x_tab (a b : Nat) (tg : List Nat) (ls : AL) (st : List AV) (S : AS) : Option (List AX) := match st with
  | .inl x :: st' => (match S with
    | (n, env, fs, mm, H) => (match tg with
      | k :: tl => bif (Nat.beq tl.length (b - a + 1) && (Nat.ble a b && Nat.blt b 2147483648)) then oapp (oapp (match cmpT n env 2 x (2147483648 + a) with
          | some e => some [(k, ls, st', (n, e, fs, mm, H))]
          | none => some []) (match cmpT n env 2 (2147483648 + b) x with
          | some e => some [(k, ls, st', (n, e, fs, mm, H))]
          | none => some [])) (x_tabs n env x ls st' fs mm H tl (2147483648 + a)) else none
      | [] => none))
  | _ => none
noncomputable def x_ifnull (u v : Nat) (ls : AL) (st : List AV) (S : AS) : Option (List AX) := match st with
  | .inr (.inl none) :: st' => some [(u, ls, st', S)]
  | .inr (.inl (some _)) :: st' => some [(v, ls, st', S)]
  | _ => none
