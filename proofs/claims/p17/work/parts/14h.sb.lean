/-! one state under another -/
noncomputable def opq (a b : Option Nat) : Bool := match a with
  | none => (match b with
    | none => true
    | some _ => false)
  | some x => (match b with
    | none => false
    | some y => Nat.beq x y)
theorem opq_ok {a b : Option Nat} (h : opq a b = true) : a = b := by
  match a, b with
  | none, none => rfl
  | none, some _ => cases h
  | some _, none => cases h
  | some x, some y => rw [Nat.eq_of_beq_eq_true h]
noncomputable def sbV (n : Nat) (env : List SE) (n1 : Nat) (a s : AV) : Bool := match a with
  | .inl c => (match s with
    | .inl c' => bif Nat.beq c c' then Nat.blt c (4294967296 + n1) else (Nat.blt c 4294967296 && (Nat.beq (bnd n env c').1 c && Nat.beq (bnd n env c').2 c))
    | _ => false)
  | .inr (.inl o) => (match s with
    | .inr (.inl o') => opq o o'
    | _ => false)
  | .inr (.inr (.inl _)) => false
  | .inr (.inr (.inr (lo, hi))) => (match s with
    | .inl c' => Nat.ble lo (bnd n env c').1 && Nat.ble (bnd n env c').2 hi
    | .inr (.inr (.inr (lo', hi'))) => Nat.ble lo lo' && Nat.ble hi' hi
    | _ => false)
theorem sbV_ok {lam : Nat → Nat} {n : Nat} {env : List SE} {τ ρ1 : List Int32} {n1 : Nat} {a s : AV} {x : PV} (hn : n = env.length) (hE : EnvOK env (τ ++ ρ1)) (h1 : n1 = ρ1.length) (h : sbV n env n1 a s = true) (hv : vRel lam (τ ++ ρ1) s x) : vRel lam ρ1 a x := by
  match a with
  | .inl c =>
    match s with
    | .inl c' =>
      obtain ⟨z, hz, rfl⟩ := hv
      have h0 : (bif Nat.beq c c' then Nat.blt c (4294967296 + n1) else (Nat.blt c 4294967296 && (Nat.beq (bnd n env c').1 c && Nat.beq (bnd n env c').2 c))) = true := h
      clear h
      have h := h0
      clear h0
      cases hc : Nat.beq c c' with
      | true =>
        rw [hc, cond_true, blt_t, h1] at h
        have hc := Nat.eq_of_beq_eq_true hc
        subst hc
        rw [val_suf h] at hz
        exact ⟨z, hz, rfl⟩
      | false =>
        rw [hc, cond_false, Bool.and_eq_true, Bool.and_eq_true, blt_t, Nat.beq_eq, Nat.beq_eq] at h
        have hb := bnd_ok hn hE hz
        rw [h.2.1, h.2.2] at hb
        exact ⟨z, by rw [val_c h.1, inb_c hb], rfl⟩
    | .inr _ => cases h
  | .inr (.inl o) =>
    match s with
    | .inl _ => cases h
    | .inr (.inl o') =>
      have := opq_ok h
      subst this
      exact hv
    | .inr (.inr _) => cases h
  | .inr (.inr (.inl j)) => cases h
  | .inr (.inr (.inr (lo, hi))) =>
    match s with
    | .inl c' =>
      obtain ⟨z, hz, rfl⟩ := hv
      have h0 : (Nat.ble lo (bnd n env c').1 && Nat.ble (bnd n env c').2 hi) = true := h
      clear h
      have h := h0
      clear h0
      rw [Bool.and_eq_true, Nat.ble_eq, Nat.ble_eq] at h
      have hb := bnd_ok hn hE hz
      exact ⟨z, rfl, Nat.le_trans h.1 hb.1, Nat.le_trans hb.2 h.2⟩
    | .inr (.inl o') => cases h
    | .inr (.inr (.inl j)) => cases h
    | .inr (.inr (.inr (lo', hi'))) =>
      obtain ⟨z, rfl, hb⟩ := hv
      have h0 : (Nat.ble lo lo' && Nat.ble hi' hi) = true := h
      clear h
      have h := h0
      clear h0
      rw [Bool.and_eq_true, Nat.ble_eq, Nat.ble_eq] at h
      exact ⟨z, rfl, Nat.le_trans h.1 hb.1, Nat.le_trans hb.2 h.2⟩
noncomputable def sb2 {α : Type} (r : α → α → Bool) (as : List α) : List α → Bool := List.rec (motive := fun _ => List α → Bool) (fun ss => match ss with
  | [] => true
  | _ :: _ => false) (fun a _ ih ss => match ss with
  | [] => false
  | s :: t => bif r a s then ih t else false) as
theorem sb2_R2 {α β : Type} {r : α → α → Bool} {R R' : α → β → Prop} (hr : ∀ a s x, r a s = true → R s x → R' a x) : ∀ {as ss : List α} {xs : List β}, sb2 r as ss = true → R2 R ss xs → R2 R' as xs := by
  intro as
  induction as with
  | nil =>
    intro ss xs h h2
    cases ss with
    | nil => cases xs with
      | nil => exact trivial
      | cons x t => cases h2
    | cons s t => cases h
  | cons a t ih =>
    intro ss xs h h2
    cases ss with
    | nil => cases h
    | cons s u =>
      cases xs with
      | nil => cases h2
      | cons x w =>
        have h0 : (bif r a s then sb2 r t u else false) = true := h
        clear h
        have h := h0
        clear h0
        cases hc : r a s with
        | true => rw [hc] at h; exact ⟨hr a s x hc h2.1, ih h h2.2⟩
        | false => rw [hc] at h; cases h
theorem sb2_nth {α : Type} {r : α → α → Bool} : ∀ {as ss : List α} {j : Nat} {a : α}, sb2 r as ss = true → nth as j = some a → ∃ s, nth ss j = some s ∧ r a s = true := by
  intro as
  induction as with
  | nil => intro ss j a h hn; cases hn
  | cons a0 t ih =>
    intro ss j a h hn
    cases ss with
    | nil => cases h
    | cons s u =>
      have h0 : (bif r a0 s then sb2 r t u else false) = true := h
      clear h
      have h := h0
      clear h0
      cases hc : r a0 s with
      | false => rw [hc] at h; cases h
      | true =>
        rw [hc] at h
        cases j with
        | zero => cases hn; exact ⟨s, rfl, hc⟩
        | succ j =>
          obtain ⟨s', q1, q2⟩ := ih (show sb2 r t u = true from h) (show nth t j = some a from hn)
          exact ⟨s', q1, q2⟩
theorem sb2_len {α : Type} {r : α → α → Bool} : ∀ {as ss : List α}, sb2 r as ss = true → as.length = ss.length := by
  intro as
  induction as with
  | nil => intro ss h; cases ss with
    | nil => rfl
    | cons s t => cases h
  | cons a0 t ih =>
    intro ss h
    cases ss with
    | nil => cases h
    | cons s u =>
      have h0 : (bif r a0 s then sb2 r t u else false) = true := h
      clear h
      have h := h0
      clear h0
      cases hc : r a0 s with
      | false => rw [hc] at h; cases h
      | true => rw [hc] at h; simp [ih h]
noncomputable def sbO (n : Nat) (env : List SE) (n1 : Nat) (a s : Option AV) : Bool := match a with
  | none => true
  | some v => (match s with
    | some w => sbV n env n1 v w
    | none => false)
theorem sbO_ok {lam : Nat → Nat} {n : Nat} {env : List SE} {τ ρ1 : List Int32} {n1 : Nat} (hn : n = env.length) (hE : EnvOK env (τ ++ ρ1)) (h1 : n1 = ρ1.length) (a s : Option AV) (x : Option PV) (h : sbO n env n1 a s = true) (hv : oRel lam (τ ++ ρ1) s x) : oRel lam ρ1 a x := by
  match a, s with
  | none, _ => exact trivial
  | some v, some w => obtain ⟨y, rfl, hy⟩ := hv; exact ⟨y, rfl, sbV_ok hn hE h1 h hy⟩
  | some v, none => cases h
def sgQ (a s : Nat × Nat × Nat) : Bool := match a with
  | (n, lo, hi) => (match s with
    | (n', lo', hi') => Nat.beq n n' && (Nat.ble lo lo' && Nat.ble hi' hi))
theorem sgQ_ok : ∀ {as ss : List (Nat × Nat × Nat)} {f : Nat → Int32}, sb2 sgQ as ss = true → SegOK ss f → SegOK as f := by
  intro as
  induction as with
  | nil => intro ss f h h2; exact trivial
  | cons a t ih =>
    intro ss f h h2
    cases ss with
    | nil => cases h
    | cons s u =>
      have h0 : (bif sgQ a s then sb2 sgQ t u else false) = true := h
      clear h
      have h := h0
      clear h0
      cases hc : sgQ a s with
      | false => rw [hc] at h; cases h
      | true =>
        rw [hc] at h
        obtain ⟨n, lo, hi⟩ := a
        obtain ⟨n', lo', hi'⟩ := s
        have hc : (Nat.beq n n' && (Nat.ble lo lo' && Nat.ble hi' hi)) = true := hc
        rw [Bool.and_eq_true, Bool.and_eq_true, Nat.beq_eq, Nat.ble_eq, Nat.ble_eq] at hc
        obtain ⟨rfl, c1, c2⟩ := hc
        exact ⟨fun j hj => ⟨Nat.le_trans c1 (h2.1 j hj).1, Nat.le_trans (h2.1 j hj).2 c2⟩, ih h h2.2⟩
noncomputable def sbC (n : Nat) (env : List SE) (n1 : Nat) (a s : AC) : Bool := match a with
  | .inl (.inl (ln, p, sg)) => (match s with
    | .inl (.inl (ln', p', sg')) => sbV n env n1 ln ln' && ((Nat.beq p 0 || (Nat.beq p p' && Nat.blt p 17179869184)) && sb2 sgQ sg sg')
    | _ => false)
  | .inl (.inr (q, rs)) => (match s with
    | .inl (.inr (q', rs')) => Nat.beq q q' && sb2 opq rs rs'
    | _ => false)
  | .inr (q, vs) => (match s with
    | .inr (q', vs') => Nat.beq q q' && sb2 (sbV n env n1) vs vs'
    | _ => false)
theorem sbC_ok {lam : Nat → Nat} {n : Nat} {env : List SE} {τ ρ1 : List Int32} {n1 : Nat} (hn : n = env.length) (hE : EnvOK env (τ ++ ρ1)) (h1 : n1 = ρ1.length) {a s : AC} {x : PE} (h : sbC n env n1 a s = true) (hv : cellOK lam (τ ++ ρ1) s x) : cellOK lam ρ1 a x := by
  match a with
  | .inl (.inl (ln, p, sg)) =>
    match s with
    | .inl (.inl (ln', p', sg')) =>
      have h0 : (sbV n env n1 ln ln' && ((Nat.beq p 0 || (Nat.beq p p' && Nat.blt p 17179869184)) && sb2 sgQ sg sg')) = true := h
      clear h
      have h := h0
      clear h0
      rw [Bool.and_eq_true, Bool.and_eq_true, Bool.or_eq_true, Bool.and_eq_true, Nat.beq_eq, Nat.beq_eq, blt_t] at h
      obtain ⟨N, f, e1, e2, e3, e4, e5⟩ := hv
      refine ⟨N, f, e1, e2, sbV_ok hn hE h1 h.1 e3, sgQ_ok h.2.2 e4, ?_⟩
      rcases h.2.1 with q | q
      · subst q; exact PRD_0
      · obtain ⟨q, q'⟩ := q
        subst q; exact e5.dn q'
    | .inl (.inr _) => cases h
    | .inr _ => cases h
  | .inl (.inr (q, rs)) =>
    match s with
    | .inl (.inl _) => cases h
    | .inl (.inr (q', rs')) =>
      have h0 : (Nat.beq q q' && sb2 opq rs rs') = true := h
      clear h
      have h := h0
      clear h0
      rw [Bool.and_eq_true, Nat.beq_eq] at h
      obtain ⟨hq0, h5⟩ := h
      subst hq0
      have h := h5
      obtain ⟨f, e1, e2⟩ := hv
      refine ⟨f, by rw [sb2_len h]; exact e1, fun j o hj => ?_⟩
      obtain ⟨o', h3, h4⟩ := sb2_nth h hj
      rw [opq_ok h4]
      exact e2 j o' h3
    | .inr _ => cases h
  | .inr (q, vs) =>
    match s with
    | .inl _ => cases h
    | .inr (q', vs') =>
      have h0 : (Nat.beq q q' && sb2 (sbV n env n1) vs vs') = true := h
      clear h
      have h := h0
      clear h0
      rw [Bool.and_eq_true, Nat.beq_eq] at h
      obtain ⟨hq0, h5⟩ := h
      subst hq0
      have h := h5
      obtain ⟨xs, e1, e2⟩ := hv
      exact ⟨xs, e1, sb2_R2 (R := vRel lam (τ ++ ρ1)) (R' := vRel lam ρ1) (fun a s x q1 q2 => sbV_ok hn hE h1 q1 q2) h e2⟩
theorem sbH_ok {lam : Nat → Nat} {n : Nat} {env : List SE} {τ ρ1 : List Int32} {n1 : Nat} (hn : n = env.length) (hE : EnvOK env (τ ++ ρ1)) (h1 : n1 = ρ1.length) {A H : List AC} {h : PH} (hs : sb2 (sbC n env n1) A H = true) (hH : HOK lam (τ ++ ρ1) H h) : HOK lam ρ1 A h := by
  intro k c hk
  obtain ⟨s, h3, h4⟩ := sb2_nth hs hk
  obtain ⟨x, e1, e2⟩ := hH k s h3
  exact ⟨x, e1, sbC_ok hn hE h1 h4 e2⟩
