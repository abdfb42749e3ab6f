/-! decode rows in bundles, each read over its own few bytes -/
def AgD (code w : ByteArray) (pc : Nat) : Prop := ∀ i (h : i < w.size), ∃ h' : pc + i < code.size, code[pc + i] = w[i]
def SimD {α : Type} (r : Decoder α) : Prop := ∀ (code w : ByteArray) (pc p : Nat) (a : α) (q : Nat), AgD code w pc → r w p = Except.ok (a, q) → r code (pc + p) = Except.ok (a, pc + q)
theorem sim_pure {α : Type} (x : α) : SimD (pure x : Decoder α) := by
  intro code w pc p a q _ h
  have h : (Except.ok (x, p) : Except DecodeError (α × Nat)) = Except.ok (a, q) := h
  cases h
  rfl
theorem sim_throw {α : Type} (e : DecodeError) : SimD (throw e : Decoder α) := by
  intro code w pc p a q _ h
  have h : (Except.error e : Except DecodeError (α × Nat)) = Except.ok (a, q) := h
  cases h
theorem sim_bind {α β : Type} {r : Decoder α} {f : α → Decoder β} (hr : SimD r) (hf : ∀ x, SimD (f x)) : SimD (r >>= f) := by
  intro code w pc p b q hA h
  have h : Except.bind (r w p) (fun x => f x.1 w x.2) = Except.ok (b, q) := h
  show Except.bind (r code (pc + p)) (fun x => f x.1 code x.2) = Except.ok (b, pc + q)
  cases e : r w p with
  | error x => rw [e] at h; cases h
  | ok x =>
    obtain ⟨a, p'⟩ := x
    rw [e] at h
    rw [hr code w pc p a p' hA e]
    exact hf a code w pc p' b q hA h
theorem sim_map {α β : Type} {r : Decoder α} (f : α → β) (hr : SimD r) : SimD (f <$> r) := by
  intro code w pc p b q hA h
  have h : Except.bind (r w p) (fun x => Except.ok (f x.1, x.2)) = Except.ok (b, q) := h
  show Except.bind (r code (pc + p)) (fun x => Except.ok (f x.1, x.2)) = Except.ok (b, pc + q)
  cases e : r w p with
  | error x => rw [e] at h; cases h
  | ok x =>
    obtain ⟨a, p'⟩ := x
    rw [e] at h
    rw [hr code w pc p a p' hA e]
    have h : (Except.ok (f a, p') : Except DecodeError (β × Nat)) = Except.ok (b, q) := h
    cases h
    rfl
theorem sim_u1 : SimD (Reader.u1 : Decoder Nat) := by
  intro code w pc p a q hA h
  have e : ∀ (c : ByteArray) (p : Nat), (Reader.u1 : Decoder Nat) c p = (if h : p < c.size then (do set (p + 1); pure c[p].toNat : Decoder Nat) else throw (HasTruncated.truncated p)) c p := fun _ _ => rfl
  rw [e] at h ⊢
  by_cases c : p < w.size
  · rw [dif_pos c] at h
    have h : (Except.ok (w[p].toNat, p + 1) : Except DecodeError (Nat × Nat)) = Except.ok (a, q) := h
    cases h
    obtain ⟨h1, h2⟩ := hA p c
    rw [dif_pos h1]
    show (Except.ok (code[pc + p].toNat, pc + p + 1) : Except DecodeError (Nat × Nat)) = Except.ok (w[p].toNat, pc + (p + 1))
    rw [h2]
    rfl
  · rw [dif_neg c] at h
    have h : (Except.error (HasTruncated.truncated p) : Except DecodeError (Nat × Nat)) = Except.ok (a, q) := h
    cases h
theorem sim_u2 : SimD (Reader.u2 : Decoder Nat) := sim_bind sim_u1 (fun _ => sim_bind sim_u1 (fun _ => sim_pure _))
theorem sim_u4 : SimD (Reader.u4 : Decoder Nat) := sim_bind sim_u2 (fun _ => sim_bind sim_u2 (fun _ => sim_pure _))
theorem sim_s1 : SimD (Reader.s1 : Decoder Int) := sim_map _ sim_u1
theorem sim_s2 : SimD (Reader.s2 : Decoder Int) := sim_map _ sim_u2
theorem sim_s4 : SimD (Reader.s4 : Decoder Int) := sim_map _ sim_u4
theorem sim_newarray (pc : Nat) : SimD (Decoder.newarray pc) := by
  unfold Decoder.newarray
  refine sim_bind sim_u1 (fun b => ?_)
  split <;> first | exact sim_pure _ | exact sim_throw _
set_option maxRecDepth 100000 in
theorem sim_instr (pc : Nat) (code w : ByteArray) (pc0 : Nat) (a : Instr) (q : Nat) (hA : AgD code w pc0) (hb : ∀ h : 0 < w.size, w[0].toNat ≠ 170 ∧ w[0].toNat ≠ 171 ∧ w[0].toNat ≠ 185 ∧ w[0].toNat ≠ 186 ∧ w[0].toNat ≠ 196 ∧ w[0].toNat ≠ 197) (h : Decoder.instr pc w 0 = Except.ok (a, q)) : Decoder.instr pc code pc0 = Except.ok (a, pc0 + q) := by
  unfold Decoder.instr at h ⊢
  revert h
  generalize hF : (fun b : Nat => _) = F
  intro h
  have h : Except.bind ((Reader.u1 : Decoder Nat) w 0) (fun x => F x.1 w x.2) = Except.ok (a, q) := h
  show Except.bind ((Reader.u1 : Decoder Nat) code pc0) (fun x => F x.1 code x.2) = Except.ok (a, pc0 + q)
  cases e : (Reader.u1 : Decoder Nat) w 0 with
  | error x => rw [e] at h; cases h
  | ok x =>
    obtain ⟨b, p'⟩ := x
    rw [e] at h
    have hu := sim_u1 code w pc0 0 b p' hA e
    rw [Nat.add_zero] at hu
    rw [hu]
    have hs : SimD (F b) := by
      have hb' : b ≠ 170 ∧ b ≠ 171 ∧ b ≠ 185 ∧ b ≠ 186 ∧ b ≠ 196 ∧ b ≠ 197 := by
        have e2 : (Reader.u1 : Decoder Nat) w 0 = (if h : 0 < w.size then (do set (0 + 1); pure w[0].toNat : Decoder Nat) else throw (HasTruncated.truncated 0)) w 0 := rfl
        rw [e2] at e
        by_cases c : 0 < w.size
        · rw [dif_pos c] at e
          have e : (Except.ok (w[0].toNat, 0 + 1) : Except DecodeError (Nat × Nat)) = Except.ok (b, p') := e
          cases e
          exact hb c
        · rw [dif_neg c] at e
          cases e
      subst hF
      clear h e hu hb hA
      obtain ⟨n1, n2, n3, n4, n5, n6⟩ := hb'
      dsimp only
      split
      all_goals first
        | exact sim_pure _
        | exact sim_bind sim_u1 (fun _ => sim_pure _)
        | exact sim_bind sim_u2 (fun _ => sim_pure _)
        | exact sim_bind sim_s2 (fun _ => sim_pure _)
        | exact sim_bind sim_s1 (fun _ => sim_pure _)
        | exact sim_bind sim_u1 (fun _ => sim_bind sim_s1 (fun _ => sim_pure _))
        | exact sim_bind sim_s4 (fun _ => sim_pure _)
        | exact sim_throw _
        | exact sim_newarray _
        | exact absurd rfl n1
        | exact absurd rfl n2
        | exact absurd rfl n3
        | exact absurd rfl n4
        | exact absurd rfl n5
        | exact absurd rfl n6
    exact hs code w pc0 p' a q hA h
theorem dec_win {code w : ByteArray} {pc n : Nat} {ins : Instr} (hA : AgD code w pc) (hb : ∀ h : 0 < w.size, w[0].toNat ≠ 170 ∧ w[0].toNat ≠ 171 ∧ w[0].toNat ≠ 185 ∧ w[0].toNat ≠ 186 ∧ w[0].toNat ≠ 196 ∧ w[0].toNat ≠ 197) (h : Decoder.instr pc w 0 = Except.ok (ins, n)) : decode code pc = .ok (ins, n) := by
  have h1 := sim_instr pc code w pc ins n hA hb h
  have h2 : decode code pc = Except.bind (Decoder.instr pc code pc) (fun x => Except.ok (x.1, x.2 - pc)) := rfl
  rw [h2, h1]
  show Except.ok (ins, pc + n - pc) = _
  rw [Nat.add_sub_cancel_left]
def okb (bs : List UInt8) : Bool := match bs with
  | [] => false
  | b :: _ => !(Nat.beq b.toNat 170 || (Nat.beq b.toNat 171 || (Nat.beq b.toNat 185 || (Nat.beq b.toNat 186 || (Nat.beq b.toNat 196 || Nat.beq b.toNat 197)))))
/-- instructions one behind another; bs: the bytes from the first of them on -/
def wkD (c : ByteArray) (bs : List UInt8) : List (Nat × Instr × Nat) → Nat → Bool
  | [], _ => true
  | e :: t, pc => Nat.beq e.1 pc && ((if okb bs = true then decide (Decoder.instr pc (ByteArray.mk (bs.take e.2.2).toArray) 0 = Except.ok (e.2.1, e.2.2)) else decide (decode c pc = .ok (e.2.1, e.2.2))) && wkD c (bs.drop e.2.2) t (pc + e.2.2))
theorem AgD_of {c : ByteArray} {pc n : Nat} {bs : List UInt8} (h : c.data.toList.drop pc = bs) : AgD c (ByteArray.mk (bs.take n).toArray) pc := by
  intro i hi
  have hi' : i < (bs.take n).length := hi
  rw [List.length_take] at hi'
  have hl : i < bs.length := by omega
  have hp : pc + i < c.data.toList.length := by
    have : bs.length = c.data.toList.length - pc := by rw [← h, List.length_drop]
    omega
  refine ⟨hp, ?_⟩
  show c.data.toList[pc + i] = (bs.take n)[i]
  subst h
  rw [List.getElem_take, List.getElem_drop]
theorem wkD_ok {c : ByteArray} : ∀ (es : List (Nat × Instr × Nat)) (bs : List UInt8) (pc : Nat), c.data.toList.drop pc = bs → wkD c bs es pc = true → ∀ e, e ∈ es → decode c e.1 = .ok (e.2.1, e.2.2) := by
  intro es
  induction es with
  | nil => intro bs pc _ _ e he; cases he
  | cons a t ih =>
    intro bs pc hd h e he
    have h : (Nat.beq a.1 pc && ((if okb bs = true then decide (Decoder.instr pc (ByteArray.mk (bs.take a.2.2).toArray) 0 = Except.ok (a.2.1, a.2.2)) else decide (decode c pc = .ok (a.2.1, a.2.2))) && wkD c (bs.drop a.2.2) t (pc + a.2.2))) = true := h
    rw [Bool.and_eq_true, Bool.and_eq_true] at h
    obtain ⟨h1, h2, h3⟩ := h
    have h1 := Nat.eq_of_beq_eq_true h1
    rcases List.mem_cons.mp he with rfl | he
    · rw [h1]
      by_cases c1 : okb bs = true
      · rw [if_pos c1] at h2
        refine dec_win (AgD_of hd) (fun q => ?_) (of_decide_eq_true h2)
        cases bs with
        | nil => cases c1
        | cons b r =>
          have c1 : (!(Nat.beq b.toNat 170 || (Nat.beq b.toNat 171 || (Nat.beq b.toNat 185 || (Nat.beq b.toNat 186 || (Nat.beq b.toNat 196 || Nat.beq b.toNat 197)))))) = true := c1
          simp only [Bool.not_eq_true', Bool.or_eq_false_iff] at c1
          obtain ⟨x1, x2, x3, x4, x5, x6⟩ := c1
          have hq : ∀ (m : Nat) (hm : 0 < ((b :: r).take m).length), ((b :: r).take m)[0] = b := by
            intro m hm
            cases m with
            | zero => exact absurd hm (Nat.lt_irrefl 0)
            | succ m => rfl
          have e0 : (ByteArray.mk ((b :: r).take e.2.2).toArray)[0] = b := hq _ q
          rw [e0]
          exact ⟨Nat.ne_of_beq_eq_false x1, Nat.ne_of_beq_eq_false x2, Nat.ne_of_beq_eq_false x3, Nat.ne_of_beq_eq_false x4, Nat.ne_of_beq_eq_false x5, Nat.ne_of_beq_eq_false x6⟩
      · rw [if_neg c1] at h2
        exact of_decide_eq_true h2
    · refine ih (bs.drop a.2.2) (pc + a.2.2) ?_ h3 e he
      rw [← hd, List.drop_drop]
def dkc (c : ByteArray) (es : List (Nat × Instr × Nat)) : Bool := match es with
  | [] => true
  | e :: t => wkD c (c.data.toList.drop e.1) (e :: t) e.1
def dkn (es : List (Nat × Instr × Nat)) (i : Nat) : Option (Nat × Instr × Nat) := match es, i with
  | [], _ => none
  | e :: _, 0 => some e
  | _ :: t, i + 1 => dkn t i
theorem dkn_mem : ∀ (es : List (Nat × Instr × Nat)) (i : Nat) (e : Nat × Instr × Nat), dkn es i = some e → e ∈ es := by
  intro es
  induction es with
  | nil => intro i e h; cases h
  | cons a t ih =>
    intro i e h
    cases i with
    | zero =>
      have h : some a = some e := h
      rw [Option.some.inj h]
      exact List.mem_cons_self
    | succ i => exact List.mem_cons_of_mem _ (ih i e h)
theorem dk_get {c : ByteArray} {es : List (Nat × Instr × Nat)} {pc n : Nat} {ins : Instr} (h : dkc c es = true) (i : Nat) (hi : dkn es i = some (pc, ins, n)) : decode c pc = .ok (ins, n) := by
  have hm := dkn_mem es i _ hi
  cases es with
  | nil => cases hm
  | cons e t =>
    have h : wkD c (c.data.toList.drop e.1) (e :: t) e.1 = true := h
    exact wkD_ok (e :: t) (c.data.toList.drop e.1) e.1 rfl h (pc, ins, n) hm
theorem dk_d00_0 : dkc cX0_init [(0, .aload_n 0, 1), (1, .invokespecial 3, 3), (4, .aload_n 0, 1), (5, .bipush 120, 2), (7, .newarray .int, 2), (9, .putfield 9, 3), (12, .aload_n 0, 1), (13, .sipush 144, 3), (16, .newarray .int, 2), (18, .putfield 15, 3), (21, .aload_n 0, 1), (22, .iconst 0, 1), (23, .putfield 18, 3), (26, .aload_n 0, 1), (27, .iconst 0, 1), (28, .putfield 22, 3), (31, .aload_n 0, 1), (32, .iconst 0, 1), (33, .putfield 25, 3), (36, .aload_n 0, 1), (37, .iconst 0, 1), (38, .putfield 28, 3), (41, .aload_n 0, 1), (42, .iconst 0, 1), (43, .putfield 31, 3)] = true := by decide +kernel
theorem dX0_init_0 : decode cX0_init 0 = .ok (.aload_n 0, 1) := dk_get dk_d00_0 0 rfl
theorem dX0_init_1 : decode cX0_init 1 = .ok (.invokespecial 3, 3) := dk_get dk_d00_0 1 rfl
theorem dX0_init_4 : decode cX0_init 4 = .ok (.aload_n 0, 1) := dk_get dk_d00_0 2 rfl
theorem dX0_init_5 : decode cX0_init 5 = .ok (.bipush 120, 2) := dk_get dk_d00_0 3 rfl
theorem dX0_init_7 : decode cX0_init 7 = .ok (.newarray .int, 2) := dk_get dk_d00_0 4 rfl
theorem dX0_init_9 : decode cX0_init 9 = .ok (.putfield 9, 3) := dk_get dk_d00_0 5 rfl
theorem dX0_init_12 : decode cX0_init 12 = .ok (.aload_n 0, 1) := dk_get dk_d00_0 6 rfl
theorem dX0_init_13 : decode cX0_init 13 = .ok (.sipush 144, 3) := dk_get dk_d00_0 7 rfl
theorem dX0_init_16 : decode cX0_init 16 = .ok (.newarray .int, 2) := dk_get dk_d00_0 8 rfl
theorem dX0_init_18 : decode cX0_init 18 = .ok (.putfield 15, 3) := dk_get dk_d00_0 9 rfl
theorem dX0_init_21 : decode cX0_init 21 = .ok (.aload_n 0, 1) := dk_get dk_d00_0 10 rfl
theorem dX0_init_22 : decode cX0_init 22 = .ok (.iconst 0, 1) := dk_get dk_d00_0 11 rfl
theorem dX0_init_23 : decode cX0_init 23 = .ok (.putfield 18, 3) := dk_get dk_d00_0 12 rfl
theorem dX0_init_26 : decode cX0_init 26 = .ok (.aload_n 0, 1) := dk_get dk_d00_0 13 rfl
theorem dX0_init_27 : decode cX0_init 27 = .ok (.iconst 0, 1) := dk_get dk_d00_0 14 rfl
theorem dX0_init_28 : decode cX0_init 28 = .ok (.putfield 22, 3) := dk_get dk_d00_0 15 rfl
theorem dX0_init_31 : decode cX0_init 31 = .ok (.aload_n 0, 1) := dk_get dk_d00_0 16 rfl
theorem dX0_init_32 : decode cX0_init 32 = .ok (.iconst 0, 1) := dk_get dk_d00_0 17 rfl
theorem dX0_init_33 : decode cX0_init 33 = .ok (.putfield 25, 3) := dk_get dk_d00_0 18 rfl
theorem dX0_init_36 : decode cX0_init 36 = .ok (.aload_n 0, 1) := dk_get dk_d00_0 19 rfl
theorem dX0_init_37 : decode cX0_init 37 = .ok (.iconst 0, 1) := dk_get dk_d00_0 20 rfl
theorem dX0_init_38 : decode cX0_init 38 = .ok (.putfield 28, 3) := dk_get dk_d00_0 21 rfl
theorem dX0_init_41 : decode cX0_init 41 = .ok (.aload_n 0, 1) := dk_get dk_d00_0 22 rfl
theorem dX0_init_42 : decode cX0_init 42 = .ok (.iconst 0, 1) := dk_get dk_d00_0 23 rfl
theorem dX0_init_43 : decode cX0_init 43 = .ok (.putfield 31, 3) := dk_get dk_d00_0 24 rfl
theorem dk_d00_1 : dkc cX0_init [(46, .aload_n 0, 1), (47, .iconst 0, 1), (48, .putfield 34, 3), (51, .aload_n 0, 1), (52, .iconst 0, 1), (53, .putfield 37, 3), (56, .aload_n 0, 1), (57, .iconst 0, 1), (58, .putfield 40, 3), (61, .return_, 1)] = true := by decide +kernel
theorem dX0_init_46 : decode cX0_init 46 = .ok (.aload_n 0, 1) := dk_get dk_d00_1 0 rfl
theorem dX0_init_47 : decode cX0_init 47 = .ok (.iconst 0, 1) := dk_get dk_d00_1 1 rfl
theorem dX0_init_48 : decode cX0_init 48 = .ok (.putfield 34, 3) := dk_get dk_d00_1 2 rfl
theorem dX0_init_51 : decode cX0_init 51 = .ok (.aload_n 0, 1) := dk_get dk_d00_1 3 rfl
theorem dX0_init_52 : decode cX0_init 52 = .ok (.iconst 0, 1) := dk_get dk_d00_1 4 rfl
theorem dX0_init_53 : decode cX0_init 53 = .ok (.putfield 37, 3) := dk_get dk_d00_1 5 rfl
theorem dX0_init_56 : decode cX0_init 56 = .ok (.aload_n 0, 1) := dk_get dk_d00_1 6 rfl
theorem dX0_init_57 : decode cX0_init 57 = .ok (.iconst 0, 1) := dk_get dk_d00_1 7 rfl
theorem dX0_init_58 : decode cX0_init 58 = .ok (.putfield 40, 3) := dk_get dk_d00_1 8 rfl
theorem dX0_init_61 : decode cX0_init 61 = .ok (.return_, 1) := dk_get dk_d00_1 9 rfl
theorem dk_d00_2 : dkc cX0_takeOver [(0, .aload_n 1, 1), (1, .getfield 9, 3), (4, .iconst 0, 1), (5, .aload_n 0, 1), (6, .getfield 9, 3), (9, .iconst 0, 1), (10, .bipush 120, 2), (12, .invokestatic 43, 3), (15, .aload_n 1, 1), (16, .getfield 15, 3), (19, .iconst 0, 1), (20, .aload_n 0, 1), (21, .getfield 15, 3), (24, .iconst 0, 1), (25, .sipush 144, 3), (28, .invokestatic 43, 3), (31, .aload_n 0, 1), (32, .aload_n 1, 1), (33, .getfield 18, 3), (36, .putfield 18, 3), (39, .aload_n 0, 1), (40, .aload_n 1, 1), (41, .getfield 22, 3), (44, .putfield 22, 3), (47, .aload_n 0, 1)] = true := by decide +kernel
theorem dX0_takeOver_0 : decode cX0_takeOver 0 = .ok (.aload_n 1, 1) := dk_get dk_d00_2 0 rfl
theorem dX0_takeOver_1 : decode cX0_takeOver 1 = .ok (.getfield 9, 3) := dk_get dk_d00_2 1 rfl
theorem dX0_takeOver_4 : decode cX0_takeOver 4 = .ok (.iconst 0, 1) := dk_get dk_d00_2 2 rfl
theorem dX0_takeOver_5 : decode cX0_takeOver 5 = .ok (.aload_n 0, 1) := dk_get dk_d00_2 3 rfl
theorem dX0_takeOver_6 : decode cX0_takeOver 6 = .ok (.getfield 9, 3) := dk_get dk_d00_2 4 rfl
theorem dX0_takeOver_9 : decode cX0_takeOver 9 = .ok (.iconst 0, 1) := dk_get dk_d00_2 5 rfl
theorem dX0_takeOver_10 : decode cX0_takeOver 10 = .ok (.bipush 120, 2) := dk_get dk_d00_2 6 rfl
theorem dX0_takeOver_12 : decode cX0_takeOver 12 = .ok (.invokestatic 43, 3) := dk_get dk_d00_2 7 rfl
theorem dX0_takeOver_15 : decode cX0_takeOver 15 = .ok (.aload_n 1, 1) := dk_get dk_d00_2 8 rfl
theorem dX0_takeOver_16 : decode cX0_takeOver 16 = .ok (.getfield 15, 3) := dk_get dk_d00_2 9 rfl
theorem dX0_takeOver_19 : decode cX0_takeOver 19 = .ok (.iconst 0, 1) := dk_get dk_d00_2 10 rfl
theorem dX0_takeOver_20 : decode cX0_takeOver 20 = .ok (.aload_n 0, 1) := dk_get dk_d00_2 11 rfl
theorem dX0_takeOver_21 : decode cX0_takeOver 21 = .ok (.getfield 15, 3) := dk_get dk_d00_2 12 rfl
theorem dX0_takeOver_24 : decode cX0_takeOver 24 = .ok (.iconst 0, 1) := dk_get dk_d00_2 13 rfl
theorem dX0_takeOver_25 : decode cX0_takeOver 25 = .ok (.sipush 144, 3) := dk_get dk_d00_2 14 rfl
theorem dX0_takeOver_28 : decode cX0_takeOver 28 = .ok (.invokestatic 43, 3) := dk_get dk_d00_2 15 rfl
theorem dX0_takeOver_31 : decode cX0_takeOver 31 = .ok (.aload_n 0, 1) := dk_get dk_d00_2 16 rfl
theorem dX0_takeOver_32 : decode cX0_takeOver 32 = .ok (.aload_n 1, 1) := dk_get dk_d00_2 17 rfl
theorem dX0_takeOver_33 : decode cX0_takeOver 33 = .ok (.getfield 18, 3) := dk_get dk_d00_2 18 rfl
theorem dX0_takeOver_36 : decode cX0_takeOver 36 = .ok (.putfield 18, 3) := dk_get dk_d00_2 19 rfl
theorem dX0_takeOver_39 : decode cX0_takeOver 39 = .ok (.aload_n 0, 1) := dk_get dk_d00_2 20 rfl
theorem dX0_takeOver_40 : decode cX0_takeOver 40 = .ok (.aload_n 1, 1) := dk_get dk_d00_2 21 rfl
theorem dX0_takeOver_41 : decode cX0_takeOver 41 = .ok (.getfield 22, 3) := dk_get dk_d00_2 22 rfl
theorem dX0_takeOver_44 : decode cX0_takeOver 44 = .ok (.putfield 22, 3) := dk_get dk_d00_2 23 rfl
theorem dX0_takeOver_47 : decode cX0_takeOver 47 = .ok (.aload_n 0, 1) := dk_get dk_d00_2 24 rfl
theorem dk_d00_3 : dkc cX0_takeOver [(48, .aload_n 1, 1), (49, .getfield 25, 3), (52, .putfield 25, 3), (55, .aload_n 0, 1), (56, .aload_n 1, 1), (57, .getfield 28, 3), (60, .putfield 28, 3), (63, .aload_n 0, 1), (64, .aload_n 1, 1), (65, .getfield 31, 3), (68, .putfield 31, 3), (71, .aload_n 0, 1), (72, .aload_n 1, 1), (73, .getfield 34, 3), (76, .putfield 34, 3), (79, .aload_n 0, 1), (80, .aload_n 1, 1), (81, .getfield 37, 3), (84, .putfield 37, 3), (87, .aload_n 0, 1), (88, .aload_n 1, 1), (89, .getfield 40, 3), (92, .putfield 40, 3), (95, .return_, 1)] = true := by decide +kernel
theorem dX0_takeOver_48 : decode cX0_takeOver 48 = .ok (.aload_n 1, 1) := dk_get dk_d00_3 0 rfl
theorem dX0_takeOver_49 : decode cX0_takeOver 49 = .ok (.getfield 25, 3) := dk_get dk_d00_3 1 rfl
theorem dX0_takeOver_52 : decode cX0_takeOver 52 = .ok (.putfield 25, 3) := dk_get dk_d00_3 2 rfl
theorem dX0_takeOver_55 : decode cX0_takeOver 55 = .ok (.aload_n 0, 1) := dk_get dk_d00_3 3 rfl
theorem dX0_takeOver_56 : decode cX0_takeOver 56 = .ok (.aload_n 1, 1) := dk_get dk_d00_3 4 rfl
theorem dX0_takeOver_57 : decode cX0_takeOver 57 = .ok (.getfield 28, 3) := dk_get dk_d00_3 5 rfl
theorem dX0_takeOver_60 : decode cX0_takeOver 60 = .ok (.putfield 28, 3) := dk_get dk_d00_3 6 rfl
theorem dX0_takeOver_63 : decode cX0_takeOver 63 = .ok (.aload_n 0, 1) := dk_get dk_d00_3 7 rfl
theorem dX0_takeOver_64 : decode cX0_takeOver 64 = .ok (.aload_n 1, 1) := dk_get dk_d00_3 8 rfl
theorem dX0_takeOver_65 : decode cX0_takeOver 65 = .ok (.getfield 31, 3) := dk_get dk_d00_3 9 rfl
theorem dX0_takeOver_68 : decode cX0_takeOver 68 = .ok (.putfield 31, 3) := dk_get dk_d00_3 10 rfl
theorem dX0_takeOver_71 : decode cX0_takeOver 71 = .ok (.aload_n 0, 1) := dk_get dk_d00_3 11 rfl
theorem dX0_takeOver_72 : decode cX0_takeOver 72 = .ok (.aload_n 1, 1) := dk_get dk_d00_3 12 rfl
theorem dX0_takeOver_73 : decode cX0_takeOver 73 = .ok (.getfield 34, 3) := dk_get dk_d00_3 13 rfl
theorem dX0_takeOver_76 : decode cX0_takeOver 76 = .ok (.putfield 34, 3) := dk_get dk_d00_3 14 rfl
theorem dX0_takeOver_79 : decode cX0_takeOver 79 = .ok (.aload_n 0, 1) := dk_get dk_d00_3 15 rfl
theorem dX0_takeOver_80 : decode cX0_takeOver 80 = .ok (.aload_n 1, 1) := dk_get dk_d00_3 16 rfl
theorem dX0_takeOver_81 : decode cX0_takeOver 81 = .ok (.getfield 37, 3) := dk_get dk_d00_3 17 rfl
theorem dX0_takeOver_84 : decode cX0_takeOver 84 = .ok (.putfield 37, 3) := dk_get dk_d00_3 18 rfl
theorem dX0_takeOver_87 : decode cX0_takeOver 87 = .ok (.aload_n 0, 1) := dk_get dk_d00_3 19 rfl
theorem dX0_takeOver_88 : decode cX0_takeOver 88 = .ok (.aload_n 1, 1) := dk_get dk_d00_3 20 rfl
theorem dX0_takeOver_89 : decode cX0_takeOver 89 = .ok (.getfield 40, 3) := dk_get dk_d00_3 21 rfl
theorem dX0_takeOver_92 : decode cX0_takeOver 92 = .ok (.putfield 40, 3) := dk_get dk_d00_3 22 rfl
theorem dX0_takeOver_95 : decode cX0_takeOver 95 = .ok (.return_, 1) := dk_get dk_d00_3 23 rfl
theorem dk_d00_4 : dkc cX0_has [(0, .iload_n 1, 1), (1, .ifCond .lt 21, 3), (4, .iload_n 1, 1), (5, .aload_n 0, 1), (6, .getfield 18, 3), (9, .if_icmp .ge 13, 3), (12, .iload_n 1, 1), (13, .bipush 20, 2), (15, .if_icmp .ge 7, 3), (18, .iconst 1, 1), (19, .goto 4, 3), (22, .iconst 0, 1), (23, .ireturn, 1)] = true := by decide +kernel
theorem dX0_has_0 : decode cX0_has 0 = .ok (.iload_n 1, 1) := dk_get dk_d00_4 0 rfl
theorem dX0_has_1 : decode cX0_has 1 = .ok (.ifCond .lt 21, 3) := dk_get dk_d00_4 1 rfl
theorem dX0_has_4 : decode cX0_has 4 = .ok (.iload_n 1, 1) := dk_get dk_d00_4 2 rfl
theorem dX0_has_5 : decode cX0_has 5 = .ok (.aload_n 0, 1) := dk_get dk_d00_4 3 rfl
theorem dX0_has_6 : decode cX0_has 6 = .ok (.getfield 18, 3) := dk_get dk_d00_4 4 rfl
theorem dX0_has_9 : decode cX0_has 9 = .ok (.if_icmp .ge 13, 3) := dk_get dk_d00_4 5 rfl
theorem dX0_has_12 : decode cX0_has 12 = .ok (.iload_n 1, 1) := dk_get dk_d00_4 6 rfl
theorem dX0_has_13 : decode cX0_has 13 = .ok (.bipush 20, 2) := dk_get dk_d00_4 7 rfl
theorem dX0_has_15 : decode cX0_has 15 = .ok (.if_icmp .ge 7, 3) := dk_get dk_d00_4 8 rfl
theorem dX0_has_18 : decode cX0_has 18 = .ok (.iconst 1, 1) := dk_get dk_d00_4 9 rfl
theorem dX0_has_19 : decode cX0_has 19 = .ok (.goto 4, 3) := dk_get dk_d00_4 10 rfl
theorem dX0_has_22 : decode cX0_has 22 = .ok (.iconst 0, 1) := dk_get dk_d00_4 11 rfl
theorem dX0_has_23 : decode cX0_has 23 = .ok (.ireturn, 1) := dk_get dk_d00_4 12 rfl
theorem dk_d00_5 : dkc cX0_trait [(0, .aload_n 0, 1), (1, .iload_n 1, 1), (2, .invokevirtual 49, 3), (5, .ifCond .eq 17, 3), (8, .iload_n 2, 1), (9, .ifCond .lt 13, 3), (12, .iload_n 2, 1), (13, .bipush 6, 2), (15, .if_icmp .ge 7, 3), (18, .iconst 1, 1), (19, .goto 4, 3), (22, .iconst 0, 1), (23, .istore_n 3, 1), (24, .iload_n 3, 1), (25, .ifCond .eq 17, 3), (28, .aload_n 0, 1), (29, .getfield 9, 3), (32, .iload_n 2, 1), (33, .bipush 20, 2), (35, .imul, 1), (36, .iload_n 1, 1), (37, .iadd, 1), (38, .iaload, 1), (39, .goto 4, 3), (42, .iconst 0, 1)] = true := by decide +kernel
theorem dX0_trait_0 : decode cX0_trait 0 = .ok (.aload_n 0, 1) := dk_get dk_d00_5 0 rfl
theorem dX0_trait_1 : decode cX0_trait 1 = .ok (.iload_n 1, 1) := dk_get dk_d00_5 1 rfl
theorem dX0_trait_2 : decode cX0_trait 2 = .ok (.invokevirtual 49, 3) := dk_get dk_d00_5 2 rfl
theorem dX0_trait_5 : decode cX0_trait 5 = .ok (.ifCond .eq 17, 3) := dk_get dk_d00_5 3 rfl
theorem dX0_trait_8 : decode cX0_trait 8 = .ok (.iload_n 2, 1) := dk_get dk_d00_5 4 rfl
theorem dX0_trait_9 : decode cX0_trait 9 = .ok (.ifCond .lt 13, 3) := dk_get dk_d00_5 5 rfl
theorem dX0_trait_12 : decode cX0_trait 12 = .ok (.iload_n 2, 1) := dk_get dk_d00_5 6 rfl
theorem dX0_trait_13 : decode cX0_trait 13 = .ok (.bipush 6, 2) := dk_get dk_d00_5 7 rfl
theorem dX0_trait_15 : decode cX0_trait 15 = .ok (.if_icmp .ge 7, 3) := dk_get dk_d00_5 8 rfl
theorem dX0_trait_18 : decode cX0_trait 18 = .ok (.iconst 1, 1) := dk_get dk_d00_5 9 rfl
theorem dX0_trait_19 : decode cX0_trait 19 = .ok (.goto 4, 3) := dk_get dk_d00_5 10 rfl
theorem dX0_trait_22 : decode cX0_trait 22 = .ok (.iconst 0, 1) := dk_get dk_d00_5 11 rfl
theorem dX0_trait_23 : decode cX0_trait 23 = .ok (.istore_n 3, 1) := dk_get dk_d00_5 12 rfl
theorem dX0_trait_24 : decode cX0_trait 24 = .ok (.iload_n 3, 1) := dk_get dk_d00_5 13 rfl
theorem dX0_trait_25 : decode cX0_trait 25 = .ok (.ifCond .eq 17, 3) := dk_get dk_d00_5 14 rfl
theorem dX0_trait_28 : decode cX0_trait 28 = .ok (.aload_n 0, 1) := dk_get dk_d00_5 15 rfl
theorem dX0_trait_29 : decode cX0_trait 29 = .ok (.getfield 9, 3) := dk_get dk_d00_5 16 rfl
theorem dX0_trait_32 : decode cX0_trait 32 = .ok (.iload_n 2, 1) := dk_get dk_d00_5 17 rfl
theorem dX0_trait_33 : decode cX0_trait 33 = .ok (.bipush 20, 2) := dk_get dk_d00_5 18 rfl
theorem dX0_trait_35 : decode cX0_trait 35 = .ok (.imul, 1) := dk_get dk_d00_5 19 rfl
theorem dX0_trait_36 : decode cX0_trait 36 = .ok (.iload_n 1, 1) := dk_get dk_d00_5 20 rfl
theorem dX0_trait_37 : decode cX0_trait 37 = .ok (.iadd, 1) := dk_get dk_d00_5 21 rfl
theorem dX0_trait_38 : decode cX0_trait 38 = .ok (.iaload, 1) := dk_get dk_d00_5 22 rfl
theorem dX0_trait_39 : decode cX0_trait 39 = .ok (.goto 4, 3) := dk_get dk_d00_5 23 rfl
theorem dX0_trait_42 : decode cX0_trait 42 = .ok (.iconst 0, 1) := dk_get dk_d00_5 24 rfl
theorem dk_d00_6 : dkc cX0_trait [(43, .ireturn, 1)] = true := by decide +kernel
theorem dX0_trait_43 : decode cX0_trait 43 = .ok (.ireturn, 1) := dk_get dk_d00_6 0 rfl
theorem dk_d00_7 : dkc cX0_setTrait [(0, .aload_n 0, 1), (1, .iload_n 1, 1), (2, .invokevirtual 49, 3), (5, .ifCond .eq 25, 3), (8, .iload_n 2, 1), (9, .ifCond .lt 21, 3), (12, .iload_n 2, 1), (13, .bipush 6, 2), (15, .if_icmp .ge 15, 3), (18, .aload_n 0, 1), (19, .getfield 9, 3), (22, .iload_n 2, 1), (23, .bipush 20, 2), (25, .imul, 1), (26, .iload_n 1, 1), (27, .iadd, 1), (28, .iload_n 3, 1), (29, .iastore, 1), (30, .return_, 1)] = true := by decide +kernel
theorem dX0_setTrait_0 : decode cX0_setTrait 0 = .ok (.aload_n 0, 1) := dk_get dk_d00_7 0 rfl
theorem dX0_setTrait_1 : decode cX0_setTrait 1 = .ok (.iload_n 1, 1) := dk_get dk_d00_7 1 rfl
theorem dX0_setTrait_2 : decode cX0_setTrait 2 = .ok (.invokevirtual 49, 3) := dk_get dk_d00_7 2 rfl
theorem dX0_setTrait_5 : decode cX0_setTrait 5 = .ok (.ifCond .eq 25, 3) := dk_get dk_d00_7 3 rfl
theorem dX0_setTrait_8 : decode cX0_setTrait 8 = .ok (.iload_n 2, 1) := dk_get dk_d00_7 4 rfl
theorem dX0_setTrait_9 : decode cX0_setTrait 9 = .ok (.ifCond .lt 21, 3) := dk_get dk_d00_7 5 rfl
theorem dX0_setTrait_12 : decode cX0_setTrait 12 = .ok (.iload_n 2, 1) := dk_get dk_d00_7 6 rfl
theorem dX0_setTrait_13 : decode cX0_setTrait 13 = .ok (.bipush 6, 2) := dk_get dk_d00_7 7 rfl
theorem dX0_setTrait_15 : decode cX0_setTrait 15 = .ok (.if_icmp .ge 15, 3) := dk_get dk_d00_7 8 rfl
theorem dX0_setTrait_18 : decode cX0_setTrait 18 = .ok (.aload_n 0, 1) := dk_get dk_d00_7 9 rfl
theorem dX0_setTrait_19 : decode cX0_setTrait 19 = .ok (.getfield 9, 3) := dk_get dk_d00_7 10 rfl
theorem dX0_setTrait_22 : decode cX0_setTrait 22 = .ok (.iload_n 2, 1) := dk_get dk_d00_7 11 rfl
theorem dX0_setTrait_23 : decode cX0_setTrait 23 = .ok (.bipush 20, 2) := dk_get dk_d00_7 12 rfl
theorem dX0_setTrait_25 : decode cX0_setTrait 25 = .ok (.imul, 1) := dk_get dk_d00_7 13 rfl
theorem dX0_setTrait_26 : decode cX0_setTrait 26 = .ok (.iload_n 1, 1) := dk_get dk_d00_7 14 rfl
theorem dX0_setTrait_27 : decode cX0_setTrait 27 = .ok (.iadd, 1) := dk_get dk_d00_7 15 rfl
theorem dX0_setTrait_28 : decode cX0_setTrait 28 = .ok (.iload_n 3, 1) := dk_get dk_d00_7 16 rfl
theorem dX0_setTrait_29 : decode cX0_setTrait 29 = .ok (.iastore, 1) := dk_get dk_d00_7 17 rfl
theorem dX0_setTrait_30 : decode cX0_setTrait 30 = .ok (.return_, 1) := dk_get dk_d00_7 18 rfl
theorem dk_d00_8 : dkc cX0_mayPress [(0, .aload_n 0, 1), (1, .iload_n 1, 1), (2, .invokevirtual 49, 3), (5, .ifCond .eq 25, 3), (8, .aload_n 0, 1), (9, .iload_n 1, 1), (10, .iconst 4, 1), (11, .invokevirtual 53, 3), (14, .ifCond .ne 16, 3), (17, .aload_n 0, 1), (18, .iload_n 1, 1), (19, .iconst 1, 1), (20, .invokevirtual 53, 3), (23, .ifCond .eq 7, 3), (26, .iconst 1, 1), (27, .goto 4, 3), (30, .iconst 0, 1), (31, .ireturn, 1)] = true := by decide +kernel
theorem dX0_mayPress_0 : decode cX0_mayPress 0 = .ok (.aload_n 0, 1) := dk_get dk_d00_8 0 rfl
theorem dX0_mayPress_1 : decode cX0_mayPress 1 = .ok (.iload_n 1, 1) := dk_get dk_d00_8 1 rfl
theorem dX0_mayPress_2 : decode cX0_mayPress 2 = .ok (.invokevirtual 49, 3) := dk_get dk_d00_8 2 rfl
theorem dX0_mayPress_5 : decode cX0_mayPress 5 = .ok (.ifCond .eq 25, 3) := dk_get dk_d00_8 3 rfl
theorem dX0_mayPress_8 : decode cX0_mayPress 8 = .ok (.aload_n 0, 1) := dk_get dk_d00_8 4 rfl
theorem dX0_mayPress_9 : decode cX0_mayPress 9 = .ok (.iload_n 1, 1) := dk_get dk_d00_8 5 rfl
theorem dX0_mayPress_10 : decode cX0_mayPress 10 = .ok (.iconst 4, 1) := dk_get dk_d00_8 6 rfl
theorem dX0_mayPress_11 : decode cX0_mayPress 11 = .ok (.invokevirtual 53, 3) := dk_get dk_d00_8 7 rfl
theorem dX0_mayPress_14 : decode cX0_mayPress 14 = .ok (.ifCond .ne 16, 3) := dk_get dk_d00_8 8 rfl
theorem dX0_mayPress_17 : decode cX0_mayPress 17 = .ok (.aload_n 0, 1) := dk_get dk_d00_8 9 rfl
theorem dX0_mayPress_18 : decode cX0_mayPress 18 = .ok (.iload_n 1, 1) := dk_get dk_d00_8 10 rfl
theorem dX0_mayPress_19 : decode cX0_mayPress 19 = .ok (.iconst 1, 1) := dk_get dk_d00_8 11 rfl
theorem dX0_mayPress_20 : decode cX0_mayPress 20 = .ok (.invokevirtual 53, 3) := dk_get dk_d00_8 12 rfl
theorem dX0_mayPress_23 : decode cX0_mayPress 23 = .ok (.ifCond .eq 7, 3) := dk_get dk_d00_8 13 rfl
theorem dX0_mayPress_26 : decode cX0_mayPress 26 = .ok (.iconst 1, 1) := dk_get dk_d00_8 14 rfl
theorem dX0_mayPress_27 : decode cX0_mayPress 27 = .ok (.goto 4, 3) := dk_get dk_d00_8 15 rfl
theorem dX0_mayPress_30 : decode cX0_mayPress 30 = .ok (.iconst 0, 1) := dk_get dk_d00_8 16 rfl
theorem dX0_mayPress_31 : decode cX0_mayPress 31 = .ok (.ireturn, 1) := dk_get dk_d00_8 17 rfl
theorem dk_d00_9 : dkc cX0_cameOfAll [(0, .iconst 0, 1), (1, .istore_n 1, 1), (2, .iconst 0, 1), (3, .istore_n 2, 1), (4, .iload_n 2, 1), (5, .aload_n 0, 1), (6, .getfield 18, 3), (9, .if_icmp .ge 18, 3), (12, .iload_n 1, 1), (13, .aload_n 0, 1), (14, .iload_n 2, 1), (15, .iconst 5, 1), (16, .invokevirtual 53, 3), (19, .iadd, 1), (20, .istore_n 1, 1), (21, .iinc 2 1, 3), (24, .goto (-20), 3), (27, .iload_n 1, 1), (28, .ireturn, 1)] = true := by decide +kernel
theorem dX0_cameOfAll_0 : decode cX0_cameOfAll 0 = .ok (.iconst 0, 1) := dk_get dk_d00_9 0 rfl
theorem dX0_cameOfAll_1 : decode cX0_cameOfAll 1 = .ok (.istore_n 1, 1) := dk_get dk_d00_9 1 rfl
theorem dX0_cameOfAll_2 : decode cX0_cameOfAll 2 = .ok (.iconst 0, 1) := dk_get dk_d00_9 2 rfl
theorem dX0_cameOfAll_3 : decode cX0_cameOfAll 3 = .ok (.istore_n 2, 1) := dk_get dk_d00_9 3 rfl
theorem dX0_cameOfAll_4 : decode cX0_cameOfAll 4 = .ok (.iload_n 2, 1) := dk_get dk_d00_9 4 rfl
theorem dX0_cameOfAll_5 : decode cX0_cameOfAll 5 = .ok (.aload_n 0, 1) := dk_get dk_d00_9 5 rfl
theorem dX0_cameOfAll_6 : decode cX0_cameOfAll 6 = .ok (.getfield 18, 3) := dk_get dk_d00_9 6 rfl
theorem dX0_cameOfAll_9 : decode cX0_cameOfAll 9 = .ok (.if_icmp .ge 18, 3) := dk_get dk_d00_9 7 rfl
theorem dX0_cameOfAll_12 : decode cX0_cameOfAll 12 = .ok (.iload_n 1, 1) := dk_get dk_d00_9 8 rfl
theorem dX0_cameOfAll_13 : decode cX0_cameOfAll 13 = .ok (.aload_n 0, 1) := dk_get dk_d00_9 9 rfl
theorem dX0_cameOfAll_14 : decode cX0_cameOfAll 14 = .ok (.iload_n 2, 1) := dk_get dk_d00_9 10 rfl
theorem dX0_cameOfAll_15 : decode cX0_cameOfAll 15 = .ok (.iconst 5, 1) := dk_get dk_d00_9 11 rfl
theorem dX0_cameOfAll_16 : decode cX0_cameOfAll 16 = .ok (.invokevirtual 53, 3) := dk_get dk_d00_9 12 rfl
theorem dX0_cameOfAll_19 : decode cX0_cameOfAll 19 = .ok (.iadd, 1) := dk_get dk_d00_9 13 rfl
theorem dX0_cameOfAll_20 : decode cX0_cameOfAll 20 = .ok (.istore_n 1, 1) := dk_get dk_d00_9 14 rfl
theorem dX0_cameOfAll_21 : decode cX0_cameOfAll 21 = .ok (.iinc 2 1, 3) := dk_get dk_d00_9 15 rfl
theorem dX0_cameOfAll_24 : decode cX0_cameOfAll 24 = .ok (.goto (-20), 3) := dk_get dk_d00_9 16 rfl
theorem dX0_cameOfAll_27 : decode cX0_cameOfAll 27 = .ok (.iload_n 1, 1) := dk_get dk_d00_9 17 rfl
theorem dX0_cameOfAll_28 : decode cX0_cameOfAll 28 = .ok (.ireturn, 1) := dk_get dk_d00_9 18 rfl
theorem dk_d00_10 : dkc cX0_mark [(0, .iload_n 1, 1), (1, .ifCond .lt 19, 3), (4, .iload_n 1, 1), (5, .sipush 144, 3), (8, .if_icmp .ge 12, 3), (11, .aload_n 0, 1), (12, .getfield 15, 3), (15, .iload_n 1, 1), (16, .iaload, 1), (17, .goto 4, 3), (20, .iconst 0, 1), (21, .ireturn, 1)] = true := by decide +kernel
theorem dX0_mark_0 : decode cX0_mark 0 = .ok (.iload_n 1, 1) := dk_get dk_d00_10 0 rfl
theorem dX0_mark_1 : decode cX0_mark 1 = .ok (.ifCond .lt 19, 3) := dk_get dk_d00_10 1 rfl
theorem dX0_mark_4 : decode cX0_mark 4 = .ok (.iload_n 1, 1) := dk_get dk_d00_10 2 rfl
theorem dX0_mark_5 : decode cX0_mark 5 = .ok (.sipush 144, 3) := dk_get dk_d00_10 3 rfl
theorem dX0_mark_8 : decode cX0_mark 8 = .ok (.if_icmp .ge 12, 3) := dk_get dk_d00_10 4 rfl
theorem dX0_mark_11 : decode cX0_mark 11 = .ok (.aload_n 0, 1) := dk_get dk_d00_10 5 rfl
theorem dX0_mark_12 : decode cX0_mark 12 = .ok (.getfield 15, 3) := dk_get dk_d00_10 6 rfl
theorem dX0_mark_15 : decode cX0_mark 15 = .ok (.iload_n 1, 1) := dk_get dk_d00_10 7 rfl
theorem dX0_mark_16 : decode cX0_mark 16 = .ok (.iaload, 1) := dk_get dk_d00_10 8 rfl
theorem dX0_mark_17 : decode cX0_mark 17 = .ok (.goto 4, 3) := dk_get dk_d00_10 9 rfl
theorem dX0_mark_20 : decode cX0_mark 20 = .ok (.iconst 0, 1) := dk_get dk_d00_10 10 rfl
theorem dX0_mark_21 : decode cX0_mark 21 = .ok (.ireturn, 1) := dk_get dk_d00_10 11 rfl
theorem dk_d00_11 : dkc cX0_marked [(0, .iload_n 1, 1), (1, .ifCond .lt 23, 3), (4, .iload_n 1, 1), (5, .sipush 144, 3), (8, .if_icmp .ge 16, 3), (11, .aload_n 0, 1), (12, .getfield 15, 3), (15, .iload_n 1, 1), (16, .iaload, 1), (17, .ifCond .eq 7, 3), (20, .iconst 1, 1), (21, .goto 4, 3), (24, .iconst 0, 1), (25, .ireturn, 1)] = true := by decide +kernel
theorem dX0_marked_0 : decode cX0_marked 0 = .ok (.iload_n 1, 1) := dk_get dk_d00_11 0 rfl
theorem dX0_marked_1 : decode cX0_marked 1 = .ok (.ifCond .lt 23, 3) := dk_get dk_d00_11 1 rfl
theorem dX0_marked_4 : decode cX0_marked 4 = .ok (.iload_n 1, 1) := dk_get dk_d00_11 2 rfl
theorem dX0_marked_5 : decode cX0_marked 5 = .ok (.sipush 144, 3) := dk_get dk_d00_11 3 rfl
theorem dX0_marked_8 : decode cX0_marked 8 = .ok (.if_icmp .ge 16, 3) := dk_get dk_d00_11 4 rfl
theorem dX0_marked_11 : decode cX0_marked 11 = .ok (.aload_n 0, 1) := dk_get dk_d00_11 5 rfl
theorem dX0_marked_12 : decode cX0_marked 12 = .ok (.getfield 15, 3) := dk_get dk_d00_11 6 rfl
theorem dX0_marked_15 : decode cX0_marked 15 = .ok (.iload_n 1, 1) := dk_get dk_d00_11 7 rfl
theorem dX0_marked_16 : decode cX0_marked 16 = .ok (.iaload, 1) := dk_get dk_d00_11 8 rfl
theorem dX0_marked_17 : decode cX0_marked 17 = .ok (.ifCond .eq 7, 3) := dk_get dk_d00_11 9 rfl
theorem dX0_marked_20 : decode cX0_marked 20 = .ok (.iconst 1, 1) := dk_get dk_d00_11 10 rfl
theorem dX0_marked_21 : decode cX0_marked 21 = .ok (.goto 4, 3) := dk_get dk_d00_11 11 rfl
theorem dX0_marked_24 : decode cX0_marked 24 = .ok (.iconst 0, 1) := dk_get dk_d00_11 12 rfl
theorem dX0_marked_25 : decode cX0_marked 25 = .ok (.ireturn, 1) := dk_get dk_d00_11 13 rfl
theorem dk_d00_12 : dkc cX0_depth [(0, .aload_n 0, 1), (1, .iload_n 1, 1), (2, .invokevirtual 57, 3), (5, .invokestatic 61, 3), (8, .bipush 15, 2), (10, .iand, 1), (11, .ireturn, 1)] = true := by decide +kernel
theorem dX0_depth_0 : decode cX0_depth 0 = .ok (.aload_n 0, 1) := dk_get dk_d00_12 0 rfl
theorem dX0_depth_1 : decode cX0_depth 1 = .ok (.iload_n 1, 1) := dk_get dk_d00_12 1 rfl
theorem dX0_depth_2 : decode cX0_depth 2 = .ok (.invokevirtual 57, 3) := dk_get dk_d00_12 2 rfl
theorem dX0_depth_5 : decode cX0_depth 5 = .ok (.invokestatic 61, 3) := dk_get dk_d00_12 3 rfl
theorem dX0_depth_8 : decode cX0_depth 8 = .ok (.bipush 15, 2) := dk_get dk_d00_12 4 rfl
theorem dX0_depth_10 : decode cX0_depth 10 = .ok (.iand, 1) := dk_get dk_d00_12 5 rfl
theorem dX0_depth_11 : decode cX0_depth 11 = .ok (.ireturn, 1) := dk_get dk_d00_12 6 rfl
theorem dk_d00_13 : dkc cX0_way [(0, .aload_n 0, 1), (1, .iload_n 1, 1), (2, .invokevirtual 57, 3), (5, .iconst 0, 1), (6, .invokestatic 66, 3), (9, .ireturn, 1)] = true := by decide +kernel
theorem dX0_way_0 : decode cX0_way 0 = .ok (.aload_n 0, 1) := dk_get dk_d00_13 0 rfl
theorem dX0_way_1 : decode cX0_way 1 = .ok (.iload_n 1, 1) := dk_get dk_d00_13 1 rfl
theorem dX0_way_2 : decode cX0_way 2 = .ok (.invokevirtual 57, 3) := dk_get dk_d00_13 2 rfl
theorem dX0_way_5 : decode cX0_way 5 = .ok (.iconst 0, 1) := dk_get dk_d00_13 3 rfl
theorem dX0_way_6 : decode cX0_way 6 = .ok (.invokestatic 66, 3) := dk_get dk_d00_13 4 rfl
theorem dX0_way_9 : decode cX0_way 9 = .ok (.ireturn, 1) := dk_get dk_d00_13 5 rfl
theorem dk_d00_14 : dkc cX0_owner [(0, .aload_n 0, 1), (1, .iload_n 1, 1), (2, .invokevirtual 57, 3), (5, .istore_n 2, 1), (6, .iload_n 2, 1), (7, .ifCond .ne 7, 3), (10, .iconst (-1), 1), (11, .goto 9, 3), (14, .iload_n 2, 1), (15, .invokestatic 61, 3), (18, .iconst 4, 1), (19, .ishr, 1), (20, .ireturn, 1)] = true := by decide +kernel
theorem dX0_owner_0 : decode cX0_owner 0 = .ok (.aload_n 0, 1) := dk_get dk_d00_14 0 rfl
theorem dX0_owner_1 : decode cX0_owner 1 = .ok (.iload_n 1, 1) := dk_get dk_d00_14 1 rfl
theorem dX0_owner_2 : decode cX0_owner 2 = .ok (.invokevirtual 57, 3) := dk_get dk_d00_14 2 rfl
theorem dX0_owner_5 : decode cX0_owner 5 = .ok (.istore_n 2, 1) := dk_get dk_d00_14 3 rfl
theorem dX0_owner_6 : decode cX0_owner 6 = .ok (.iload_n 2, 1) := dk_get dk_d00_14 4 rfl
theorem dX0_owner_7 : decode cX0_owner 7 = .ok (.ifCond .ne 7, 3) := dk_get dk_d00_14 5 rfl
theorem dX0_owner_10 : decode cX0_owner 10 = .ok (.iconst (-1), 1) := dk_get dk_d00_14 6 rfl
theorem dX0_owner_11 : decode cX0_owner 11 = .ok (.goto 9, 3) := dk_get dk_d00_14 7 rfl
theorem dX0_owner_14 : decode cX0_owner 14 = .ok (.iload_n 2, 1) := dk_get dk_d00_14 8 rfl
theorem dX0_owner_15 : decode cX0_owner 15 = .ok (.invokestatic 61, 3) := dk_get dk_d00_14 9 rfl
theorem dX0_owner_18 : decode cX0_owner 18 = .ok (.iconst 4, 1) := dk_get dk_d00_14 10 rfl
theorem dX0_owner_19 : decode cX0_owner 19 = .ok (.ishr, 1) := dk_get dk_d00_14 11 rfl
theorem dX0_owner_20 : decode cX0_owner 20 = .ok (.ireturn, 1) := dk_get dk_d00_14 12 rfl
theorem dk_d00_15 : dkc cX0_putMark [(0, .iload_n 1, 1), (1, .ifCond .lt 25, 3), (4, .iload_n 1, 1), (5, .sipush 144, 3), (8, .if_icmp .ge 18, 3), (11, .aload_n 0, 1), (12, .getfield 15, 3), (15, .iload_n 1, 1), (16, .iload_n 3, 1), (17, .iload_n 2, 1), (18, .bipush 16, 2), (20, .imul, 1), (21, .iload 4, 2), (23, .iadd, 1), (24, .imul, 1), (25, .iastore, 1), (26, .return_, 1)] = true := by decide +kernel
theorem dX0_putMark_0 : decode cX0_putMark 0 = .ok (.iload_n 1, 1) := dk_get dk_d00_15 0 rfl
theorem dX0_putMark_1 : decode cX0_putMark 1 = .ok (.ifCond .lt 25, 3) := dk_get dk_d00_15 1 rfl
theorem dX0_putMark_4 : decode cX0_putMark 4 = .ok (.iload_n 1, 1) := dk_get dk_d00_15 2 rfl
theorem dX0_putMark_5 : decode cX0_putMark 5 = .ok (.sipush 144, 3) := dk_get dk_d00_15 3 rfl
theorem dX0_putMark_8 : decode cX0_putMark 8 = .ok (.if_icmp .ge 18, 3) := dk_get dk_d00_15 4 rfl
theorem dX0_putMark_11 : decode cX0_putMark 11 = .ok (.aload_n 0, 1) := dk_get dk_d00_15 5 rfl
theorem dX0_putMark_12 : decode cX0_putMark 12 = .ok (.getfield 15, 3) := dk_get dk_d00_15 6 rfl
theorem dX0_putMark_15 : decode cX0_putMark 15 = .ok (.iload_n 1, 1) := dk_get dk_d00_15 7 rfl
theorem dX0_putMark_16 : decode cX0_putMark 16 = .ok (.iload_n 3, 1) := dk_get dk_d00_15 8 rfl
theorem dX0_putMark_17 : decode cX0_putMark 17 = .ok (.iload_n 2, 1) := dk_get dk_d00_15 9 rfl
theorem dX0_putMark_18 : decode cX0_putMark 18 = .ok (.bipush 16, 2) := dk_get dk_d00_15 10 rfl
theorem dX0_putMark_20 : decode cX0_putMark 20 = .ok (.imul, 1) := dk_get dk_d00_15 11 rfl
theorem dX0_putMark_21 : decode cX0_putMark 21 = .ok (.iload 4, 2) := dk_get dk_d00_15 12 rfl
theorem dX0_putMark_23 : decode cX0_putMark 23 = .ok (.iadd, 1) := dk_get dk_d00_15 13 rfl
theorem dX0_putMark_24 : decode cX0_putMark 24 = .ok (.imul, 1) := dk_get dk_d00_15 14 rfl
theorem dX0_putMark_25 : decode cX0_putMark 25 = .ok (.iastore, 1) := dk_get dk_d00_15 15 rfl
theorem dX0_putMark_26 : decode cX0_putMark 26 = .ok (.return_, 1) := dk_get dk_d00_15 16 rfl
theorem dk_d00_16 : dkc cX0_takeMark [(0, .iload_n 1, 1), (1, .ifCond .lt 17, 3), (4, .iload_n 1, 1), (5, .sipush 144, 3), (8, .if_icmp .ge 10, 3), (11, .aload_n 0, 1), (12, .getfield 15, 3), (15, .iload_n 1, 1), (16, .iconst 0, 1), (17, .iastore, 1), (18, .return_, 1)] = true := by decide +kernel
theorem dX0_takeMark_0 : decode cX0_takeMark 0 = .ok (.iload_n 1, 1) := dk_get dk_d00_16 0 rfl
theorem dX0_takeMark_1 : decode cX0_takeMark 1 = .ok (.ifCond .lt 17, 3) := dk_get dk_d00_16 1 rfl
theorem dX0_takeMark_4 : decode cX0_takeMark 4 = .ok (.iload_n 1, 1) := dk_get dk_d00_16 2 rfl
theorem dX0_takeMark_5 : decode cX0_takeMark 5 = .ok (.sipush 144, 3) := dk_get dk_d00_16 3 rfl
theorem dX0_takeMark_8 : decode cX0_takeMark 8 = .ok (.if_icmp .ge 10, 3) := dk_get dk_d00_16 4 rfl
theorem dX0_takeMark_11 : decode cX0_takeMark 11 = .ok (.aload_n 0, 1) := dk_get dk_d00_16 5 rfl
theorem dX0_takeMark_12 : decode cX0_takeMark 12 = .ok (.getfield 15, 3) := dk_get dk_d00_16 6 rfl
theorem dX0_takeMark_15 : decode cX0_takeMark 15 = .ok (.iload_n 1, 1) := dk_get dk_d00_16 7 rfl
theorem dX0_takeMark_16 : decode cX0_takeMark 16 = .ok (.iconst 0, 1) := dk_get dk_d00_16 8 rfl
theorem dX0_takeMark_17 : decode cX0_takeMark 17 = .ok (.iastore, 1) := dk_get dk_d00_16 9 rfl
theorem dX0_takeMark_18 : decode cX0_takeMark 18 = .ok (.return_, 1) := dk_get dk_d00_16 10 rfl
theorem dk_d00_17 : dkc cX0_thinMark [(0, .aload_n 0, 1), (1, .iload_n 1, 1), (2, .invokevirtual 71, 3), (5, .ifCond .eq 26, 3), (8, .aload_n 0, 1), (9, .iload_n 1, 1), (10, .invokevirtual 74, 3), (13, .iconst 1, 1), (14, .if_icmp .le 17, 3), (17, .aload_n 0, 1), (18, .getfield 15, 3), (21, .iload_n 1, 1), (22, .dup2, 1), (23, .iaload, 1), (24, .aload_n 0, 1), (25, .iload_n 1, 1), (26, .invokevirtual 77, 3), (29, .isub, 1), (30, .iastore, 1), (31, .return_, 1)] = true := by decide +kernel
theorem dX0_thinMark_0 : decode cX0_thinMark 0 = .ok (.aload_n 0, 1) := dk_get dk_d00_17 0 rfl
theorem dX0_thinMark_1 : decode cX0_thinMark 1 = .ok (.iload_n 1, 1) := dk_get dk_d00_17 1 rfl
theorem dX0_thinMark_2 : decode cX0_thinMark 2 = .ok (.invokevirtual 71, 3) := dk_get dk_d00_17 2 rfl
theorem dX0_thinMark_5 : decode cX0_thinMark 5 = .ok (.ifCond .eq 26, 3) := dk_get dk_d00_17 3 rfl
theorem dX0_thinMark_8 : decode cX0_thinMark 8 = .ok (.aload_n 0, 1) := dk_get dk_d00_17 4 rfl
theorem dX0_thinMark_9 : decode cX0_thinMark 9 = .ok (.iload_n 1, 1) := dk_get dk_d00_17 5 rfl
theorem dX0_thinMark_10 : decode cX0_thinMark 10 = .ok (.invokevirtual 74, 3) := dk_get dk_d00_17 6 rfl
theorem dX0_thinMark_13 : decode cX0_thinMark 13 = .ok (.iconst 1, 1) := dk_get dk_d00_17 7 rfl
theorem dX0_thinMark_14 : decode cX0_thinMark 14 = .ok (.if_icmp .le 17, 3) := dk_get dk_d00_17 8 rfl
theorem dX0_thinMark_17 : decode cX0_thinMark 17 = .ok (.aload_n 0, 1) := dk_get dk_d00_17 9 rfl
theorem dX0_thinMark_18 : decode cX0_thinMark 18 = .ok (.getfield 15, 3) := dk_get dk_d00_17 10 rfl
theorem dX0_thinMark_21 : decode cX0_thinMark 21 = .ok (.iload_n 1, 1) := dk_get dk_d00_17 11 rfl
theorem dX0_thinMark_22 : decode cX0_thinMark 22 = .ok (.dup2, 1) := dk_get dk_d00_17 12 rfl
theorem dX0_thinMark_23 : decode cX0_thinMark 23 = .ok (.iaload, 1) := dk_get dk_d00_17 13 rfl
theorem dX0_thinMark_24 : decode cX0_thinMark 24 = .ok (.aload_n 0, 1) := dk_get dk_d00_17 14 rfl
theorem dX0_thinMark_25 : decode cX0_thinMark 25 = .ok (.iload_n 1, 1) := dk_get dk_d00_17 15 rfl
theorem dX0_thinMark_26 : decode cX0_thinMark 26 = .ok (.invokevirtual 77, 3) := dk_get dk_d00_17 16 rfl
theorem dX0_thinMark_29 : decode cX0_thinMark 29 = .ok (.isub, 1) := dk_get dk_d00_17 17 rfl
theorem dX0_thinMark_30 : decode cX0_thinMark 30 = .ok (.iastore, 1) := dk_get dk_d00_17 18 rfl
theorem dX0_thinMark_31 : decode cX0_thinMark 31 = .ok (.return_, 1) := dk_get dk_d00_17 19 rfl
theorem dk_d00_18 : dkc cX0_takeAllMarks [(0, .aload_n 0, 1), (1, .getfield 15, 3), (4, .iconst 0, 1), (5, .invokestatic 80, 3), (8, .return_, 1)] = true := by decide +kernel
theorem dX0_takeAllMarks_0 : decode cX0_takeAllMarks 0 = .ok (.aload_n 0, 1) := dk_get dk_d00_18 0 rfl
theorem dX0_takeAllMarks_1 : decode cX0_takeAllMarks 1 = .ok (.getfield 15, 3) := dk_get dk_d00_18 1 rfl
theorem dX0_takeAllMarks_4 : decode cX0_takeAllMarks 4 = .ok (.iconst 0, 1) := dk_get dk_d00_18 2 rfl
theorem dX0_takeAllMarks_5 : decode cX0_takeAllMarks 5 = .ok (.invokestatic 80, 3) := dk_get dk_d00_18 3 rfl
theorem dX0_takeAllMarks_8 : decode cX0_takeAllMarks 8 = .ok (.return_, 1) := dk_get dk_d00_18 4 rfl
theorem dk_d00_19 : dkc cX0_countMarks [(0, .iconst 0, 1), (1, .istore_n 1, 1), (2, .iconst 0, 1), (3, .istore_n 2, 1), (4, .iload_n 2, 1), (5, .sipush 144, 3), (8, .if_icmp .ge 26, 3), (11, .iload_n 1, 1), (12, .aload_n 0, 1), (13, .getfield 15, 3), (16, .iload_n 2, 1), (17, .iaload, 1), (18, .ifCond .ne 7, 3), (21, .iconst 0, 1), (22, .goto 4, 3), (25, .iconst 1, 1), (26, .iadd, 1), (27, .istore_n 1, 1), (28, .iinc 2 1, 3), (31, .goto (-27), 3), (34, .iload_n 1, 1), (35, .ireturn, 1)] = true := by decide +kernel
theorem dX0_countMarks_0 : decode cX0_countMarks 0 = .ok (.iconst 0, 1) := dk_get dk_d00_19 0 rfl
theorem dX0_countMarks_1 : decode cX0_countMarks 1 = .ok (.istore_n 1, 1) := dk_get dk_d00_19 1 rfl
theorem dX0_countMarks_2 : decode cX0_countMarks 2 = .ok (.iconst 0, 1) := dk_get dk_d00_19 2 rfl
theorem dX0_countMarks_3 : decode cX0_countMarks 3 = .ok (.istore_n 2, 1) := dk_get dk_d00_19 3 rfl
theorem dX0_countMarks_4 : decode cX0_countMarks 4 = .ok (.iload_n 2, 1) := dk_get dk_d00_19 4 rfl
theorem dX0_countMarks_5 : decode cX0_countMarks 5 = .ok (.sipush 144, 3) := dk_get dk_d00_19 5 rfl
theorem dX0_countMarks_8 : decode cX0_countMarks 8 = .ok (.if_icmp .ge 26, 3) := dk_get dk_d00_19 6 rfl
theorem dX0_countMarks_11 : decode cX0_countMarks 11 = .ok (.iload_n 1, 1) := dk_get dk_d00_19 7 rfl
theorem dX0_countMarks_12 : decode cX0_countMarks 12 = .ok (.aload_n 0, 1) := dk_get dk_d00_19 8 rfl
theorem dX0_countMarks_13 : decode cX0_countMarks 13 = .ok (.getfield 15, 3) := dk_get dk_d00_19 9 rfl
theorem dX0_countMarks_16 : decode cX0_countMarks 16 = .ok (.iload_n 2, 1) := dk_get dk_d00_19 10 rfl
theorem dX0_countMarks_17 : decode cX0_countMarks 17 = .ok (.iaload, 1) := dk_get dk_d00_19 11 rfl
theorem dX0_countMarks_18 : decode cX0_countMarks 18 = .ok (.ifCond .ne 7, 3) := dk_get dk_d00_19 12 rfl
theorem dX0_countMarks_21 : decode cX0_countMarks 21 = .ok (.iconst 0, 1) := dk_get dk_d00_19 13 rfl
theorem dX0_countMarks_22 : decode cX0_countMarks 22 = .ok (.goto 4, 3) := dk_get dk_d00_19 14 rfl
theorem dX0_countMarks_25 : decode cX0_countMarks 25 = .ok (.iconst 1, 1) := dk_get dk_d00_19 15 rfl
theorem dX0_countMarks_26 : decode cX0_countMarks 26 = .ok (.iadd, 1) := dk_get dk_d00_19 16 rfl
theorem dX0_countMarks_27 : decode cX0_countMarks 27 = .ok (.istore_n 1, 1) := dk_get dk_d00_19 17 rfl
theorem dX0_countMarks_28 : decode cX0_countMarks 28 = .ok (.iinc 2 1, 3) := dk_get dk_d00_19 18 rfl
theorem dX0_countMarks_31 : decode cX0_countMarks 31 = .ok (.goto (-27), 3) := dk_get dk_d00_19 19 rfl
theorem dX0_countMarks_34 : decode cX0_countMarks 34 = .ok (.iload_n 1, 1) := dk_get dk_d00_19 20 rfl
theorem dX0_countMarks_35 : decode cX0_countMarks 35 = .ok (.ireturn, 1) := dk_get dk_d00_19 21 rfl
theorem dk_d00_20 : dkc cX0_besides [(0, .iload_n 1, 1), (1, .bipush 12, 2), (3, .irem, 1), (4, .istore_n 2, 1), (5, .aload_n 0, 1), (6, .iload_n 1, 1), (7, .bipush 12, 2), (9, .iadd, 1), (10, .invokevirtual 71, 3), (13, .ifCond .eq 7, 3), (16, .iconst 1, 1), (17, .goto 4, 3), (20, .iconst 0, 1), (21, .istore_n 3, 1), (22, .iload_n 3, 1), (23, .aload_n 0, 1), (24, .iload_n 1, 1), (25, .bipush 12, 2), (27, .isub, 1), (28, .invokevirtual 71, 3), (31, .ifCond .eq 7, 3), (34, .iconst 1, 1), (35, .goto 4, 3), (38, .iconst 0, 1), (39, .iadd, 1)] = true := by decide +kernel
theorem dX0_besides_0 : decode cX0_besides 0 = .ok (.iload_n 1, 1) := dk_get dk_d00_20 0 rfl
theorem dX0_besides_1 : decode cX0_besides 1 = .ok (.bipush 12, 2) := dk_get dk_d00_20 1 rfl
theorem dX0_besides_3 : decode cX0_besides 3 = .ok (.irem, 1) := dk_get dk_d00_20 2 rfl
theorem dX0_besides_4 : decode cX0_besides 4 = .ok (.istore_n 2, 1) := dk_get dk_d00_20 3 rfl
theorem dX0_besides_5 : decode cX0_besides 5 = .ok (.aload_n 0, 1) := dk_get dk_d00_20 4 rfl
theorem dX0_besides_6 : decode cX0_besides 6 = .ok (.iload_n 1, 1) := dk_get dk_d00_20 5 rfl
theorem dX0_besides_7 : decode cX0_besides 7 = .ok (.bipush 12, 2) := dk_get dk_d00_20 6 rfl
theorem dX0_besides_9 : decode cX0_besides 9 = .ok (.iadd, 1) := dk_get dk_d00_20 7 rfl
theorem dX0_besides_10 : decode cX0_besides 10 = .ok (.invokevirtual 71, 3) := dk_get dk_d00_20 8 rfl
theorem dX0_besides_13 : decode cX0_besides 13 = .ok (.ifCond .eq 7, 3) := dk_get dk_d00_20 9 rfl
theorem dX0_besides_16 : decode cX0_besides 16 = .ok (.iconst 1, 1) := dk_get dk_d00_20 10 rfl
theorem dX0_besides_17 : decode cX0_besides 17 = .ok (.goto 4, 3) := dk_get dk_d00_20 11 rfl
theorem dX0_besides_20 : decode cX0_besides 20 = .ok (.iconst 0, 1) := dk_get dk_d00_20 12 rfl
theorem dX0_besides_21 : decode cX0_besides 21 = .ok (.istore_n 3, 1) := dk_get dk_d00_20 13 rfl
theorem dX0_besides_22 : decode cX0_besides 22 = .ok (.iload_n 3, 1) := dk_get dk_d00_20 14 rfl
theorem dX0_besides_23 : decode cX0_besides 23 = .ok (.aload_n 0, 1) := dk_get dk_d00_20 15 rfl
theorem dX0_besides_24 : decode cX0_besides 24 = .ok (.iload_n 1, 1) := dk_get dk_d00_20 16 rfl
theorem dX0_besides_25 : decode cX0_besides 25 = .ok (.bipush 12, 2) := dk_get dk_d00_20 17 rfl
theorem dX0_besides_27 : decode cX0_besides 27 = .ok (.isub, 1) := dk_get dk_d00_20 18 rfl
theorem dX0_besides_28 : decode cX0_besides 28 = .ok (.invokevirtual 71, 3) := dk_get dk_d00_20 19 rfl
theorem dX0_besides_31 : decode cX0_besides 31 = .ok (.ifCond .eq 7, 3) := dk_get dk_d00_20 20 rfl
theorem dX0_besides_34 : decode cX0_besides 34 = .ok (.iconst 1, 1) := dk_get dk_d00_20 21 rfl
theorem dX0_besides_35 : decode cX0_besides 35 = .ok (.goto 4, 3) := dk_get dk_d00_20 22 rfl
theorem dX0_besides_38 : decode cX0_besides 38 = .ok (.iconst 0, 1) := dk_get dk_d00_20 23 rfl
theorem dX0_besides_39 : decode cX0_besides 39 = .ok (.iadd, 1) := dk_get dk_d00_20 24 rfl
theorem dk_d00_21 : dkc cX0_besides [(40, .istore_n 3, 1), (41, .iload_n 3, 1), (42, .iload_n 2, 1), (43, .ifCond .le 17, 3), (46, .aload_n 0, 1), (47, .iload_n 1, 1), (48, .iconst 1, 1), (49, .isub, 1), (50, .invokevirtual 71, 3), (53, .ifCond .eq 7, 3), (56, .iconst 1, 1), (57, .goto 4, 3), (60, .iconst 0, 1), (61, .iadd, 1), (62, .istore_n 3, 1), (63, .iload_n 3, 1), (64, .iload_n 2, 1), (65, .bipush 11, 2), (67, .if_icmp .ge 17, 3), (70, .aload_n 0, 1), (71, .iload_n 1, 1), (72, .iconst 1, 1), (73, .iadd, 1), (74, .invokevirtual 71, 3), (77, .ifCond .eq 7, 3)] = true := by decide +kernel
theorem dX0_besides_40 : decode cX0_besides 40 = .ok (.istore_n 3, 1) := dk_get dk_d00_21 0 rfl
theorem dX0_besides_41 : decode cX0_besides 41 = .ok (.iload_n 3, 1) := dk_get dk_d00_21 1 rfl
theorem dX0_besides_42 : decode cX0_besides 42 = .ok (.iload_n 2, 1) := dk_get dk_d00_21 2 rfl
theorem dX0_besides_43 : decode cX0_besides 43 = .ok (.ifCond .le 17, 3) := dk_get dk_d00_21 3 rfl
theorem dX0_besides_46 : decode cX0_besides 46 = .ok (.aload_n 0, 1) := dk_get dk_d00_21 4 rfl
theorem dX0_besides_47 : decode cX0_besides 47 = .ok (.iload_n 1, 1) := dk_get dk_d00_21 5 rfl
theorem dX0_besides_48 : decode cX0_besides 48 = .ok (.iconst 1, 1) := dk_get dk_d00_21 6 rfl
theorem dX0_besides_49 : decode cX0_besides 49 = .ok (.isub, 1) := dk_get dk_d00_21 7 rfl
theorem dX0_besides_50 : decode cX0_besides 50 = .ok (.invokevirtual 71, 3) := dk_get dk_d00_21 8 rfl
theorem dX0_besides_53 : decode cX0_besides 53 = .ok (.ifCond .eq 7, 3) := dk_get dk_d00_21 9 rfl
theorem dX0_besides_56 : decode cX0_besides 56 = .ok (.iconst 1, 1) := dk_get dk_d00_21 10 rfl
theorem dX0_besides_57 : decode cX0_besides 57 = .ok (.goto 4, 3) := dk_get dk_d00_21 11 rfl
theorem dX0_besides_60 : decode cX0_besides 60 = .ok (.iconst 0, 1) := dk_get dk_d00_21 12 rfl
theorem dX0_besides_61 : decode cX0_besides 61 = .ok (.iadd, 1) := dk_get dk_d00_21 13 rfl
theorem dX0_besides_62 : decode cX0_besides 62 = .ok (.istore_n 3, 1) := dk_get dk_d00_21 14 rfl
theorem dX0_besides_63 : decode cX0_besides 63 = .ok (.iload_n 3, 1) := dk_get dk_d00_21 15 rfl
theorem dX0_besides_64 : decode cX0_besides 64 = .ok (.iload_n 2, 1) := dk_get dk_d00_21 16 rfl
theorem dX0_besides_65 : decode cX0_besides 65 = .ok (.bipush 11, 2) := dk_get dk_d00_21 17 rfl
theorem dX0_besides_67 : decode cX0_besides 67 = .ok (.if_icmp .ge 17, 3) := dk_get dk_d00_21 18 rfl
theorem dX0_besides_70 : decode cX0_besides 70 = .ok (.aload_n 0, 1) := dk_get dk_d00_21 19 rfl
theorem dX0_besides_71 : decode cX0_besides 71 = .ok (.iload_n 1, 1) := dk_get dk_d00_21 20 rfl
theorem dX0_besides_72 : decode cX0_besides 72 = .ok (.iconst 1, 1) := dk_get dk_d00_21 21 rfl
theorem dX0_besides_73 : decode cX0_besides 73 = .ok (.iadd, 1) := dk_get dk_d00_21 22 rfl
theorem dX0_besides_74 : decode cX0_besides 74 = .ok (.invokevirtual 71, 3) := dk_get dk_d00_21 23 rfl
theorem dX0_besides_77 : decode cX0_besides 77 = .ok (.ifCond .eq 7, 3) := dk_get dk_d00_21 24 rfl
theorem dk_d00_22 : dkc cX0_besides [(80, .iconst 1, 1), (81, .goto 4, 3), (84, .iconst 0, 1), (85, .iadd, 1), (86, .istore_n 3, 1), (87, .iload_n 3, 1), (88, .ireturn, 1)] = true := by decide +kernel
theorem dX0_besides_80 : decode cX0_besides 80 = .ok (.iconst 1, 1) := dk_get dk_d00_22 0 rfl
theorem dX0_besides_81 : decode cX0_besides 81 = .ok (.goto 4, 3) := dk_get dk_d00_22 1 rfl
theorem dX0_besides_84 : decode cX0_besides 84 = .ok (.iconst 0, 1) := dk_get dk_d00_22 2 rfl
theorem dX0_besides_85 : decode cX0_besides 85 = .ok (.iadd, 1) := dk_get dk_d00_22 3 rfl
theorem dX0_besides_86 : decode cX0_besides 86 = .ok (.istore_n 3, 1) := dk_get dk_d00_22 4 rfl
theorem dX0_besides_87 : decode cX0_besides 87 = .ok (.iload_n 3, 1) := dk_get dk_d00_22 5 rfl
theorem dX0_besides_88 : decode cX0_besides 88 = .ok (.ireturn, 1) := dk_get dk_d00_22 6 rfl
theorem dk_d00_23 : dkc cX0_drawThousand [(0, .aload_n 0, 1), (1, .ldc 86, 2), (3, .aload_n 0, 1), (4, .getfield 37, 3), (7, .imul, 1), (8, .ldc 87, 2), (10, .iadd, 1), (11, .putfield 37, 3), (14, .aload_n 0, 1), (15, .getfield 37, 3), (18, .bipush 8, 2), (20, .iushr, 1), (21, .sipush 1000, 3), (24, .irem, 1), (25, .ireturn, 1)] = true := by decide +kernel
theorem dX0_drawThousand_0 : decode cX0_drawThousand 0 = .ok (.aload_n 0, 1) := dk_get dk_d00_23 0 rfl
theorem dX0_drawThousand_1 : decode cX0_drawThousand 1 = .ok (.ldc 86, 2) := dk_get dk_d00_23 1 rfl
theorem dX0_drawThousand_3 : decode cX0_drawThousand 3 = .ok (.aload_n 0, 1) := dk_get dk_d00_23 2 rfl
theorem dX0_drawThousand_4 : decode cX0_drawThousand 4 = .ok (.getfield 37, 3) := dk_get dk_d00_23 3 rfl
theorem dX0_drawThousand_7 : decode cX0_drawThousand 7 = .ok (.imul, 1) := dk_get dk_d00_23 4 rfl
theorem dX0_drawThousand_8 : decode cX0_drawThousand 8 = .ok (.ldc 87, 2) := dk_get dk_d00_23 5 rfl
theorem dX0_drawThousand_10 : decode cX0_drawThousand 10 = .ok (.iadd, 1) := dk_get dk_d00_23 6 rfl
theorem dX0_drawThousand_11 : decode cX0_drawThousand 11 = .ok (.putfield 37, 3) := dk_get dk_d00_23 7 rfl
theorem dX0_drawThousand_14 : decode cX0_drawThousand 14 = .ok (.aload_n 0, 1) := dk_get dk_d00_23 8 rfl
theorem dX0_drawThousand_15 : decode cX0_drawThousand 15 = .ok (.getfield 37, 3) := dk_get dk_d00_23 9 rfl
theorem dX0_drawThousand_18 : decode cX0_drawThousand 18 = .ok (.bipush 8, 2) := dk_get dk_d00_23 10 rfl
theorem dX0_drawThousand_20 : decode cX0_drawThousand 20 = .ok (.iushr, 1) := dk_get dk_d00_23 11 rfl
theorem dX0_drawThousand_21 : decode cX0_drawThousand 21 = .ok (.sipush 1000, 3) := dk_get dk_d00_23 12 rfl
theorem dX0_drawThousand_24 : decode cX0_drawThousand 24 = .ok (.irem, 1) := dk_get dk_d00_23 13 rfl
theorem dX0_drawThousand_25 : decode cX0_drawThousand 25 = .ok (.ireturn, 1) := dk_get dk_d00_23 14 rfl
theorem dk_d00_24 : dkc cX0_alike [(0, .iconst 0, 1), (1, .istore_n 3, 1), (2, .iconst 0, 1), (3, .istore 4, 2), (5, .iload 4, 2), (7, .aload_n 0, 1), (8, .getfield 18, 3), (11, .if_icmp .ge 32, 3), (14, .aload_n 0, 1), (15, .iload 4, 2), (17, .iconst 0, 1), (18, .invokevirtual 53, 3), (21, .iload_n 1, 1), (22, .ixor, 1), (23, .invokestatic 88, 3), (26, .iload_n 2, 1), (27, .if_icmp .gt 10, 3), (30, .iload_n 3, 1), (31, .iconst 1, 1), (32, .iload 4, 2), (34, .ishl, 1), (35, .ior, 1), (36, .istore_n 3, 1), (37, .iinc 4 1, 3), (40, .goto (-35), 3)] = true := by decide +kernel
theorem dX0_alike_0 : decode cX0_alike 0 = .ok (.iconst 0, 1) := dk_get dk_d00_24 0 rfl
theorem dX0_alike_1 : decode cX0_alike 1 = .ok (.istore_n 3, 1) := dk_get dk_d00_24 1 rfl
theorem dX0_alike_2 : decode cX0_alike 2 = .ok (.iconst 0, 1) := dk_get dk_d00_24 2 rfl
theorem dX0_alike_3 : decode cX0_alike 3 = .ok (.istore 4, 2) := dk_get dk_d00_24 3 rfl
theorem dX0_alike_5 : decode cX0_alike 5 = .ok (.iload 4, 2) := dk_get dk_d00_24 4 rfl
theorem dX0_alike_7 : decode cX0_alike 7 = .ok (.aload_n 0, 1) := dk_get dk_d00_24 5 rfl
theorem dX0_alike_8 : decode cX0_alike 8 = .ok (.getfield 18, 3) := dk_get dk_d00_24 6 rfl
theorem dX0_alike_11 : decode cX0_alike 11 = .ok (.if_icmp .ge 32, 3) := dk_get dk_d00_24 7 rfl
theorem dX0_alike_14 : decode cX0_alike 14 = .ok (.aload_n 0, 1) := dk_get dk_d00_24 8 rfl
theorem dX0_alike_15 : decode cX0_alike 15 = .ok (.iload 4, 2) := dk_get dk_d00_24 9 rfl
theorem dX0_alike_17 : decode cX0_alike 17 = .ok (.iconst 0, 1) := dk_get dk_d00_24 10 rfl
theorem dX0_alike_18 : decode cX0_alike 18 = .ok (.invokevirtual 53, 3) := dk_get dk_d00_24 11 rfl
theorem dX0_alike_21 : decode cX0_alike 21 = .ok (.iload_n 1, 1) := dk_get dk_d00_24 12 rfl
theorem dX0_alike_22 : decode cX0_alike 22 = .ok (.ixor, 1) := dk_get dk_d00_24 13 rfl
theorem dX0_alike_23 : decode cX0_alike 23 = .ok (.invokestatic 88, 3) := dk_get dk_d00_24 14 rfl
theorem dX0_alike_26 : decode cX0_alike 26 = .ok (.iload_n 2, 1) := dk_get dk_d00_24 15 rfl
theorem dX0_alike_27 : decode cX0_alike 27 = .ok (.if_icmp .gt 10, 3) := dk_get dk_d00_24 16 rfl
theorem dX0_alike_30 : decode cX0_alike 30 = .ok (.iload_n 3, 1) := dk_get dk_d00_24 17 rfl
theorem dX0_alike_31 : decode cX0_alike 31 = .ok (.iconst 1, 1) := dk_get dk_d00_24 18 rfl
theorem dX0_alike_32 : decode cX0_alike 32 = .ok (.iload 4, 2) := dk_get dk_d00_24 19 rfl
theorem dX0_alike_34 : decode cX0_alike 34 = .ok (.ishl, 1) := dk_get dk_d00_24 20 rfl
theorem dX0_alike_35 : decode cX0_alike 35 = .ok (.ior, 1) := dk_get dk_d00_24 21 rfl
theorem dX0_alike_36 : decode cX0_alike 36 = .ok (.istore_n 3, 1) := dk_get dk_d00_24 22 rfl
theorem dX0_alike_37 : decode cX0_alike 37 = .ok (.iinc 4 1, 3) := dk_get dk_d00_24 23 rfl
theorem dX0_alike_40 : decode cX0_alike 40 = .ok (.goto (-35), 3) := dk_get dk_d00_24 24 rfl
theorem dk_d00_25 : dkc cX0_alike [(43, .iload_n 3, 1), (44, .ireturn, 1)] = true := by decide +kernel
theorem dX0_alike_43 : decode cX0_alike 43 = .ok (.iload_n 3, 1) := dk_get dk_d00_25 0 rfl
theorem dX0_alike_44 : decode cX0_alike 44 = .ok (.ireturn, 1) := dk_get dk_d00_25 1 rfl
theorem dk_d00_26 : dkc cX0_nearest [(0, .iconst (-1), 1), (1, .istore_n 2, 1), (2, .bipush 9, 2), (4, .istore_n 3, 1), (5, .iconst 0, 1), (6, .istore 4, 2), (8, .iload 4, 2), (10, .aload_n 0, 1), (11, .getfield 18, 3), (14, .if_icmp .ge 35, 3), (17, .aload_n 0, 1), (18, .iload 4, 2), (20, .iconst 0, 1), (21, .invokevirtual 53, 3), (24, .iload_n 1, 1), (25, .ixor, 1), (26, .invokestatic 88, 3), (29, .istore 5, 2), (31, .iload 5, 2), (33, .iload_n 3, 1), (34, .if_icmp .ge 9, 3), (37, .iload 5, 2), (39, .istore_n 3, 1), (40, .iload 4, 2), (42, .istore_n 2, 1)] = true := by decide +kernel
theorem dX0_nearest_0 : decode cX0_nearest 0 = .ok (.iconst (-1), 1) := dk_get dk_d00_26 0 rfl
theorem dX0_nearest_1 : decode cX0_nearest 1 = .ok (.istore_n 2, 1) := dk_get dk_d00_26 1 rfl
theorem dX0_nearest_2 : decode cX0_nearest 2 = .ok (.bipush 9, 2) := dk_get dk_d00_26 2 rfl
theorem dX0_nearest_4 : decode cX0_nearest 4 = .ok (.istore_n 3, 1) := dk_get dk_d00_26 3 rfl
theorem dX0_nearest_5 : decode cX0_nearest 5 = .ok (.iconst 0, 1) := dk_get dk_d00_26 4 rfl
theorem dX0_nearest_6 : decode cX0_nearest 6 = .ok (.istore 4, 2) := dk_get dk_d00_26 5 rfl
theorem dX0_nearest_8 : decode cX0_nearest 8 = .ok (.iload 4, 2) := dk_get dk_d00_26 6 rfl
theorem dX0_nearest_10 : decode cX0_nearest 10 = .ok (.aload_n 0, 1) := dk_get dk_d00_26 7 rfl
theorem dX0_nearest_11 : decode cX0_nearest 11 = .ok (.getfield 18, 3) := dk_get dk_d00_26 8 rfl
theorem dX0_nearest_14 : decode cX0_nearest 14 = .ok (.if_icmp .ge 35, 3) := dk_get dk_d00_26 9 rfl
theorem dX0_nearest_17 : decode cX0_nearest 17 = .ok (.aload_n 0, 1) := dk_get dk_d00_26 10 rfl
theorem dX0_nearest_18 : decode cX0_nearest 18 = .ok (.iload 4, 2) := dk_get dk_d00_26 11 rfl
theorem dX0_nearest_20 : decode cX0_nearest 20 = .ok (.iconst 0, 1) := dk_get dk_d00_26 12 rfl
theorem dX0_nearest_21 : decode cX0_nearest 21 = .ok (.invokevirtual 53, 3) := dk_get dk_d00_26 13 rfl
theorem dX0_nearest_24 : decode cX0_nearest 24 = .ok (.iload_n 1, 1) := dk_get dk_d00_26 14 rfl
theorem dX0_nearest_25 : decode cX0_nearest 25 = .ok (.ixor, 1) := dk_get dk_d00_26 15 rfl
theorem dX0_nearest_26 : decode cX0_nearest 26 = .ok (.invokestatic 88, 3) := dk_get dk_d00_26 16 rfl
theorem dX0_nearest_29 : decode cX0_nearest 29 = .ok (.istore 5, 2) := dk_get dk_d00_26 17 rfl
theorem dX0_nearest_31 : decode cX0_nearest 31 = .ok (.iload 5, 2) := dk_get dk_d00_26 18 rfl
theorem dX0_nearest_33 : decode cX0_nearest 33 = .ok (.iload_n 3, 1) := dk_get dk_d00_26 19 rfl
theorem dX0_nearest_34 : decode cX0_nearest 34 = .ok (.if_icmp .ge 9, 3) := dk_get dk_d00_26 20 rfl
theorem dX0_nearest_37 : decode cX0_nearest 37 = .ok (.iload 5, 2) := dk_get dk_d00_26 21 rfl
theorem dX0_nearest_39 : decode cX0_nearest 39 = .ok (.istore_n 3, 1) := dk_get dk_d00_26 22 rfl
theorem dX0_nearest_40 : decode cX0_nearest 40 = .ok (.iload 4, 2) := dk_get dk_d00_26 23 rfl
theorem dX0_nearest_42 : decode cX0_nearest 42 = .ok (.istore_n 2, 1) := dk_get dk_d00_26 24 rfl
theorem dk_d00_27 : dkc cX0_nearest [(43, .iinc 4 1, 3), (46, .goto (-38), 3), (49, .iload_n 2, 1), (50, .ireturn, 1)] = true := by decide +kernel
theorem dX0_nearest_43 : decode cX0_nearest 43 = .ok (.iinc 4 1, 3) := dk_get dk_d00_27 0 rfl
theorem dX0_nearest_46 : decode cX0_nearest 46 = .ok (.goto (-38), 3) := dk_get dk_d00_27 1 rfl
theorem dX0_nearest_49 : decode cX0_nearest 49 = .ok (.iload_n 2, 1) := dk_get dk_d00_27 2 rfl
theorem dX0_nearest_50 : decode cX0_nearest 50 = .ok (.ireturn, 1) := dk_get dk_d00_27 3 rfl
theorem dk_d00_28 : dkc cX1_init [(0, .aload_n 0, 1), (1, .invokespecial 3, 3), (4, .aload_n 0, 1), (5, .bipush 10, 2), (7, .newarray .int, 2), (9, .putfield 9, 3), (12, .aload_n 0, 1), (13, .bipush 32, 2), (15, .newarray .int, 2), (17, .putfield 15, 3), (20, .aload_n 0, 1), (21, .bipush 100, 2), (23, .newarray .int, 2), (25, .putfield 18, 3), (28, .aload_n 0, 1), (29, .aload_n 1, 1), (30, .putfield 21, 3), (33, .aload_n 0, 1), (34, .aload_n 2, 1), (35, .putfield 25, 3), (38, .aload_n 0, 1), (39, .aload_n 3, 1), (40, .putfield 29, 3), (43, .return_, 1)] = true := by decide +kernel
theorem dX1_init_0 : decode cX1_init 0 = .ok (.aload_n 0, 1) := dk_get dk_d00_28 0 rfl
theorem dX1_init_1 : decode cX1_init 1 = .ok (.invokespecial 3, 3) := dk_get dk_d00_28 1 rfl
theorem dX1_init_4 : decode cX1_init 4 = .ok (.aload_n 0, 1) := dk_get dk_d00_28 2 rfl
theorem dX1_init_5 : decode cX1_init 5 = .ok (.bipush 10, 2) := dk_get dk_d00_28 3 rfl
theorem dX1_init_7 : decode cX1_init 7 = .ok (.newarray .int, 2) := dk_get dk_d00_28 4 rfl
theorem dX1_init_9 : decode cX1_init 9 = .ok (.putfield 9, 3) := dk_get dk_d00_28 5 rfl
theorem dX1_init_12 : decode cX1_init 12 = .ok (.aload_n 0, 1) := dk_get dk_d00_28 6 rfl
theorem dX1_init_13 : decode cX1_init 13 = .ok (.bipush 32, 2) := dk_get dk_d00_28 7 rfl
theorem dX1_init_15 : decode cX1_init 15 = .ok (.newarray .int, 2) := dk_get dk_d00_28 8 rfl
theorem dX1_init_17 : decode cX1_init 17 = .ok (.putfield 15, 3) := dk_get dk_d00_28 9 rfl
theorem dX1_init_20 : decode cX1_init 20 = .ok (.aload_n 0, 1) := dk_get dk_d00_28 10 rfl
theorem dX1_init_21 : decode cX1_init 21 = .ok (.bipush 100, 2) := dk_get dk_d00_28 11 rfl
theorem dX1_init_23 : decode cX1_init 23 = .ok (.newarray .int, 2) := dk_get dk_d00_28 12 rfl
theorem dX1_init_25 : decode cX1_init 25 = .ok (.putfield 18, 3) := dk_get dk_d00_28 13 rfl
theorem dX1_init_28 : decode cX1_init 28 = .ok (.aload_n 0, 1) := dk_get dk_d00_28 14 rfl
theorem dX1_init_29 : decode cX1_init 29 = .ok (.aload_n 1, 1) := dk_get dk_d00_28 15 rfl
theorem dX1_init_30 : decode cX1_init 30 = .ok (.putfield 21, 3) := dk_get dk_d00_28 16 rfl
theorem dX1_init_33 : decode cX1_init 33 = .ok (.aload_n 0, 1) := dk_get dk_d00_28 17 rfl
theorem dX1_init_34 : decode cX1_init 34 = .ok (.aload_n 2, 1) := dk_get dk_d00_28 18 rfl
theorem dX1_init_35 : decode cX1_init 35 = .ok (.putfield 25, 3) := dk_get dk_d00_28 19 rfl
theorem dX1_init_38 : decode cX1_init 38 = .ok (.aload_n 0, 1) := dk_get dk_d00_28 20 rfl
theorem dX1_init_39 : decode cX1_init 39 = .ok (.aload_n 3, 1) := dk_get dk_d00_28 21 rfl
theorem dX1_init_40 : decode cX1_init 40 = .ok (.putfield 29, 3) := dk_get dk_d00_28 22 rfl
theorem dX1_init_43 : decode cX1_init 43 = .ok (.return_, 1) := dk_get dk_d00_28 23 rfl
theorem dk_d00_29 : dkc cX1_comes [(0, .aload_n 0, 1), (1, .iload_n 1, 1), (2, .iconst (-1), 1), (3, .invokevirtual 33, 3), (6, .sipush 500, 3), (9, .bipush 50, 2), (11, .aload_n 0, 1), (12, .getfield 21, 3), (15, .iload_n 1, 1), (16, .iconst 3, 1), (17, .invokevirtual 37, 3), (20, .imul, 1), (21, .iadd, 1), (22, .istore_n 2, 1), (23, .aload_n 0, 1), (24, .getfield 25, 3), (27, .iconst 0, 1), (28, .aaload, 1), (29, .sipush 300, 3), (32, .iload_n 2, 1), (33, .aload_n 0, 1), (34, .getfield 9, 3), (37, .aload_n 0, 1), (38, .getfield 15, 3), (41, .invokevirtual 43, 3)] = true := by decide +kernel
theorem dX1_comes_0 : decode cX1_comes 0 = .ok (.aload_n 0, 1) := dk_get dk_d00_29 0 rfl
theorem dX1_comes_1 : decode cX1_comes 1 = .ok (.iload_n 1, 1) := dk_get dk_d00_29 1 rfl
theorem dX1_comes_2 : decode cX1_comes 2 = .ok (.iconst (-1), 1) := dk_get dk_d00_29 2 rfl
theorem dX1_comes_3 : decode cX1_comes 3 = .ok (.invokevirtual 33, 3) := dk_get dk_d00_29 3 rfl
theorem dX1_comes_6 : decode cX1_comes 6 = .ok (.sipush 500, 3) := dk_get dk_d00_29 4 rfl
theorem dX1_comes_9 : decode cX1_comes 9 = .ok (.bipush 50, 2) := dk_get dk_d00_29 5 rfl
theorem dX1_comes_11 : decode cX1_comes 11 = .ok (.aload_n 0, 1) := dk_get dk_d00_29 6 rfl
theorem dX1_comes_12 : decode cX1_comes 12 = .ok (.getfield 21, 3) := dk_get dk_d00_29 7 rfl
theorem dX1_comes_15 : decode cX1_comes 15 = .ok (.iload_n 1, 1) := dk_get dk_d00_29 8 rfl
theorem dX1_comes_16 : decode cX1_comes 16 = .ok (.iconst 3, 1) := dk_get dk_d00_29 9 rfl
theorem dX1_comes_17 : decode cX1_comes 17 = .ok (.invokevirtual 37, 3) := dk_get dk_d00_29 10 rfl
theorem dX1_comes_20 : decode cX1_comes 20 = .ok (.imul, 1) := dk_get dk_d00_29 11 rfl
theorem dX1_comes_21 : decode cX1_comes 21 = .ok (.iadd, 1) := dk_get dk_d00_29 12 rfl
theorem dX1_comes_22 : decode cX1_comes 22 = .ok (.istore_n 2, 1) := dk_get dk_d00_29 13 rfl
theorem dX1_comes_23 : decode cX1_comes 23 = .ok (.aload_n 0, 1) := dk_get dk_d00_29 14 rfl
theorem dX1_comes_24 : decode cX1_comes 24 = .ok (.getfield 25, 3) := dk_get dk_d00_29 15 rfl
theorem dX1_comes_27 : decode cX1_comes 27 = .ok (.iconst 0, 1) := dk_get dk_d00_29 16 rfl
theorem dX1_comes_28 : decode cX1_comes 28 = .ok (.aaload, 1) := dk_get dk_d00_29 17 rfl
theorem dX1_comes_29 : decode cX1_comes 29 = .ok (.sipush 300, 3) := dk_get dk_d00_29 18 rfl
theorem dX1_comes_32 : decode cX1_comes 32 = .ok (.iload_n 2, 1) := dk_get dk_d00_29 19 rfl
theorem dX1_comes_33 : decode cX1_comes 33 = .ok (.aload_n 0, 1) := dk_get dk_d00_29 20 rfl
theorem dX1_comes_34 : decode cX1_comes 34 = .ok (.getfield 9, 3) := dk_get dk_d00_29 21 rfl
theorem dX1_comes_37 : decode cX1_comes 37 = .ok (.aload_n 0, 1) := dk_get dk_d00_29 22 rfl
theorem dX1_comes_38 : decode cX1_comes 38 = .ok (.getfield 15, 3) := dk_get dk_d00_29 23 rfl
theorem dX1_comes_41 : decode cX1_comes 41 = .ok (.invokevirtual 43, 3) := dk_get dk_d00_29 24 rfl
theorem dk_d00_30 : dkc cX1_comes [(44, .sipush 1000, 3), (47, .invokestatic 49, 3), (50, .ireturn, 1)] = true := by decide +kernel
theorem dX1_comes_44 : decode cX1_comes 44 = .ok (.sipush 1000, 3) := dk_get dk_d00_30 0 rfl
theorem dX1_comes_47 : decode cX1_comes 47 = .ok (.invokestatic 49, 3) := dk_get dk_d00_30 1 rfl
theorem dX1_comes_50 : decode cX1_comes 50 = .ok (.ireturn, 1) := dk_get dk_d00_30 2 rfl
theorem dk_d00_31 : dkc cX1_melts [(0, .aload_n 0, 1), (1, .aload_n 0, 1), (2, .getfield 21, 3), (5, .iload_n 1, 1), (6, .invokevirtual 52, 3), (9, .iload_n 1, 1), (10, .invokevirtual 33, 3), (13, .bipush 100, 2), (15, .aload_n 0, 1), (16, .getfield 21, 3), (19, .getfield 56, 3), (22, .imul, 1), (23, .bipush 50, 2), (25, .aload_n 0, 1), (26, .getfield 21, 3), (29, .iload_n 1, 1), (30, .invokevirtual 60, 3), (33, .imul, 1), (34, .isub, 1), (35, .istore_n 2, 1), (36, .aload_n 0, 1), (37, .getfield 25, 3), (40, .iconst 0, 1), (41, .aaload, 1), (42, .sipush 301, 3)] = true := by decide +kernel
theorem dX1_melts_0 : decode cX1_melts 0 = .ok (.aload_n 0, 1) := dk_get dk_d00_31 0 rfl
theorem dX1_melts_1 : decode cX1_melts 1 = .ok (.aload_n 0, 1) := dk_get dk_d00_31 1 rfl
theorem dX1_melts_2 : decode cX1_melts 2 = .ok (.getfield 21, 3) := dk_get dk_d00_31 2 rfl
theorem dX1_melts_5 : decode cX1_melts 5 = .ok (.iload_n 1, 1) := dk_get dk_d00_31 3 rfl
theorem dX1_melts_6 : decode cX1_melts 6 = .ok (.invokevirtual 52, 3) := dk_get dk_d00_31 4 rfl
theorem dX1_melts_9 : decode cX1_melts 9 = .ok (.iload_n 1, 1) := dk_get dk_d00_31 5 rfl
theorem dX1_melts_10 : decode cX1_melts 10 = .ok (.invokevirtual 33, 3) := dk_get dk_d00_31 6 rfl
theorem dX1_melts_13 : decode cX1_melts 13 = .ok (.bipush 100, 2) := dk_get dk_d00_31 7 rfl
theorem dX1_melts_15 : decode cX1_melts 15 = .ok (.aload_n 0, 1) := dk_get dk_d00_31 8 rfl
theorem dX1_melts_16 : decode cX1_melts 16 = .ok (.getfield 21, 3) := dk_get dk_d00_31 9 rfl
theorem dX1_melts_19 : decode cX1_melts 19 = .ok (.getfield 56, 3) := dk_get dk_d00_31 10 rfl
theorem dX1_melts_22 : decode cX1_melts 22 = .ok (.imul, 1) := dk_get dk_d00_31 11 rfl
theorem dX1_melts_23 : decode cX1_melts 23 = .ok (.bipush 50, 2) := dk_get dk_d00_31 12 rfl
theorem dX1_melts_25 : decode cX1_melts 25 = .ok (.aload_n 0, 1) := dk_get dk_d00_31 13 rfl
theorem dX1_melts_26 : decode cX1_melts 26 = .ok (.getfield 21, 3) := dk_get dk_d00_31 14 rfl
theorem dX1_melts_29 : decode cX1_melts 29 = .ok (.iload_n 1, 1) := dk_get dk_d00_31 15 rfl
theorem dX1_melts_30 : decode cX1_melts 30 = .ok (.invokevirtual 60, 3) := dk_get dk_d00_31 16 rfl
theorem dX1_melts_33 : decode cX1_melts 33 = .ok (.imul, 1) := dk_get dk_d00_31 17 rfl
theorem dX1_melts_34 : decode cX1_melts 34 = .ok (.isub, 1) := dk_get dk_d00_31 18 rfl
theorem dX1_melts_35 : decode cX1_melts 35 = .ok (.istore_n 2, 1) := dk_get dk_d00_31 19 rfl
theorem dX1_melts_36 : decode cX1_melts 36 = .ok (.aload_n 0, 1) := dk_get dk_d00_31 20 rfl
theorem dX1_melts_37 : decode cX1_melts 37 = .ok (.getfield 25, 3) := dk_get dk_d00_31 21 rfl
theorem dX1_melts_40 : decode cX1_melts 40 = .ok (.iconst 0, 1) := dk_get dk_d00_31 22 rfl
theorem dX1_melts_41 : decode cX1_melts 41 = .ok (.aaload, 1) := dk_get dk_d00_31 23 rfl
theorem dX1_melts_42 : decode cX1_melts 42 = .ok (.sipush 301, 3) := dk_get dk_d00_31 24 rfl
theorem dk_d00_32 : dkc cX1_melts [(45, .iload_n 2, 1), (46, .aload_n 0, 1), (47, .getfield 9, 3), (50, .aload_n 0, 1), (51, .getfield 15, 3), (54, .invokevirtual 43, 3), (57, .sipush 1000, 3), (60, .invokestatic 49, 3), (63, .ireturn, 1)] = true := by decide +kernel
theorem dX1_melts_45 : decode cX1_melts 45 = .ok (.iload_n 2, 1) := dk_get dk_d00_32 0 rfl
theorem dX1_melts_46 : decode cX1_melts 46 = .ok (.aload_n 0, 1) := dk_get dk_d00_32 1 rfl
theorem dX1_melts_47 : decode cX1_melts 47 = .ok (.getfield 9, 3) := dk_get dk_d00_32 2 rfl
theorem dX1_melts_50 : decode cX1_melts 50 = .ok (.aload_n 0, 1) := dk_get dk_d00_32 3 rfl
theorem dX1_melts_51 : decode cX1_melts 51 = .ok (.getfield 15, 3) := dk_get dk_d00_32 4 rfl
theorem dX1_melts_54 : decode cX1_melts 54 = .ok (.invokevirtual 43, 3) := dk_get dk_d00_32 5 rfl
theorem dX1_melts_57 : decode cX1_melts 57 = .ok (.sipush 1000, 3) := dk_get dk_d00_32 6 rfl
theorem dX1_melts_60 : decode cX1_melts 60 = .ok (.invokestatic 49, 3) := dk_get dk_d00_32 7 rfl
theorem dX1_melts_63 : decode cX1_melts 63 = .ok (.ireturn, 1) := dk_get dk_d00_32 8 rfl
theorem dk_d00_33 : dkc cX1_weighs [(0, .aload_n 0, 1), (1, .aload_n 0, 1), (2, .getfield 21, 3), (5, .iload_n 1, 1), (6, .invokevirtual 52, 3), (9, .iload_n 1, 1), (10, .invokevirtual 33, 3), (13, .aload_n 0, 1), (14, .getfield 25, 3), (17, .iconst 0, 1), (18, .aaload, 1), (19, .sipush 302, 3), (22, .aload_n 0, 1), (23, .getfield 21, 3), (26, .iload_n 1, 1), (27, .invokevirtual 60, 3), (30, .aload_n 0, 1), (31, .getfield 9, 3), (34, .aload_n 0, 1), (35, .getfield 15, 3), (38, .invokevirtual 43, 3), (41, .bipush 99, 2), (43, .invokestatic 49, 3), (46, .ireturn, 1)] = true := by decide +kernel
theorem dX1_weighs_0 : decode cX1_weighs 0 = .ok (.aload_n 0, 1) := dk_get dk_d00_33 0 rfl
theorem dX1_weighs_1 : decode cX1_weighs 1 = .ok (.aload_n 0, 1) := dk_get dk_d00_33 1 rfl
theorem dX1_weighs_2 : decode cX1_weighs 2 = .ok (.getfield 21, 3) := dk_get dk_d00_33 2 rfl
theorem dX1_weighs_5 : decode cX1_weighs 5 = .ok (.iload_n 1, 1) := dk_get dk_d00_33 3 rfl
theorem dX1_weighs_6 : decode cX1_weighs 6 = .ok (.invokevirtual 52, 3) := dk_get dk_d00_33 4 rfl
theorem dX1_weighs_9 : decode cX1_weighs 9 = .ok (.iload_n 1, 1) := dk_get dk_d00_33 5 rfl
theorem dX1_weighs_10 : decode cX1_weighs 10 = .ok (.invokevirtual 33, 3) := dk_get dk_d00_33 6 rfl
theorem dX1_weighs_13 : decode cX1_weighs 13 = .ok (.aload_n 0, 1) := dk_get dk_d00_33 7 rfl
theorem dX1_weighs_14 : decode cX1_weighs 14 = .ok (.getfield 25, 3) := dk_get dk_d00_33 8 rfl
theorem dX1_weighs_17 : decode cX1_weighs 17 = .ok (.iconst 0, 1) := dk_get dk_d00_33 9 rfl
theorem dX1_weighs_18 : decode cX1_weighs 18 = .ok (.aaload, 1) := dk_get dk_d00_33 10 rfl
theorem dX1_weighs_19 : decode cX1_weighs 19 = .ok (.sipush 302, 3) := dk_get dk_d00_33 11 rfl
theorem dX1_weighs_22 : decode cX1_weighs 22 = .ok (.aload_n 0, 1) := dk_get dk_d00_33 12 rfl
theorem dX1_weighs_23 : decode cX1_weighs 23 = .ok (.getfield 21, 3) := dk_get dk_d00_33 13 rfl
theorem dX1_weighs_26 : decode cX1_weighs 26 = .ok (.iload_n 1, 1) := dk_get dk_d00_33 14 rfl
theorem dX1_weighs_27 : decode cX1_weighs 27 = .ok (.invokevirtual 60, 3) := dk_get dk_d00_33 15 rfl
theorem dX1_weighs_30 : decode cX1_weighs 30 = .ok (.aload_n 0, 1) := dk_get dk_d00_33 16 rfl
theorem dX1_weighs_31 : decode cX1_weighs 31 = .ok (.getfield 9, 3) := dk_get dk_d00_33 17 rfl
theorem dX1_weighs_34 : decode cX1_weighs 34 = .ok (.aload_n 0, 1) := dk_get dk_d00_33 18 rfl
theorem dX1_weighs_35 : decode cX1_weighs 35 = .ok (.getfield 15, 3) := dk_get dk_d00_33 19 rfl
theorem dX1_weighs_38 : decode cX1_weighs 38 = .ok (.invokevirtual 43, 3) := dk_get dk_d00_33 20 rfl
theorem dX1_weighs_41 : decode cX1_weighs 41 = .ok (.bipush 99, 2) := dk_get dk_d00_33 21 rfl
theorem dX1_weighs_43 : decode cX1_weighs 43 = .ok (.invokestatic 49, 3) := dk_get dk_d00_33 22 rfl
theorem dX1_weighs_46 : decode cX1_weighs 46 = .ok (.ireturn, 1) := dk_get dk_d00_33 23 rfl
theorem dk_d00_34 : dkc cX1_layValues [(0, .iload_n 2, 1), (1, .iconst (-1), 1), (2, .if_icmp .eq 7, 3), (5, .iconst 1, 1), (6, .goto 4, 3), (9, .iconst 0, 1), (10, .istore_n 3, 1), (11, .aload_n 0, 1), (12, .getfield 9, 3), (15, .iconst 0, 1), (16, .iload_n 3, 1), (17, .ifCond .eq 14, 3), (20, .aload_n 0, 1), (21, .getfield 21, 3), (24, .iload_n 2, 1), (25, .invokevirtual 63, 3), (28, .goto 12, 3), (31, .aload_n 0, 1), (32, .getfield 21, 3), (35, .iload_n 1, 1), (36, .iconst 1, 1), (37, .invokevirtual 37, 3), (40, .iastore, 1), (41, .aload_n 0, 1), (42, .getfield 9, 3)] = true := by decide +kernel
theorem dX1_layValues_0 : decode cX1_layValues 0 = .ok (.iload_n 2, 1) := dk_get dk_d00_34 0 rfl
theorem dX1_layValues_1 : decode cX1_layValues 1 = .ok (.iconst (-1), 1) := dk_get dk_d00_34 1 rfl
theorem dX1_layValues_2 : decode cX1_layValues 2 = .ok (.if_icmp .eq 7, 3) := dk_get dk_d00_34 2 rfl
theorem dX1_layValues_5 : decode cX1_layValues 5 = .ok (.iconst 1, 1) := dk_get dk_d00_34 3 rfl
theorem dX1_layValues_6 : decode cX1_layValues 6 = .ok (.goto 4, 3) := dk_get dk_d00_34 4 rfl
theorem dX1_layValues_9 : decode cX1_layValues 9 = .ok (.iconst 0, 1) := dk_get dk_d00_34 5 rfl
theorem dX1_layValues_10 : decode cX1_layValues 10 = .ok (.istore_n 3, 1) := dk_get dk_d00_34 6 rfl
theorem dX1_layValues_11 : decode cX1_layValues 11 = .ok (.aload_n 0, 1) := dk_get dk_d00_34 7 rfl
theorem dX1_layValues_12 : decode cX1_layValues 12 = .ok (.getfield 9, 3) := dk_get dk_d00_34 8 rfl
theorem dX1_layValues_15 : decode cX1_layValues 15 = .ok (.iconst 0, 1) := dk_get dk_d00_34 9 rfl
theorem dX1_layValues_16 : decode cX1_layValues 16 = .ok (.iload_n 3, 1) := dk_get dk_d00_34 10 rfl
theorem dX1_layValues_17 : decode cX1_layValues 17 = .ok (.ifCond .eq 14, 3) := dk_get dk_d00_34 11 rfl
theorem dX1_layValues_20 : decode cX1_layValues 20 = .ok (.aload_n 0, 1) := dk_get dk_d00_34 12 rfl
theorem dX1_layValues_21 : decode cX1_layValues 21 = .ok (.getfield 21, 3) := dk_get dk_d00_34 13 rfl
theorem dX1_layValues_24 : decode cX1_layValues 24 = .ok (.iload_n 2, 1) := dk_get dk_d00_34 14 rfl
theorem dX1_layValues_25 : decode cX1_layValues 25 = .ok (.invokevirtual 63, 3) := dk_get dk_d00_34 15 rfl
theorem dX1_layValues_28 : decode cX1_layValues 28 = .ok (.goto 12, 3) := dk_get dk_d00_34 16 rfl
theorem dX1_layValues_31 : decode cX1_layValues 31 = .ok (.aload_n 0, 1) := dk_get dk_d00_34 17 rfl
theorem dX1_layValues_32 : decode cX1_layValues 32 = .ok (.getfield 21, 3) := dk_get dk_d00_34 18 rfl
theorem dX1_layValues_35 : decode cX1_layValues 35 = .ok (.iload_n 1, 1) := dk_get dk_d00_34 19 rfl
theorem dX1_layValues_36 : decode cX1_layValues 36 = .ok (.iconst 1, 1) := dk_get dk_d00_34 20 rfl
theorem dX1_layValues_37 : decode cX1_layValues 37 = .ok (.invokevirtual 37, 3) := dk_get dk_d00_34 21 rfl
theorem dX1_layValues_40 : decode cX1_layValues 40 = .ok (.iastore, 1) := dk_get dk_d00_34 22 rfl
theorem dX1_layValues_41 : decode cX1_layValues 41 = .ok (.aload_n 0, 1) := dk_get dk_d00_34 23 rfl
theorem dX1_layValues_42 : decode cX1_layValues 42 = .ok (.getfield 9, 3) := dk_get dk_d00_34 24 rfl
theorem dk_d00_35 : dkc cX1_layValues [(45, .iconst 1, 1), (46, .aload_n 0, 1), (47, .getfield 21, 3), (50, .iload_n 1, 1), (51, .iconst 3, 1), (52, .invokevirtual 37, 3), (55, .iastore, 1), (56, .aload_n 0, 1), (57, .getfield 9, 3), (60, .iconst 2, 1), (61, .aload_n 0, 1), (62, .getfield 21, 3), (65, .iload_n 1, 1), (66, .iconst 2, 1), (67, .invokevirtual 37, 3), (70, .iastore, 1), (71, .aload_n 0, 1), (72, .getfield 9, 3), (75, .iconst 3, 1), (76, .iload_n 3, 1), (77, .ifCond .eq 14, 3), (80, .aload_n 0, 1), (81, .getfield 21, 3), (84, .iload_n 2, 1), (85, .invokevirtual 60, 3)] = true := by decide +kernel
theorem dX1_layValues_45 : decode cX1_layValues 45 = .ok (.iconst 1, 1) := dk_get dk_d00_35 0 rfl
theorem dX1_layValues_46 : decode cX1_layValues 46 = .ok (.aload_n 0, 1) := dk_get dk_d00_35 1 rfl
theorem dX1_layValues_47 : decode cX1_layValues 47 = .ok (.getfield 21, 3) := dk_get dk_d00_35 2 rfl
theorem dX1_layValues_50 : decode cX1_layValues 50 = .ok (.iload_n 1, 1) := dk_get dk_d00_35 3 rfl
theorem dX1_layValues_51 : decode cX1_layValues 51 = .ok (.iconst 3, 1) := dk_get dk_d00_35 4 rfl
theorem dX1_layValues_52 : decode cX1_layValues 52 = .ok (.invokevirtual 37, 3) := dk_get dk_d00_35 5 rfl
theorem dX1_layValues_55 : decode cX1_layValues 55 = .ok (.iastore, 1) := dk_get dk_d00_35 6 rfl
theorem dX1_layValues_56 : decode cX1_layValues 56 = .ok (.aload_n 0, 1) := dk_get dk_d00_35 7 rfl
theorem dX1_layValues_57 : decode cX1_layValues 57 = .ok (.getfield 9, 3) := dk_get dk_d00_35 8 rfl
theorem dX1_layValues_60 : decode cX1_layValues 60 = .ok (.iconst 2, 1) := dk_get dk_d00_35 9 rfl
theorem dX1_layValues_61 : decode cX1_layValues 61 = .ok (.aload_n 0, 1) := dk_get dk_d00_35 10 rfl
theorem dX1_layValues_62 : decode cX1_layValues 62 = .ok (.getfield 21, 3) := dk_get dk_d00_35 11 rfl
theorem dX1_layValues_65 : decode cX1_layValues 65 = .ok (.iload_n 1, 1) := dk_get dk_d00_35 12 rfl
theorem dX1_layValues_66 : decode cX1_layValues 66 = .ok (.iconst 2, 1) := dk_get dk_d00_35 13 rfl
theorem dX1_layValues_67 : decode cX1_layValues 67 = .ok (.invokevirtual 37, 3) := dk_get dk_d00_35 14 rfl
theorem dX1_layValues_70 : decode cX1_layValues 70 = .ok (.iastore, 1) := dk_get dk_d00_35 15 rfl
theorem dX1_layValues_71 : decode cX1_layValues 71 = .ok (.aload_n 0, 1) := dk_get dk_d00_35 16 rfl
theorem dX1_layValues_72 : decode cX1_layValues 72 = .ok (.getfield 9, 3) := dk_get dk_d00_35 17 rfl
theorem dX1_layValues_75 : decode cX1_layValues 75 = .ok (.iconst 3, 1) := dk_get dk_d00_35 18 rfl
theorem dX1_layValues_76 : decode cX1_layValues 76 = .ok (.iload_n 3, 1) := dk_get dk_d00_35 19 rfl
theorem dX1_layValues_77 : decode cX1_layValues 77 = .ok (.ifCond .eq 14, 3) := dk_get dk_d00_35 20 rfl
theorem dX1_layValues_80 : decode cX1_layValues 80 = .ok (.aload_n 0, 1) := dk_get dk_d00_35 21 rfl
theorem dX1_layValues_81 : decode cX1_layValues 81 = .ok (.getfield 21, 3) := dk_get dk_d00_35 22 rfl
theorem dX1_layValues_84 : decode cX1_layValues 84 = .ok (.iload_n 2, 1) := dk_get dk_d00_35 23 rfl
theorem dX1_layValues_85 : decode cX1_layValues 85 = .ok (.invokevirtual 60, 3) := dk_get dk_d00_35 24 rfl
theorem dk_d00_36 : dkc cX1_layValues [(88, .goto 4, 3), (91, .iconst 0, 1), (92, .iastore, 1), (93, .aload_n 0, 1), (94, .getfield 9, 3), (97, .iconst 4, 1), (98, .aload_n 0, 1), (99, .getfield 21, 3), (102, .getfield 56, 3), (105, .iastore, 1), (106, .aload_n 0, 1), (107, .getfield 9, 3), (110, .iconst 5, 1), (111, .aload_n 0, 1), (112, .getfield 21, 3), (115, .getfield 66, 3), (118, .iastore, 1), (119, .aload_n 0, 1), (120, .getfield 9, 3), (123, .bipush 6, 2), (125, .iload_n 3, 1), (126, .ifCond .eq 10, 3), (129, .iload_n 2, 1), (130, .bipush 12, 2), (132, .idiv, 1)] = true := by decide +kernel
theorem dX1_layValues_88 : decode cX1_layValues 88 = .ok (.goto 4, 3) := dk_get dk_d00_36 0 rfl
theorem dX1_layValues_91 : decode cX1_layValues 91 = .ok (.iconst 0, 1) := dk_get dk_d00_36 1 rfl
theorem dX1_layValues_92 : decode cX1_layValues 92 = .ok (.iastore, 1) := dk_get dk_d00_36 2 rfl
theorem dX1_layValues_93 : decode cX1_layValues 93 = .ok (.aload_n 0, 1) := dk_get dk_d00_36 3 rfl
theorem dX1_layValues_94 : decode cX1_layValues 94 = .ok (.getfield 9, 3) := dk_get dk_d00_36 4 rfl
theorem dX1_layValues_97 : decode cX1_layValues 97 = .ok (.iconst 4, 1) := dk_get dk_d00_36 5 rfl
theorem dX1_layValues_98 : decode cX1_layValues 98 = .ok (.aload_n 0, 1) := dk_get dk_d00_36 6 rfl
theorem dX1_layValues_99 : decode cX1_layValues 99 = .ok (.getfield 21, 3) := dk_get dk_d00_36 7 rfl
theorem dX1_layValues_102 : decode cX1_layValues 102 = .ok (.getfield 56, 3) := dk_get dk_d00_36 8 rfl
theorem dX1_layValues_105 : decode cX1_layValues 105 = .ok (.iastore, 1) := dk_get dk_d00_36 9 rfl
theorem dX1_layValues_106 : decode cX1_layValues 106 = .ok (.aload_n 0, 1) := dk_get dk_d00_36 10 rfl
theorem dX1_layValues_107 : decode cX1_layValues 107 = .ok (.getfield 9, 3) := dk_get dk_d00_36 11 rfl
theorem dX1_layValues_110 : decode cX1_layValues 110 = .ok (.iconst 5, 1) := dk_get dk_d00_36 12 rfl
theorem dX1_layValues_111 : decode cX1_layValues 111 = .ok (.aload_n 0, 1) := dk_get dk_d00_36 13 rfl
theorem dX1_layValues_112 : decode cX1_layValues 112 = .ok (.getfield 21, 3) := dk_get dk_d00_36 14 rfl
theorem dX1_layValues_115 : decode cX1_layValues 115 = .ok (.getfield 66, 3) := dk_get dk_d00_36 15 rfl
theorem dX1_layValues_118 : decode cX1_layValues 118 = .ok (.iastore, 1) := dk_get dk_d00_36 16 rfl
theorem dX1_layValues_119 : decode cX1_layValues 119 = .ok (.aload_n 0, 1) := dk_get dk_d00_36 17 rfl
theorem dX1_layValues_120 : decode cX1_layValues 120 = .ok (.getfield 9, 3) := dk_get dk_d00_36 18 rfl
theorem dX1_layValues_123 : decode cX1_layValues 123 = .ok (.bipush 6, 2) := dk_get dk_d00_36 19 rfl
theorem dX1_layValues_125 : decode cX1_layValues 125 = .ok (.iload_n 3, 1) := dk_get dk_d00_36 20 rfl
theorem dX1_layValues_126 : decode cX1_layValues 126 = .ok (.ifCond .eq 10, 3) := dk_get dk_d00_36 21 rfl
theorem dX1_layValues_129 : decode cX1_layValues 129 = .ok (.iload_n 2, 1) := dk_get dk_d00_36 22 rfl
theorem dX1_layValues_130 : decode cX1_layValues 130 = .ok (.bipush 12, 2) := dk_get dk_d00_36 23 rfl
theorem dX1_layValues_132 : decode cX1_layValues 132 = .ok (.idiv, 1) := dk_get dk_d00_36 24 rfl
theorem dk_d00_37 : dkc cX1_layValues [(133, .goto 4, 3), (136, .iconst 0, 1), (137, .iastore, 1), (138, .aload_n 0, 1), (139, .getfield 9, 3), (142, .bipush 7, 2), (144, .iload_n 3, 1), (145, .ifCond .eq 14, 3), (148, .aload_n 0, 1), (149, .getfield 21, 3), (152, .iload_n 2, 1), (153, .invokevirtual 69, 3), (156, .goto 4, 3), (159, .iconst 0, 1), (160, .iastore, 1), (161, .aload_n 0, 1), (162, .getfield 9, 3), (165, .bipush 8, 2), (167, .aload_n 0, 1), (168, .getfield 21, 3), (171, .iload_n 1, 1), (172, .iconst 5, 1), (173, .invokevirtual 37, 3), (176, .iastore, 1), (177, .aload_n 0, 1)] = true := by decide +kernel
theorem dX1_layValues_133 : decode cX1_layValues 133 = .ok (.goto 4, 3) := dk_get dk_d00_37 0 rfl
theorem dX1_layValues_136 : decode cX1_layValues 136 = .ok (.iconst 0, 1) := dk_get dk_d00_37 1 rfl
theorem dX1_layValues_137 : decode cX1_layValues 137 = .ok (.iastore, 1) := dk_get dk_d00_37 2 rfl
theorem dX1_layValues_138 : decode cX1_layValues 138 = .ok (.aload_n 0, 1) := dk_get dk_d00_37 3 rfl
theorem dX1_layValues_139 : decode cX1_layValues 139 = .ok (.getfield 9, 3) := dk_get dk_d00_37 4 rfl
theorem dX1_layValues_142 : decode cX1_layValues 142 = .ok (.bipush 7, 2) := dk_get dk_d00_37 5 rfl
theorem dX1_layValues_144 : decode cX1_layValues 144 = .ok (.iload_n 3, 1) := dk_get dk_d00_37 6 rfl
theorem dX1_layValues_145 : decode cX1_layValues 145 = .ok (.ifCond .eq 14, 3) := dk_get dk_d00_37 7 rfl
theorem dX1_layValues_148 : decode cX1_layValues 148 = .ok (.aload_n 0, 1) := dk_get dk_d00_37 8 rfl
theorem dX1_layValues_149 : decode cX1_layValues 149 = .ok (.getfield 21, 3) := dk_get dk_d00_37 9 rfl
theorem dX1_layValues_152 : decode cX1_layValues 152 = .ok (.iload_n 2, 1) := dk_get dk_d00_37 10 rfl
theorem dX1_layValues_153 : decode cX1_layValues 153 = .ok (.invokevirtual 69, 3) := dk_get dk_d00_37 11 rfl
theorem dX1_layValues_156 : decode cX1_layValues 156 = .ok (.goto 4, 3) := dk_get dk_d00_37 12 rfl
theorem dX1_layValues_159 : decode cX1_layValues 159 = .ok (.iconst 0, 1) := dk_get dk_d00_37 13 rfl
theorem dX1_layValues_160 : decode cX1_layValues 160 = .ok (.iastore, 1) := dk_get dk_d00_37 14 rfl
theorem dX1_layValues_161 : decode cX1_layValues 161 = .ok (.aload_n 0, 1) := dk_get dk_d00_37 15 rfl
theorem dX1_layValues_162 : decode cX1_layValues 162 = .ok (.getfield 9, 3) := dk_get dk_d00_37 16 rfl
theorem dX1_layValues_165 : decode cX1_layValues 165 = .ok (.bipush 8, 2) := dk_get dk_d00_37 17 rfl
theorem dX1_layValues_167 : decode cX1_layValues 167 = .ok (.aload_n 0, 1) := dk_get dk_d00_37 18 rfl
theorem dX1_layValues_168 : decode cX1_layValues 168 = .ok (.getfield 21, 3) := dk_get dk_d00_37 19 rfl
theorem dX1_layValues_171 : decode cX1_layValues 171 = .ok (.iload_n 1, 1) := dk_get dk_d00_37 20 rfl
theorem dX1_layValues_172 : decode cX1_layValues 172 = .ok (.iconst 5, 1) := dk_get dk_d00_37 21 rfl
theorem dX1_layValues_173 : decode cX1_layValues 173 = .ok (.invokevirtual 37, 3) := dk_get dk_d00_37 22 rfl
theorem dX1_layValues_176 : decode cX1_layValues 176 = .ok (.iastore, 1) := dk_get dk_d00_37 23 rfl
theorem dX1_layValues_177 : decode cX1_layValues 177 = .ok (.aload_n 0, 1) := dk_get dk_d00_37 24 rfl
theorem dk_d00_38 : dkc cX1_layValues [(178, .getfield 9, 3), (181, .bipush 9, 2), (183, .aload_n 0, 1), (184, .getfield 21, 3), (187, .getfield 72, 3), (190, .iastore, 1), (191, .return_, 1)] = true := by decide +kernel
theorem dX1_layValues_178 : decode cX1_layValues 178 = .ok (.getfield 9, 3) := dk_get dk_d00_38 0 rfl
theorem dX1_layValues_181 : decode cX1_layValues 181 = .ok (.bipush 9, 2) := dk_get dk_d00_38 1 rfl
theorem dX1_layValues_183 : decode cX1_layValues 183 = .ok (.aload_n 0, 1) := dk_get dk_d00_38 2 rfl
theorem dX1_layValues_184 : decode cX1_layValues 184 = .ok (.getfield 21, 3) := dk_get dk_d00_38 3 rfl
theorem dX1_layValues_187 : decode cX1_layValues 187 = .ok (.getfield 72, 3) := dk_get dk_d00_38 4 rfl
theorem dX1_layValues_190 : decode cX1_layValues 190 = .ok (.iastore, 1) := dk_get dk_d00_38 5 rfl
theorem dX1_layValues_191 : decode cX1_layValues 191 = .ok (.return_, 1) := dk_get dk_d00_38 6 rfl
theorem dk_d00_39 : dkc cX1_held [(0, .iconst 0, 1), (1, .iload_n 1, 1), (2, .iload_n 0, 1), (3, .invokestatic 75, 3), (6, .invokestatic 80, 3), (9, .ireturn, 1)] = true := by decide +kernel
theorem dX1_held_0 : decode cX1_held 0 = .ok (.iconst 0, 1) := dk_get dk_d00_39 0 rfl
theorem dX1_held_1 : decode cX1_held 1 = .ok (.iload_n 1, 1) := dk_get dk_d00_39 1 rfl
theorem dX1_held_2 : decode cX1_held 2 = .ok (.iload_n 0, 1) := dk_get dk_d00_39 2 rfl
theorem dX1_held_3 : decode cX1_held 3 = .ok (.invokestatic 75, 3) := dk_get dk_d00_39 3 rfl
theorem dX1_held_6 : decode cX1_held 6 = .ok (.invokestatic 80, 3) := dk_get dk_d00_39 4 rfl
theorem dX1_held_9 : decode cX1_held 9 = .ok (.ireturn, 1) := dk_get dk_d00_39 5 rfl
theorem dk_d00_40 : dkc cX1_sum [(0, .iconst 0, 1), (1, .istore_n 1, 1), (2, .iconst 0, 1), (3, .istore_n 2, 1), (4, .iload_n 2, 1), (5, .sipush 144, 3), (8, .if_icmp .ge 37, 3), (11, .aload_n 0, 1), (12, .getfield 21, 3), (15, .iload_n 2, 1), (16, .invokevirtual 83, 3), (19, .ifCond .eq 20, 3), (22, .iload_n 1, 1), (23, .aload_n 0, 1), (24, .getfield 21, 3), (27, .iload_n 2, 1), (28, .invokevirtual 63, 3), (31, .aload_n 0, 1), (32, .iload_n 2, 1), (33, .invokevirtual 87, 3), (36, .imul, 1), (37, .iadd, 1), (38, .istore_n 1, 1), (39, .iinc 2 1, 3), (42, .goto (-38), 3)] = true := by decide +kernel
theorem dX1_sum_0 : decode cX1_sum 0 = .ok (.iconst 0, 1) := dk_get dk_d00_40 0 rfl
theorem dX1_sum_1 : decode cX1_sum 1 = .ok (.istore_n 1, 1) := dk_get dk_d00_40 1 rfl
theorem dX1_sum_2 : decode cX1_sum 2 = .ok (.iconst 0, 1) := dk_get dk_d00_40 2 rfl
theorem dX1_sum_3 : decode cX1_sum 3 = .ok (.istore_n 2, 1) := dk_get dk_d00_40 3 rfl
theorem dX1_sum_4 : decode cX1_sum 4 = .ok (.iload_n 2, 1) := dk_get dk_d00_40 4 rfl
theorem dX1_sum_5 : decode cX1_sum 5 = .ok (.sipush 144, 3) := dk_get dk_d00_40 5 rfl
theorem dX1_sum_8 : decode cX1_sum 8 = .ok (.if_icmp .ge 37, 3) := dk_get dk_d00_40 6 rfl
theorem dX1_sum_11 : decode cX1_sum 11 = .ok (.aload_n 0, 1) := dk_get dk_d00_40 7 rfl
theorem dX1_sum_12 : decode cX1_sum 12 = .ok (.getfield 21, 3) := dk_get dk_d00_40 8 rfl
theorem dX1_sum_15 : decode cX1_sum 15 = .ok (.iload_n 2, 1) := dk_get dk_d00_40 9 rfl
theorem dX1_sum_16 : decode cX1_sum 16 = .ok (.invokevirtual 83, 3) := dk_get dk_d00_40 10 rfl
theorem dX1_sum_19 : decode cX1_sum 19 = .ok (.ifCond .eq 20, 3) := dk_get dk_d00_40 11 rfl
theorem dX1_sum_22 : decode cX1_sum 22 = .ok (.iload_n 1, 1) := dk_get dk_d00_40 12 rfl
theorem dX1_sum_23 : decode cX1_sum 23 = .ok (.aload_n 0, 1) := dk_get dk_d00_40 13 rfl
theorem dX1_sum_24 : decode cX1_sum 24 = .ok (.getfield 21, 3) := dk_get dk_d00_40 14 rfl
theorem dX1_sum_27 : decode cX1_sum 27 = .ok (.iload_n 2, 1) := dk_get dk_d00_40 15 rfl
theorem dX1_sum_28 : decode cX1_sum 28 = .ok (.invokevirtual 63, 3) := dk_get dk_d00_40 16 rfl
theorem dX1_sum_31 : decode cX1_sum 31 = .ok (.aload_n 0, 1) := dk_get dk_d00_40 17 rfl
theorem dX1_sum_32 : decode cX1_sum 32 = .ok (.iload_n 2, 1) := dk_get dk_d00_40 18 rfl
theorem dX1_sum_33 : decode cX1_sum 33 = .ok (.invokevirtual 87, 3) := dk_get dk_d00_40 19 rfl
theorem dX1_sum_36 : decode cX1_sum 36 = .ok (.imul, 1) := dk_get dk_d00_40 20 rfl
theorem dX1_sum_37 : decode cX1_sum 37 = .ok (.iadd, 1) := dk_get dk_d00_40 21 rfl
theorem dX1_sum_38 : decode cX1_sum 38 = .ok (.istore_n 1, 1) := dk_get dk_d00_40 22 rfl
theorem dX1_sum_39 : decode cX1_sum 39 = .ok (.iinc 2 1, 3) := dk_get dk_d00_40 23 rfl
theorem dX1_sum_42 : decode cX1_sum 42 = .ok (.goto (-38), 3) := dk_get dk_d00_40 24 rfl
theorem dk_d00_41 : dkc cX1_sum [(45, .iload_n 1, 1), (46, .ireturn, 1)] = true := by decide +kernel
theorem dX1_sum_45 : decode cX1_sum 45 = .ok (.iload_n 1, 1) := dk_get dk_d00_41 0 rfl
theorem dX1_sum_46 : decode cX1_sum 46 = .ok (.ireturn, 1) := dk_get dk_d00_41 1 rfl
theorem dk_d00_42 : dkc cX1_turned [(0, .aload_n 0, 1), (1, .getfield 18, 3), (4, .iconst 0, 1), (5, .invokestatic 90, 3), (8, .iconst 0, 1), (9, .istore_n 1, 1), (10, .iconst 0, 1), (11, .istore_n 2, 1), (12, .iload_n 2, 1), (13, .sipush 144, 3), (16, .if_icmp .ge 73, 3), (19, .aload_n 0, 1), (20, .getfield 21, 3), (23, .iload_n 2, 1), (24, .invokevirtual 83, 3), (27, .ifCond .eq 56, 3), (30, .aload_n 0, 1), (31, .iload_n 2, 1), (32, .invokevirtual 87, 3), (35, .istore_n 3, 1), (36, .iload_n 1, 1), (37, .aload_n 0, 1), (38, .getfield 21, 3), (41, .iload_n 2, 1), (42, .invokevirtual 63, 3)] = true := by decide +kernel
theorem dX1_turned_0 : decode cX1_turned 0 = .ok (.aload_n 0, 1) := dk_get dk_d00_42 0 rfl
theorem dX1_turned_1 : decode cX1_turned 1 = .ok (.getfield 18, 3) := dk_get dk_d00_42 1 rfl
theorem dX1_turned_4 : decode cX1_turned 4 = .ok (.iconst 0, 1) := dk_get dk_d00_42 2 rfl
theorem dX1_turned_5 : decode cX1_turned 5 = .ok (.invokestatic 90, 3) := dk_get dk_d00_42 3 rfl
theorem dX1_turned_8 : decode cX1_turned 8 = .ok (.iconst 0, 1) := dk_get dk_d00_42 4 rfl
theorem dX1_turned_9 : decode cX1_turned 9 = .ok (.istore_n 1, 1) := dk_get dk_d00_42 5 rfl
theorem dX1_turned_10 : decode cX1_turned 10 = .ok (.iconst 0, 1) := dk_get dk_d00_42 6 rfl
theorem dX1_turned_11 : decode cX1_turned 11 = .ok (.istore_n 2, 1) := dk_get dk_d00_42 7 rfl
theorem dX1_turned_12 : decode cX1_turned 12 = .ok (.iload_n 2, 1) := dk_get dk_d00_42 8 rfl
theorem dX1_turned_13 : decode cX1_turned 13 = .ok (.sipush 144, 3) := dk_get dk_d00_42 9 rfl
theorem dX1_turned_16 : decode cX1_turned 16 = .ok (.if_icmp .ge 73, 3) := dk_get dk_d00_42 10 rfl
theorem dX1_turned_19 : decode cX1_turned 19 = .ok (.aload_n 0, 1) := dk_get dk_d00_42 11 rfl
theorem dX1_turned_20 : decode cX1_turned 20 = .ok (.getfield 21, 3) := dk_get dk_d00_42 12 rfl
theorem dX1_turned_23 : decode cX1_turned 23 = .ok (.iload_n 2, 1) := dk_get dk_d00_42 13 rfl
theorem dX1_turned_24 : decode cX1_turned 24 = .ok (.invokevirtual 83, 3) := dk_get dk_d00_42 14 rfl
theorem dX1_turned_27 : decode cX1_turned 27 = .ok (.ifCond .eq 56, 3) := dk_get dk_d00_42 15 rfl
theorem dX1_turned_30 : decode cX1_turned 30 = .ok (.aload_n 0, 1) := dk_get dk_d00_42 16 rfl
theorem dX1_turned_31 : decode cX1_turned 31 = .ok (.iload_n 2, 1) := dk_get dk_d00_42 17 rfl
theorem dX1_turned_32 : decode cX1_turned 32 = .ok (.invokevirtual 87, 3) := dk_get dk_d00_42 18 rfl
theorem dX1_turned_35 : decode cX1_turned 35 = .ok (.istore_n 3, 1) := dk_get dk_d00_42 19 rfl
theorem dX1_turned_36 : decode cX1_turned 36 = .ok (.iload_n 1, 1) := dk_get dk_d00_42 20 rfl
theorem dX1_turned_37 : decode cX1_turned 37 = .ok (.aload_n 0, 1) := dk_get dk_d00_42 21 rfl
theorem dX1_turned_38 : decode cX1_turned 38 = .ok (.getfield 21, 3) := dk_get dk_d00_42 22 rfl
theorem dX1_turned_41 : decode cX1_turned 41 = .ok (.iload_n 2, 1) := dk_get dk_d00_42 23 rfl
theorem dX1_turned_42 : decode cX1_turned 42 = .ok (.invokevirtual 63, 3) := dk_get dk_d00_42 24 rfl
theorem dk_d00_43 : dkc cX1_turned [(45, .iload_n 3, 1), (46, .imul, 1), (47, .iadd, 1), (48, .istore_n 1, 1), (49, .aload_n 0, 1), (50, .getfield 21, 3), (53, .iload_n 2, 1), (54, .invokevirtual 63, 3), (57, .ifCond .ge 26, 3), (60, .iload_n 3, 1), (61, .ifCond .lt 22, 3), (64, .iload_n 3, 1), (65, .aload_n 0, 1), (66, .getfield 18, 3), (69, .arraylength, 1), (70, .if_icmp .ge 13, 3), (73, .aload_n 0, 1), (74, .getfield 18, 3), (77, .iload_n 3, 1), (78, .dup2, 1), (79, .iaload, 1), (80, .iconst 1, 1), (81, .iadd, 1), (82, .iastore, 1), (83, .iinc 2 1, 3)] = true := by decide +kernel
theorem dX1_turned_45 : decode cX1_turned 45 = .ok (.iload_n 3, 1) := dk_get dk_d00_43 0 rfl
theorem dX1_turned_46 : decode cX1_turned 46 = .ok (.imul, 1) := dk_get dk_d00_43 1 rfl
theorem dX1_turned_47 : decode cX1_turned 47 = .ok (.iadd, 1) := dk_get dk_d00_43 2 rfl
theorem dX1_turned_48 : decode cX1_turned 48 = .ok (.istore_n 1, 1) := dk_get dk_d00_43 3 rfl
theorem dX1_turned_49 : decode cX1_turned 49 = .ok (.aload_n 0, 1) := dk_get dk_d00_43 4 rfl
theorem dX1_turned_50 : decode cX1_turned 50 = .ok (.getfield 21, 3) := dk_get dk_d00_43 5 rfl
theorem dX1_turned_53 : decode cX1_turned 53 = .ok (.iload_n 2, 1) := dk_get dk_d00_43 6 rfl
theorem dX1_turned_54 : decode cX1_turned 54 = .ok (.invokevirtual 63, 3) := dk_get dk_d00_43 7 rfl
theorem dX1_turned_57 : decode cX1_turned 57 = .ok (.ifCond .ge 26, 3) := dk_get dk_d00_43 8 rfl
theorem dX1_turned_60 : decode cX1_turned 60 = .ok (.iload_n 3, 1) := dk_get dk_d00_43 9 rfl
theorem dX1_turned_61 : decode cX1_turned 61 = .ok (.ifCond .lt 22, 3) := dk_get dk_d00_43 10 rfl
theorem dX1_turned_64 : decode cX1_turned 64 = .ok (.iload_n 3, 1) := dk_get dk_d00_43 11 rfl
theorem dX1_turned_65 : decode cX1_turned 65 = .ok (.aload_n 0, 1) := dk_get dk_d00_43 12 rfl
theorem dX1_turned_66 : decode cX1_turned 66 = .ok (.getfield 18, 3) := dk_get dk_d00_43 13 rfl
theorem dX1_turned_69 : decode cX1_turned 69 = .ok (.arraylength, 1) := dk_get dk_d00_43 14 rfl
theorem dX1_turned_70 : decode cX1_turned 70 = .ok (.if_icmp .ge 13, 3) := dk_get dk_d00_43 15 rfl
theorem dX1_turned_73 : decode cX1_turned 73 = .ok (.aload_n 0, 1) := dk_get dk_d00_43 16 rfl
theorem dX1_turned_74 : decode cX1_turned 74 = .ok (.getfield 18, 3) := dk_get dk_d00_43 17 rfl
theorem dX1_turned_77 : decode cX1_turned 77 = .ok (.iload_n 3, 1) := dk_get dk_d00_43 18 rfl
theorem dX1_turned_78 : decode cX1_turned 78 = .ok (.dup2, 1) := dk_get dk_d00_43 19 rfl
theorem dX1_turned_79 : decode cX1_turned 79 = .ok (.iaload, 1) := dk_get dk_d00_43 20 rfl
theorem dX1_turned_80 : decode cX1_turned 80 = .ok (.iconst 1, 1) := dk_get dk_d00_43 21 rfl
theorem dX1_turned_81 : decode cX1_turned 81 = .ok (.iadd, 1) := dk_get dk_d00_43 22 rfl
theorem dX1_turned_82 : decode cX1_turned 82 = .ok (.iastore, 1) := dk_get dk_d00_43 23 rfl
theorem dX1_turned_83 : decode cX1_turned 83 = .ok (.iinc 2 1, 3) := dk_get dk_d00_43 24 rfl
theorem dk_d00_44 : dkc cX1_turned [(86, .goto (-74), 3), (89, .iconst 0, 1), (90, .istore_n 2, 1), (91, .bipush 99, 2), (93, .istore_n 3, 1), (94, .iload_n 3, 1), (95, .ifCond .le 40, 3), (98, .iconst 0, 1), (99, .istore 4, 2), (101, .iload 4, 2), (103, .aload_n 0, 1), (104, .getfield 18, 3), (107, .iload_n 3, 1), (108, .iaload, 1), (109, .if_icmp .ge 20, 3), (112, .iload_n 1, 1), (113, .ifCond .gt 16, 3), (116, .iload_n 1, 1), (117, .iload_n 3, 1), (118, .iadd, 1), (119, .istore_n 1, 1), (120, .iinc 2 1, 3), (123, .iinc 4 1, 3), (126, .goto (-25), 3), (129, .iinc 3 (-1), 3)] = true := by decide +kernel
theorem dX1_turned_86 : decode cX1_turned 86 = .ok (.goto (-74), 3) := dk_get dk_d00_44 0 rfl
theorem dX1_turned_89 : decode cX1_turned 89 = .ok (.iconst 0, 1) := dk_get dk_d00_44 1 rfl
theorem dX1_turned_90 : decode cX1_turned 90 = .ok (.istore_n 2, 1) := dk_get dk_d00_44 2 rfl
theorem dX1_turned_91 : decode cX1_turned 91 = .ok (.bipush 99, 2) := dk_get dk_d00_44 3 rfl
theorem dX1_turned_93 : decode cX1_turned 93 = .ok (.istore_n 3, 1) := dk_get dk_d00_44 4 rfl
theorem dX1_turned_94 : decode cX1_turned 94 = .ok (.iload_n 3, 1) := dk_get dk_d00_44 5 rfl
theorem dX1_turned_95 : decode cX1_turned 95 = .ok (.ifCond .le 40, 3) := dk_get dk_d00_44 6 rfl
theorem dX1_turned_98 : decode cX1_turned 98 = .ok (.iconst 0, 1) := dk_get dk_d00_44 7 rfl
theorem dX1_turned_99 : decode cX1_turned 99 = .ok (.istore 4, 2) := dk_get dk_d00_44 8 rfl
theorem dX1_turned_101 : decode cX1_turned 101 = .ok (.iload 4, 2) := dk_get dk_d00_44 9 rfl
theorem dX1_turned_103 : decode cX1_turned 103 = .ok (.aload_n 0, 1) := dk_get dk_d00_44 10 rfl
theorem dX1_turned_104 : decode cX1_turned 104 = .ok (.getfield 18, 3) := dk_get dk_d00_44 11 rfl
theorem dX1_turned_107 : decode cX1_turned 107 = .ok (.iload_n 3, 1) := dk_get dk_d00_44 12 rfl
theorem dX1_turned_108 : decode cX1_turned 108 = .ok (.iaload, 1) := dk_get dk_d00_44 13 rfl
theorem dX1_turned_109 : decode cX1_turned 109 = .ok (.if_icmp .ge 20, 3) := dk_get dk_d00_44 14 rfl
theorem dX1_turned_112 : decode cX1_turned 112 = .ok (.iload_n 1, 1) := dk_get dk_d00_44 15 rfl
theorem dX1_turned_113 : decode cX1_turned 113 = .ok (.ifCond .gt 16, 3) := dk_get dk_d00_44 16 rfl
theorem dX1_turned_116 : decode cX1_turned 116 = .ok (.iload_n 1, 1) := dk_get dk_d00_44 17 rfl
theorem dX1_turned_117 : decode cX1_turned 117 = .ok (.iload_n 3, 1) := dk_get dk_d00_44 18 rfl
theorem dX1_turned_118 : decode cX1_turned 118 = .ok (.iadd, 1) := dk_get dk_d00_44 19 rfl
theorem dX1_turned_119 : decode cX1_turned 119 = .ok (.istore_n 1, 1) := dk_get dk_d00_44 20 rfl
theorem dX1_turned_120 : decode cX1_turned 120 = .ok (.iinc 2 1, 3) := dk_get dk_d00_44 21 rfl
theorem dX1_turned_123 : decode cX1_turned 123 = .ok (.iinc 4 1, 3) := dk_get dk_d00_44 22 rfl
theorem dX1_turned_126 : decode cX1_turned 126 = .ok (.goto (-25), 3) := dk_get dk_d00_44 23 rfl
theorem dX1_turned_129 : decode cX1_turned 129 = .ok (.iinc 3 (-1), 3) := dk_get dk_d00_44 24 rfl
theorem dk_d00_45 : dkc cX1_turned [(132, .goto (-38), 3), (135, .iload_n 1, 1), (136, .ifCond .le 7, 3), (139, .iload_n 2, 1), (140, .goto 4, 3), (143, .iconst (-1), 1), (144, .ireturn, 1)] = true := by decide +kernel
theorem dX1_turned_132 : decode cX1_turned 132 = .ok (.goto (-38), 3) := dk_get dk_d00_45 0 rfl
theorem dX1_turned_135 : decode cX1_turned 135 = .ok (.iload_n 1, 1) := dk_get dk_d00_45 1 rfl
theorem dX1_turned_136 : decode cX1_turned 136 = .ok (.ifCond .le 7, 3) := dk_get dk_d00_45 2 rfl
theorem dX1_turned_139 : decode cX1_turned 139 = .ok (.iload_n 2, 1) := dk_get dk_d00_45 3 rfl
theorem dX1_turned_140 : decode cX1_turned 140 = .ok (.goto 4, 3) := dk_get dk_d00_45 4 rfl
theorem dX1_turned_143 : decode cX1_turned 143 = .ok (.iconst (-1), 1) := dk_get dk_d00_45 5 rfl
theorem dX1_turned_144 : decode cX1_turned 144 = .ok (.ireturn, 1) := dk_get dk_d00_45 6 rfl
theorem dk_d00_46 : dkc cX1_oneHour [(0, .aload_n 0, 1), (1, .invokevirtual 96, 3), (4, .aload_n 0, 1), (5, .invokevirtual 99, 3), (8, .istore_n 1, 1), (9, .aload_n 0, 1), (10, .invokevirtual 103, 3), (13, .aload_n 0, 1), (14, .getfield 21, 3), (17, .getfield 66, 3), (20, .bipush 11, 2), (22, .if_icmp .ge 19, 3), (25, .aload_n 0, 1), (26, .getfield 21, 3), (29, .dup, 1), (30, .getfield 66, 3), (33, .iconst 1, 1), (34, .iadd, 1), (35, .putfield 66, 3), (38, .goto 7, 3), (41, .aload_n 0, 1), (42, .invokevirtual 106, 3), (45, .iload_n 1, 1), (46, .ireturn, 1)] = true := by decide +kernel
theorem dX1_oneHour_0 : decode cX1_oneHour 0 = .ok (.aload_n 0, 1) := dk_get dk_d00_46 0 rfl
theorem dX1_oneHour_1 : decode cX1_oneHour 1 = .ok (.invokevirtual 96, 3) := dk_get dk_d00_46 1 rfl
theorem dX1_oneHour_4 : decode cX1_oneHour 4 = .ok (.aload_n 0, 1) := dk_get dk_d00_46 2 rfl
theorem dX1_oneHour_5 : decode cX1_oneHour 5 = .ok (.invokevirtual 99, 3) := dk_get dk_d00_46 3 rfl
theorem dX1_oneHour_8 : decode cX1_oneHour 8 = .ok (.istore_n 1, 1) := dk_get dk_d00_46 4 rfl
theorem dX1_oneHour_9 : decode cX1_oneHour 9 = .ok (.aload_n 0, 1) := dk_get dk_d00_46 5 rfl
theorem dX1_oneHour_10 : decode cX1_oneHour 10 = .ok (.invokevirtual 103, 3) := dk_get dk_d00_46 6 rfl
theorem dX1_oneHour_13 : decode cX1_oneHour 13 = .ok (.aload_n 0, 1) := dk_get dk_d00_46 7 rfl
theorem dX1_oneHour_14 : decode cX1_oneHour 14 = .ok (.getfield 21, 3) := dk_get dk_d00_46 8 rfl
theorem dX1_oneHour_17 : decode cX1_oneHour 17 = .ok (.getfield 66, 3) := dk_get dk_d00_46 9 rfl
theorem dX1_oneHour_20 : decode cX1_oneHour 20 = .ok (.bipush 11, 2) := dk_get dk_d00_46 10 rfl
theorem dX1_oneHour_22 : decode cX1_oneHour 22 = .ok (.if_icmp .ge 19, 3) := dk_get dk_d00_46 11 rfl
theorem dX1_oneHour_25 : decode cX1_oneHour 25 = .ok (.aload_n 0, 1) := dk_get dk_d00_46 12 rfl
theorem dX1_oneHour_26 : decode cX1_oneHour 26 = .ok (.getfield 21, 3) := dk_get dk_d00_46 13 rfl
theorem dX1_oneHour_29 : decode cX1_oneHour 29 = .ok (.dup, 1) := dk_get dk_d00_46 14 rfl
theorem dX1_oneHour_30 : decode cX1_oneHour 30 = .ok (.getfield 66, 3) := dk_get dk_d00_46 15 rfl
theorem dX1_oneHour_33 : decode cX1_oneHour 33 = .ok (.iconst 1, 1) := dk_get dk_d00_46 16 rfl
theorem dX1_oneHour_34 : decode cX1_oneHour 34 = .ok (.iadd, 1) := dk_get dk_d00_46 17 rfl
theorem dX1_oneHour_35 : decode cX1_oneHour 35 = .ok (.putfield 66, 3) := dk_get dk_d00_46 18 rfl
theorem dX1_oneHour_38 : decode cX1_oneHour 38 = .ok (.goto 7, 3) := dk_get dk_d00_46 19 rfl
theorem dX1_oneHour_41 : decode cX1_oneHour 41 = .ok (.aload_n 0, 1) := dk_get dk_d00_46 20 rfl
theorem dX1_oneHour_42 : decode cX1_oneHour 42 = .ok (.invokevirtual 106, 3) := dk_get dk_d00_46 21 rfl
theorem dX1_oneHour_45 : decode cX1_oneHour 45 = .ok (.iload_n 1, 1) := dk_get dk_d00_46 22 rfl
theorem dX1_oneHour_46 : decode cX1_oneHour 46 = .ok (.ireturn, 1) := dk_get dk_d00_46 23 rfl
theorem dk_d00_47 : dkc cX1_skyOfHour [(0, .aload_n 0, 1), (1, .getfield 25, 3), (4, .iconst 2, 1), (5, .aaload, 1), (6, .astore_n 1, 1), (7, .iconst 0, 1), (8, .istore_n 2, 1), (9, .iload_n 2, 1), (10, .aload_n 1, 1), (11, .getfield 109, 3), (14, .if_icmp .ge 122, 3), (17, .aload_n 1, 1), (18, .iload_n 2, 1), (19, .iconst 0, 1), (20, .invokevirtual 112, 3), (23, .aload_n 0, 1), (24, .getfield 21, 3), (27, .getfield 72, 3), (30, .if_icmp .ne 100, 3), (33, .aload_n 1, 1), (34, .iload_n 2, 1), (35, .iconst 2, 1), (36, .invokevirtual 112, 3), (39, .aload_n 0, 1), (40, .getfield 21, 3)] = true := by decide +kernel
theorem dX1_skyOfHour_0 : decode cX1_skyOfHour 0 = .ok (.aload_n 0, 1) := dk_get dk_d00_47 0 rfl
theorem dX1_skyOfHour_1 : decode cX1_skyOfHour 1 = .ok (.getfield 25, 3) := dk_get dk_d00_47 1 rfl
theorem dX1_skyOfHour_4 : decode cX1_skyOfHour 4 = .ok (.iconst 2, 1) := dk_get dk_d00_47 2 rfl
theorem dX1_skyOfHour_5 : decode cX1_skyOfHour 5 = .ok (.aaload, 1) := dk_get dk_d00_47 3 rfl
theorem dX1_skyOfHour_6 : decode cX1_skyOfHour 6 = .ok (.astore_n 1, 1) := dk_get dk_d00_47 4 rfl
theorem dX1_skyOfHour_7 : decode cX1_skyOfHour 7 = .ok (.iconst 0, 1) := dk_get dk_d00_47 5 rfl
theorem dX1_skyOfHour_8 : decode cX1_skyOfHour 8 = .ok (.istore_n 2, 1) := dk_get dk_d00_47 6 rfl
theorem dX1_skyOfHour_9 : decode cX1_skyOfHour 9 = .ok (.iload_n 2, 1) := dk_get dk_d00_47 7 rfl
theorem dX1_skyOfHour_10 : decode cX1_skyOfHour 10 = .ok (.aload_n 1, 1) := dk_get dk_d00_47 8 rfl
theorem dX1_skyOfHour_11 : decode cX1_skyOfHour 11 = .ok (.getfield 109, 3) := dk_get dk_d00_47 9 rfl
theorem dX1_skyOfHour_14 : decode cX1_skyOfHour 14 = .ok (.if_icmp .ge 122, 3) := dk_get dk_d00_47 10 rfl
theorem dX1_skyOfHour_17 : decode cX1_skyOfHour 17 = .ok (.aload_n 1, 1) := dk_get dk_d00_47 11 rfl
theorem dX1_skyOfHour_18 : decode cX1_skyOfHour 18 = .ok (.iload_n 2, 1) := dk_get dk_d00_47 12 rfl
theorem dX1_skyOfHour_19 : decode cX1_skyOfHour 19 = .ok (.iconst 0, 1) := dk_get dk_d00_47 13 rfl
theorem dX1_skyOfHour_20 : decode cX1_skyOfHour 20 = .ok (.invokevirtual 112, 3) := dk_get dk_d00_47 14 rfl
theorem dX1_skyOfHour_23 : decode cX1_skyOfHour 23 = .ok (.aload_n 0, 1) := dk_get dk_d00_47 15 rfl
theorem dX1_skyOfHour_24 : decode cX1_skyOfHour 24 = .ok (.getfield 21, 3) := dk_get dk_d00_47 16 rfl
theorem dX1_skyOfHour_27 : decode cX1_skyOfHour 27 = .ok (.getfield 72, 3) := dk_get dk_d00_47 17 rfl
theorem dX1_skyOfHour_30 : decode cX1_skyOfHour 30 = .ok (.if_icmp .ne 100, 3) := dk_get dk_d00_47 18 rfl
theorem dX1_skyOfHour_33 : decode cX1_skyOfHour 33 = .ok (.aload_n 1, 1) := dk_get dk_d00_47 19 rfl
theorem dX1_skyOfHour_34 : decode cX1_skyOfHour 34 = .ok (.iload_n 2, 1) := dk_get dk_d00_47 20 rfl
theorem dX1_skyOfHour_35 : decode cX1_skyOfHour 35 = .ok (.iconst 2, 1) := dk_get dk_d00_47 21 rfl
theorem dX1_skyOfHour_36 : decode cX1_skyOfHour 36 = .ok (.invokevirtual 112, 3) := dk_get dk_d00_47 22 rfl
theorem dX1_skyOfHour_39 : decode cX1_skyOfHour 39 = .ok (.aload_n 0, 1) := dk_get dk_d00_47 23 rfl
theorem dX1_skyOfHour_40 : decode cX1_skyOfHour 40 = .ok (.getfield 21, 3) := dk_get dk_d00_47 24 rfl
theorem dk_d00_48 : dkc cX1_skyOfHour [(43, .getfield 66, 3), (46, .if_icmp .ne 84, 3), (49, .aload_n 1, 1), (50, .iload_n 2, 1), (51, .iconst 1, 1), (52, .invokevirtual 112, 3), (55, .istore_n 3, 1), (56, .iload_n 3, 1), (57, .sipush 303, 3), (60, .if_icmp .ne 26, 3), (63, .aload_n 0, 1), (64, .getfield 21, 3), (67, .aload_n 1, 1), (68, .iload_n 2, 1), (69, .iconst 3, 1), (70, .invokevirtual 112, 3), (73, .iconst 1, 1), (74, .aload_n 1, 1), (75, .iload_n 2, 1), (76, .iconst 4, 1), (77, .invokevirtual 112, 3), (80, .invokevirtual 115, 3), (83, .goto 47, 3), (86, .iload_n 3, 1), (87, .sipush 307, 3)] = true := by decide +kernel
theorem dX1_skyOfHour_43 : decode cX1_skyOfHour 43 = .ok (.getfield 66, 3) := dk_get dk_d00_48 0 rfl
theorem dX1_skyOfHour_46 : decode cX1_skyOfHour 46 = .ok (.if_icmp .ne 84, 3) := dk_get dk_d00_48 1 rfl
theorem dX1_skyOfHour_49 : decode cX1_skyOfHour 49 = .ok (.aload_n 1, 1) := dk_get dk_d00_48 2 rfl
theorem dX1_skyOfHour_50 : decode cX1_skyOfHour 50 = .ok (.iload_n 2, 1) := dk_get dk_d00_48 3 rfl
theorem dX1_skyOfHour_51 : decode cX1_skyOfHour 51 = .ok (.iconst 1, 1) := dk_get dk_d00_48 4 rfl
theorem dX1_skyOfHour_52 : decode cX1_skyOfHour 52 = .ok (.invokevirtual 112, 3) := dk_get dk_d00_48 5 rfl
theorem dX1_skyOfHour_55 : decode cX1_skyOfHour 55 = .ok (.istore_n 3, 1) := dk_get dk_d00_48 6 rfl
theorem dX1_skyOfHour_56 : decode cX1_skyOfHour 56 = .ok (.iload_n 3, 1) := dk_get dk_d00_48 7 rfl
theorem dX1_skyOfHour_57 : decode cX1_skyOfHour 57 = .ok (.sipush 303, 3) := dk_get dk_d00_48 8 rfl
theorem dX1_skyOfHour_60 : decode cX1_skyOfHour 60 = .ok (.if_icmp .ne 26, 3) := dk_get dk_d00_48 9 rfl
theorem dX1_skyOfHour_63 : decode cX1_skyOfHour 63 = .ok (.aload_n 0, 1) := dk_get dk_d00_48 10 rfl
theorem dX1_skyOfHour_64 : decode cX1_skyOfHour 64 = .ok (.getfield 21, 3) := dk_get dk_d00_48 11 rfl
theorem dX1_skyOfHour_67 : decode cX1_skyOfHour 67 = .ok (.aload_n 1, 1) := dk_get dk_d00_48 12 rfl
theorem dX1_skyOfHour_68 : decode cX1_skyOfHour 68 = .ok (.iload_n 2, 1) := dk_get dk_d00_48 13 rfl
theorem dX1_skyOfHour_69 : decode cX1_skyOfHour 69 = .ok (.iconst 3, 1) := dk_get dk_d00_48 14 rfl
theorem dX1_skyOfHour_70 : decode cX1_skyOfHour 70 = .ok (.invokevirtual 112, 3) := dk_get dk_d00_48 15 rfl
theorem dX1_skyOfHour_73 : decode cX1_skyOfHour 73 = .ok (.iconst 1, 1) := dk_get dk_d00_48 16 rfl
theorem dX1_skyOfHour_74 : decode cX1_skyOfHour 74 = .ok (.aload_n 1, 1) := dk_get dk_d00_48 17 rfl
theorem dX1_skyOfHour_75 : decode cX1_skyOfHour 75 = .ok (.iload_n 2, 1) := dk_get dk_d00_48 18 rfl
theorem dX1_skyOfHour_76 : decode cX1_skyOfHour 76 = .ok (.iconst 4, 1) := dk_get dk_d00_48 19 rfl
theorem dX1_skyOfHour_77 : decode cX1_skyOfHour 77 = .ok (.invokevirtual 112, 3) := dk_get dk_d00_48 20 rfl
theorem dX1_skyOfHour_80 : decode cX1_skyOfHour 80 = .ok (.invokevirtual 115, 3) := dk_get dk_d00_48 21 rfl
theorem dX1_skyOfHour_83 : decode cX1_skyOfHour 83 = .ok (.goto 47, 3) := dk_get dk_d00_48 22 rfl
theorem dX1_skyOfHour_86 : decode cX1_skyOfHour 86 = .ok (.iload_n 3, 1) := dk_get dk_d00_48 23 rfl
theorem dX1_skyOfHour_87 : decode cX1_skyOfHour 87 = .ok (.sipush 307, 3) := dk_get dk_d00_48 24 rfl
theorem dk_d00_49 : dkc cX1_skyOfHour [(90, .if_icmp .ne 19, 3), (93, .aload_n 0, 1), (94, .getfield 21, 3), (97, .aload_n 1, 1), (98, .iload_n 2, 1), (99, .iconst 3, 1), (100, .invokevirtual 112, 3), (103, .putfield 56, 3), (106, .goto 24, 3), (109, .aload_n 0, 1), (110, .aload_n 1, 1), (111, .iload_n 2, 1), (112, .iconst 4, 1), (113, .invokevirtual 112, 3), (116, .bipush 12, 2), (118, .imul, 1), (119, .aload_n 1, 1), (120, .iload_n 2, 1), (121, .iconst 3, 1), (122, .invokevirtual 112, 3), (125, .iadd, 1), (126, .iconst 3, 1), (127, .invokevirtual 119, 3), (130, .iinc 2 1, 3), (133, .goto (-124), 3)] = true := by decide +kernel
theorem dX1_skyOfHour_90 : decode cX1_skyOfHour 90 = .ok (.if_icmp .ne 19, 3) := dk_get dk_d00_49 0 rfl
theorem dX1_skyOfHour_93 : decode cX1_skyOfHour 93 = .ok (.aload_n 0, 1) := dk_get dk_d00_49 1 rfl
theorem dX1_skyOfHour_94 : decode cX1_skyOfHour 94 = .ok (.getfield 21, 3) := dk_get dk_d00_49 2 rfl
theorem dX1_skyOfHour_97 : decode cX1_skyOfHour 97 = .ok (.aload_n 1, 1) := dk_get dk_d00_49 3 rfl
theorem dX1_skyOfHour_98 : decode cX1_skyOfHour 98 = .ok (.iload_n 2, 1) := dk_get dk_d00_49 4 rfl
theorem dX1_skyOfHour_99 : decode cX1_skyOfHour 99 = .ok (.iconst 3, 1) := dk_get dk_d00_49 5 rfl
theorem dX1_skyOfHour_100 : decode cX1_skyOfHour 100 = .ok (.invokevirtual 112, 3) := dk_get dk_d00_49 6 rfl
theorem dX1_skyOfHour_103 : decode cX1_skyOfHour 103 = .ok (.putfield 56, 3) := dk_get dk_d00_49 7 rfl
theorem dX1_skyOfHour_106 : decode cX1_skyOfHour 106 = .ok (.goto 24, 3) := dk_get dk_d00_49 8 rfl
theorem dX1_skyOfHour_109 : decode cX1_skyOfHour 109 = .ok (.aload_n 0, 1) := dk_get dk_d00_49 9 rfl
theorem dX1_skyOfHour_110 : decode cX1_skyOfHour 110 = .ok (.aload_n 1, 1) := dk_get dk_d00_49 10 rfl
theorem dX1_skyOfHour_111 : decode cX1_skyOfHour 111 = .ok (.iload_n 2, 1) := dk_get dk_d00_49 11 rfl
theorem dX1_skyOfHour_112 : decode cX1_skyOfHour 112 = .ok (.iconst 4, 1) := dk_get dk_d00_49 12 rfl
theorem dX1_skyOfHour_113 : decode cX1_skyOfHour 113 = .ok (.invokevirtual 112, 3) := dk_get dk_d00_49 13 rfl
theorem dX1_skyOfHour_116 : decode cX1_skyOfHour 116 = .ok (.bipush 12, 2) := dk_get dk_d00_49 14 rfl
theorem dX1_skyOfHour_118 : decode cX1_skyOfHour 118 = .ok (.imul, 1) := dk_get dk_d00_49 15 rfl
theorem dX1_skyOfHour_119 : decode cX1_skyOfHour 119 = .ok (.aload_n 1, 1) := dk_get dk_d00_49 16 rfl
theorem dX1_skyOfHour_120 : decode cX1_skyOfHour 120 = .ok (.iload_n 2, 1) := dk_get dk_d00_49 17 rfl
theorem dX1_skyOfHour_121 : decode cX1_skyOfHour 121 = .ok (.iconst 3, 1) := dk_get dk_d00_49 18 rfl
theorem dX1_skyOfHour_122 : decode cX1_skyOfHour 122 = .ok (.invokevirtual 112, 3) := dk_get dk_d00_49 19 rfl
theorem dX1_skyOfHour_125 : decode cX1_skyOfHour 125 = .ok (.iadd, 1) := dk_get dk_d00_49 20 rfl
theorem dX1_skyOfHour_126 : decode cX1_skyOfHour 126 = .ok (.iconst 3, 1) := dk_get dk_d00_49 21 rfl
theorem dX1_skyOfHour_127 : decode cX1_skyOfHour 127 = .ok (.invokevirtual 119, 3) := dk_get dk_d00_49 22 rfl
theorem dX1_skyOfHour_130 : decode cX1_skyOfHour 130 = .ok (.iinc 2 1, 3) := dk_get dk_d00_49 23 rfl
theorem dX1_skyOfHour_133 : decode cX1_skyOfHour 133 = .ok (.goto (-124), 3) := dk_get dk_d00_49 24 rfl
theorem dk_d00_50 : dkc cX1_skyOfHour [(136, .return_, 1)] = true := by decide +kernel
theorem dX1_skyOfHour_136 : decode cX1_skyOfHour 136 = .ok (.return_, 1) := dk_get dk_d00_50 0 rfl
theorem dk_d00_51 : dkc cX1_thumbsOfHour [(0, .aload_n 0, 1), (1, .getfield 25, 3), (4, .iconst 1, 1), (5, .aaload, 1), (6, .astore_n 1, 1), (7, .iconst 0, 1), (8, .istore_n 2, 1), (9, .iconst 0, 1), (10, .istore_n 3, 1), (11, .iload_n 3, 1), (12, .aload_n 1, 1), (13, .getfield 109, 3), (16, .if_icmp .ge 74, 3), (19, .aload_n 1, 1), (20, .iload_n 3, 1), (21, .iconst 0, 1), (22, .invokevirtual 112, 3), (25, .istore 4, 2), (27, .aload_n 1, 1), (28, .iload_n 3, 1), (29, .iconst 1, 1), (30, .invokevirtual 112, 3), (33, .aload_n 0, 1), (34, .getfield 21, 3), (37, .getfield 66, 3)] = true := by decide +kernel
theorem dX1_thumbsOfHour_0 : decode cX1_thumbsOfHour 0 = .ok (.aload_n 0, 1) := dk_get dk_d00_51 0 rfl
theorem dX1_thumbsOfHour_1 : decode cX1_thumbsOfHour 1 = .ok (.getfield 25, 3) := dk_get dk_d00_51 1 rfl
theorem dX1_thumbsOfHour_4 : decode cX1_thumbsOfHour 4 = .ok (.iconst 1, 1) := dk_get dk_d00_51 2 rfl
theorem dX1_thumbsOfHour_5 : decode cX1_thumbsOfHour 5 = .ok (.aaload, 1) := dk_get dk_d00_51 3 rfl
theorem dX1_thumbsOfHour_6 : decode cX1_thumbsOfHour 6 = .ok (.astore_n 1, 1) := dk_get dk_d00_51 4 rfl
theorem dX1_thumbsOfHour_7 : decode cX1_thumbsOfHour 7 = .ok (.iconst 0, 1) := dk_get dk_d00_51 5 rfl
theorem dX1_thumbsOfHour_8 : decode cX1_thumbsOfHour 8 = .ok (.istore_n 2, 1) := dk_get dk_d00_51 6 rfl
theorem dX1_thumbsOfHour_9 : decode cX1_thumbsOfHour 9 = .ok (.iconst 0, 1) := dk_get dk_d00_51 7 rfl
theorem dX1_thumbsOfHour_10 : decode cX1_thumbsOfHour 10 = .ok (.istore_n 3, 1) := dk_get dk_d00_51 8 rfl
theorem dX1_thumbsOfHour_11 : decode cX1_thumbsOfHour 11 = .ok (.iload_n 3, 1) := dk_get dk_d00_51 9 rfl
theorem dX1_thumbsOfHour_12 : decode cX1_thumbsOfHour 12 = .ok (.aload_n 1, 1) := dk_get dk_d00_51 10 rfl
theorem dX1_thumbsOfHour_13 : decode cX1_thumbsOfHour 13 = .ok (.getfield 109, 3) := dk_get dk_d00_51 11 rfl
theorem dX1_thumbsOfHour_16 : decode cX1_thumbsOfHour 16 = .ok (.if_icmp .ge 74, 3) := dk_get dk_d00_51 12 rfl
theorem dX1_thumbsOfHour_19 : decode cX1_thumbsOfHour 19 = .ok (.aload_n 1, 1) := dk_get dk_d00_51 13 rfl
theorem dX1_thumbsOfHour_20 : decode cX1_thumbsOfHour 20 = .ok (.iload_n 3, 1) := dk_get dk_d00_51 14 rfl
theorem dX1_thumbsOfHour_21 : decode cX1_thumbsOfHour 21 = .ok (.iconst 0, 1) := dk_get dk_d00_51 15 rfl
theorem dX1_thumbsOfHour_22 : decode cX1_thumbsOfHour 22 = .ok (.invokevirtual 112, 3) := dk_get dk_d00_51 16 rfl
theorem dX1_thumbsOfHour_25 : decode cX1_thumbsOfHour 25 = .ok (.istore 4, 2) := dk_get dk_d00_51 17 rfl
theorem dX1_thumbsOfHour_27 : decode cX1_thumbsOfHour 27 = .ok (.aload_n 1, 1) := dk_get dk_d00_51 18 rfl
theorem dX1_thumbsOfHour_28 : decode cX1_thumbsOfHour 28 = .ok (.iload_n 3, 1) := dk_get dk_d00_51 19 rfl
theorem dX1_thumbsOfHour_29 : decode cX1_thumbsOfHour 29 = .ok (.iconst 1, 1) := dk_get dk_d00_51 20 rfl
theorem dX1_thumbsOfHour_30 : decode cX1_thumbsOfHour 30 = .ok (.invokevirtual 112, 3) := dk_get dk_d00_51 21 rfl
theorem dX1_thumbsOfHour_33 : decode cX1_thumbsOfHour 33 = .ok (.aload_n 0, 1) := dk_get dk_d00_51 22 rfl
theorem dX1_thumbsOfHour_34 : decode cX1_thumbsOfHour 34 = .ok (.getfield 21, 3) := dk_get dk_d00_51 23 rfl
theorem dX1_thumbsOfHour_37 : decode cX1_thumbsOfHour 37 = .ok (.getfield 66, 3) := dk_get dk_d00_51 24 rfl
theorem dk_d00_52 : dkc cX1_thumbsOfHour [(40, .if_icmp .ne 44, 3), (43, .aload_n 0, 1), (44, .getfield 21, 3), (47, .iload 4, 2), (49, .invokevirtual 122, 3), (52, .ifCond .eq 32, 3), (55, .aload_n 0, 1), (56, .aload_n 0, 1), (57, .iload 4, 2), (59, .invokevirtual 125, 3), (62, .invokevirtual 128, 3), (65, .ifCond .eq 19, 3), (68, .aload_n 0, 1), (69, .iload 4, 2), (71, .aload_n 1, 1), (72, .iload_n 3, 1), (73, .iconst 2, 1), (74, .invokevirtual 112, 3), (77, .invokevirtual 131, 3), (80, .pop, 1), (81, .iinc 2 1, 3), (84, .iinc 3 1, 3), (87, .goto (-76), 3), (90, .iload_n 2, 1), (91, .ireturn, 1)] = true := by decide +kernel
theorem dX1_thumbsOfHour_40 : decode cX1_thumbsOfHour 40 = .ok (.if_icmp .ne 44, 3) := dk_get dk_d00_52 0 rfl
theorem dX1_thumbsOfHour_43 : decode cX1_thumbsOfHour 43 = .ok (.aload_n 0, 1) := dk_get dk_d00_52 1 rfl
theorem dX1_thumbsOfHour_44 : decode cX1_thumbsOfHour 44 = .ok (.getfield 21, 3) := dk_get dk_d00_52 2 rfl
theorem dX1_thumbsOfHour_47 : decode cX1_thumbsOfHour 47 = .ok (.iload 4, 2) := dk_get dk_d00_52 3 rfl
theorem dX1_thumbsOfHour_49 : decode cX1_thumbsOfHour 49 = .ok (.invokevirtual 122, 3) := dk_get dk_d00_52 4 rfl
theorem dX1_thumbsOfHour_52 : decode cX1_thumbsOfHour 52 = .ok (.ifCond .eq 32, 3) := dk_get dk_d00_52 5 rfl
theorem dX1_thumbsOfHour_55 : decode cX1_thumbsOfHour 55 = .ok (.aload_n 0, 1) := dk_get dk_d00_52 6 rfl
theorem dX1_thumbsOfHour_56 : decode cX1_thumbsOfHour 56 = .ok (.aload_n 0, 1) := dk_get dk_d00_52 7 rfl
theorem dX1_thumbsOfHour_57 : decode cX1_thumbsOfHour 57 = .ok (.iload 4, 2) := dk_get dk_d00_52 8 rfl
theorem dX1_thumbsOfHour_59 : decode cX1_thumbsOfHour 59 = .ok (.invokevirtual 125, 3) := dk_get dk_d00_52 9 rfl
theorem dX1_thumbsOfHour_62 : decode cX1_thumbsOfHour 62 = .ok (.invokevirtual 128, 3) := dk_get dk_d00_52 10 rfl
theorem dX1_thumbsOfHour_65 : decode cX1_thumbsOfHour 65 = .ok (.ifCond .eq 19, 3) := dk_get dk_d00_52 11 rfl
theorem dX1_thumbsOfHour_68 : decode cX1_thumbsOfHour 68 = .ok (.aload_n 0, 1) := dk_get dk_d00_52 12 rfl
theorem dX1_thumbsOfHour_69 : decode cX1_thumbsOfHour 69 = .ok (.iload 4, 2) := dk_get dk_d00_52 13 rfl
theorem dX1_thumbsOfHour_71 : decode cX1_thumbsOfHour 71 = .ok (.aload_n 1, 1) := dk_get dk_d00_52 14 rfl
theorem dX1_thumbsOfHour_72 : decode cX1_thumbsOfHour 72 = .ok (.iload_n 3, 1) := dk_get dk_d00_52 15 rfl
theorem dX1_thumbsOfHour_73 : decode cX1_thumbsOfHour 73 = .ok (.iconst 2, 1) := dk_get dk_d00_52 16 rfl
theorem dX1_thumbsOfHour_74 : decode cX1_thumbsOfHour 74 = .ok (.invokevirtual 112, 3) := dk_get dk_d00_52 17 rfl
theorem dX1_thumbsOfHour_77 : decode cX1_thumbsOfHour 77 = .ok (.invokevirtual 131, 3) := dk_get dk_d00_52 18 rfl
theorem dX1_thumbsOfHour_80 : decode cX1_thumbsOfHour 80 = .ok (.pop, 1) := dk_get dk_d00_52 19 rfl
theorem dX1_thumbsOfHour_81 : decode cX1_thumbsOfHour 81 = .ok (.iinc 2 1, 3) := dk_get dk_d00_52 20 rfl
theorem dX1_thumbsOfHour_84 : decode cX1_thumbsOfHour 84 = .ok (.iinc 3 1, 3) := dk_get dk_d00_52 21 rfl
theorem dX1_thumbsOfHour_87 : decode cX1_thumbsOfHour 87 = .ok (.goto (-76), 3) := dk_get dk_d00_52 22 rfl
theorem dX1_thumbsOfHour_90 : decode cX1_thumbsOfHour 90 = .ok (.iload_n 2, 1) := dk_get dk_d00_52 23 rfl
theorem dX1_thumbsOfHour_91 : decode cX1_thumbsOfHour 91 = .ok (.ireturn, 1) := dk_get dk_d00_52 24 rfl
theorem dk_d00_53 : dkc cX1_meltAll [(0, .iconst 0, 1), (1, .istore_n 1, 1), (2, .iload_n 1, 1), (3, .sipush 144, 3), (6, .if_icmp .ge 61, 3), (9, .aload_n 0, 1), (10, .getfield 21, 3), (13, .iload_n 1, 1), (14, .invokevirtual 83, 3), (17, .ifCond .eq 44, 3), (20, .aload_n 0, 1), (21, .aload_n 0, 1), (22, .iload_n 1, 1), (23, .invokevirtual 134, 3), (26, .invokevirtual 128, 3), (29, .ifCond .eq 32, 3), (32, .aload_n 0, 1), (33, .getfield 21, 3), (36, .iload_n 1, 1), (37, .invokevirtual 60, 3), (40, .iconst 1, 1), (41, .if_icmp .le 14, 3), (44, .aload_n 0, 1), (45, .getfield 21, 3), (48, .iload_n 1, 1)] = true := by decide +kernel
theorem dX1_meltAll_0 : decode cX1_meltAll 0 = .ok (.iconst 0, 1) := dk_get dk_d00_53 0 rfl
theorem dX1_meltAll_1 : decode cX1_meltAll 1 = .ok (.istore_n 1, 1) := dk_get dk_d00_53 1 rfl
theorem dX1_meltAll_2 : decode cX1_meltAll 2 = .ok (.iload_n 1, 1) := dk_get dk_d00_53 2 rfl
theorem dX1_meltAll_3 : decode cX1_meltAll 3 = .ok (.sipush 144, 3) := dk_get dk_d00_53 3 rfl
theorem dX1_meltAll_6 : decode cX1_meltAll 6 = .ok (.if_icmp .ge 61, 3) := dk_get dk_d00_53 4 rfl
theorem dX1_meltAll_9 : decode cX1_meltAll 9 = .ok (.aload_n 0, 1) := dk_get dk_d00_53 5 rfl
theorem dX1_meltAll_10 : decode cX1_meltAll 10 = .ok (.getfield 21, 3) := dk_get dk_d00_53 6 rfl
theorem dX1_meltAll_13 : decode cX1_meltAll 13 = .ok (.iload_n 1, 1) := dk_get dk_d00_53 7 rfl
theorem dX1_meltAll_14 : decode cX1_meltAll 14 = .ok (.invokevirtual 83, 3) := dk_get dk_d00_53 8 rfl
theorem dX1_meltAll_17 : decode cX1_meltAll 17 = .ok (.ifCond .eq 44, 3) := dk_get dk_d00_53 9 rfl
theorem dX1_meltAll_20 : decode cX1_meltAll 20 = .ok (.aload_n 0, 1) := dk_get dk_d00_53 10 rfl
theorem dX1_meltAll_21 : decode cX1_meltAll 21 = .ok (.aload_n 0, 1) := dk_get dk_d00_53 11 rfl
theorem dX1_meltAll_22 : decode cX1_meltAll 22 = .ok (.iload_n 1, 1) := dk_get dk_d00_53 12 rfl
theorem dX1_meltAll_23 : decode cX1_meltAll 23 = .ok (.invokevirtual 134, 3) := dk_get dk_d00_53 13 rfl
theorem dX1_meltAll_26 : decode cX1_meltAll 26 = .ok (.invokevirtual 128, 3) := dk_get dk_d00_53 14 rfl
theorem dX1_meltAll_29 : decode cX1_meltAll 29 = .ok (.ifCond .eq 32, 3) := dk_get dk_d00_53 15 rfl
theorem dX1_meltAll_32 : decode cX1_meltAll 32 = .ok (.aload_n 0, 1) := dk_get dk_d00_53 16 rfl
theorem dX1_meltAll_33 : decode cX1_meltAll 33 = .ok (.getfield 21, 3) := dk_get dk_d00_53 17 rfl
theorem dX1_meltAll_36 : decode cX1_meltAll 36 = .ok (.iload_n 1, 1) := dk_get dk_d00_53 18 rfl
theorem dX1_meltAll_37 : decode cX1_meltAll 37 = .ok (.invokevirtual 60, 3) := dk_get dk_d00_53 19 rfl
theorem dX1_meltAll_40 : decode cX1_meltAll 40 = .ok (.iconst 1, 1) := dk_get dk_d00_53 20 rfl
theorem dX1_meltAll_41 : decode cX1_meltAll 41 = .ok (.if_icmp .le 14, 3) := dk_get dk_d00_53 21 rfl
theorem dX1_meltAll_44 : decode cX1_meltAll 44 = .ok (.aload_n 0, 1) := dk_get dk_d00_53 22 rfl
theorem dX1_meltAll_45 : decode cX1_meltAll 45 = .ok (.getfield 21, 3) := dk_get dk_d00_53 23 rfl
theorem dX1_meltAll_48 : decode cX1_meltAll 48 = .ok (.iload_n 1, 1) := dk_get dk_d00_53 24 rfl
theorem dk_d00_54 : dkc cX1_meltAll [(49, .invokevirtual 137, 3), (52, .goto 9, 3), (55, .aload_n 0, 1), (56, .iload_n 1, 1), (57, .iconst 2, 1), (58, .invokevirtual 119, 3), (61, .iinc 1 1, 3), (64, .goto (-62), 3), (67, .return_, 1)] = true := by decide +kernel
theorem dX1_meltAll_49 : decode cX1_meltAll 49 = .ok (.invokevirtual 137, 3) := dk_get dk_d00_54 0 rfl
theorem dX1_meltAll_52 : decode cX1_meltAll 52 = .ok (.goto 9, 3) := dk_get dk_d00_54 1 rfl
theorem dX1_meltAll_55 : decode cX1_meltAll 55 = .ok (.aload_n 0, 1) := dk_get dk_d00_54 2 rfl
theorem dX1_meltAll_56 : decode cX1_meltAll 56 = .ok (.iload_n 1, 1) := dk_get dk_d00_54 3 rfl
theorem dX1_meltAll_57 : decode cX1_meltAll 57 = .ok (.iconst 2, 1) := dk_get dk_d00_54 4 rfl
theorem dX1_meltAll_58 : decode cX1_meltAll 58 = .ok (.invokevirtual 119, 3) := dk_get dk_d00_54 5 rfl
theorem dX1_meltAll_61 : decode cX1_meltAll 61 = .ok (.iinc 1 1, 3) := dk_get dk_d00_54 6 rfl
theorem dX1_meltAll_64 : decode cX1_meltAll 64 = .ok (.goto (-62), 3) := dk_get dk_d00_54 7 rfl
theorem dX1_meltAll_67 : decode cX1_meltAll 67 = .ok (.return_, 1) := dk_get dk_d00_54 8 rfl
theorem dk_d00_55 : dkc cX1_readDoor [(0, .aload_n 0, 1), (1, .invokevirtual 141, 3), (4, .istore_n 1, 1), (5, .iload_n 1, 1), (6, .ifCond .le 19, 3), (9, .aload_n 0, 1), (10, .getfield 21, 3), (13, .dup, 1), (14, .getfield 144, 3), (17, .iconst 1, 1), (18, .iadd, 1), (19, .putfield 144, 3), (22, .goto 16, 3), (25, .aload_n 0, 1), (26, .getfield 21, 3), (29, .dup, 1), (30, .getfield 147, 3), (33, .iconst 1, 1), (34, .iadd, 1), (35, .putfield 147, 3), (38, .aload_n 0, 1), (39, .iconst 4, 1), (40, .iconst (-1), 1), (41, .iload_n 1, 1), (42, .invokevirtual 150, 3)] = true := by decide +kernel
theorem dX1_readDoor_0 : decode cX1_readDoor 0 = .ok (.aload_n 0, 1) := dk_get dk_d00_55 0 rfl
theorem dX1_readDoor_1 : decode cX1_readDoor 1 = .ok (.invokevirtual 141, 3) := dk_get dk_d00_55 1 rfl
theorem dX1_readDoor_4 : decode cX1_readDoor 4 = .ok (.istore_n 1, 1) := dk_get dk_d00_55 2 rfl
theorem dX1_readDoor_5 : decode cX1_readDoor 5 = .ok (.iload_n 1, 1) := dk_get dk_d00_55 3 rfl
theorem dX1_readDoor_6 : decode cX1_readDoor 6 = .ok (.ifCond .le 19, 3) := dk_get dk_d00_55 4 rfl
theorem dX1_readDoor_9 : decode cX1_readDoor 9 = .ok (.aload_n 0, 1) := dk_get dk_d00_55 5 rfl
theorem dX1_readDoor_10 : decode cX1_readDoor 10 = .ok (.getfield 21, 3) := dk_get dk_d00_55 6 rfl
theorem dX1_readDoor_13 : decode cX1_readDoor 13 = .ok (.dup, 1) := dk_get dk_d00_55 7 rfl
theorem dX1_readDoor_14 : decode cX1_readDoor 14 = .ok (.getfield 144, 3) := dk_get dk_d00_55 8 rfl
theorem dX1_readDoor_17 : decode cX1_readDoor 17 = .ok (.iconst 1, 1) := dk_get dk_d00_55 9 rfl
theorem dX1_readDoor_18 : decode cX1_readDoor 18 = .ok (.iadd, 1) := dk_get dk_d00_55 10 rfl
theorem dX1_readDoor_19 : decode cX1_readDoor 19 = .ok (.putfield 144, 3) := dk_get dk_d00_55 11 rfl
theorem dX1_readDoor_22 : decode cX1_readDoor 22 = .ok (.goto 16, 3) := dk_get dk_d00_55 12 rfl
theorem dX1_readDoor_25 : decode cX1_readDoor 25 = .ok (.aload_n 0, 1) := dk_get dk_d00_55 13 rfl
theorem dX1_readDoor_26 : decode cX1_readDoor 26 = .ok (.getfield 21, 3) := dk_get dk_d00_55 14 rfl
theorem dX1_readDoor_29 : decode cX1_readDoor 29 = .ok (.dup, 1) := dk_get dk_d00_55 15 rfl
theorem dX1_readDoor_30 : decode cX1_readDoor 30 = .ok (.getfield 147, 3) := dk_get dk_d00_55 16 rfl
theorem dX1_readDoor_33 : decode cX1_readDoor 33 = .ok (.iconst 1, 1) := dk_get dk_d00_55 17 rfl
theorem dX1_readDoor_34 : decode cX1_readDoor 34 = .ok (.iadd, 1) := dk_get dk_d00_55 18 rfl
theorem dX1_readDoor_35 : decode cX1_readDoor 35 = .ok (.putfield 147, 3) := dk_get dk_d00_55 19 rfl
theorem dX1_readDoor_38 : decode cX1_readDoor 38 = .ok (.aload_n 0, 1) := dk_get dk_d00_55 20 rfl
theorem dX1_readDoor_39 : decode cX1_readDoor 39 = .ok (.iconst 4, 1) := dk_get dk_d00_55 21 rfl
theorem dX1_readDoor_40 : decode cX1_readDoor 40 = .ok (.iconst (-1), 1) := dk_get dk_d00_55 22 rfl
theorem dX1_readDoor_41 : decode cX1_readDoor 41 = .ok (.iload_n 1, 1) := dk_get dk_d00_55 23 rfl
theorem dX1_readDoor_42 : decode cX1_readDoor 42 = .ok (.invokevirtual 150, 3) := dk_get dk_d00_55 24 rfl
theorem dk_d00_56 : dkc cX1_readDoor [(45, .aload_n 0, 1), (46, .getfield 21, 3), (49, .invokevirtual 153, 3), (52, .aload_n 0, 1), (53, .getfield 21, 3), (56, .iconst 0, 1), (57, .putfield 66, 3), (60, .aload_n 0, 1), (61, .getfield 21, 3), (64, .dup, 1), (65, .getfield 72, 3), (68, .iconst 1, 1), (69, .iadd, 1), (70, .putfield 72, 3), (73, .return_, 1)] = true := by decide +kernel
theorem dX1_readDoor_45 : decode cX1_readDoor 45 = .ok (.aload_n 0, 1) := dk_get dk_d00_56 0 rfl
theorem dX1_readDoor_46 : decode cX1_readDoor 46 = .ok (.getfield 21, 3) := dk_get dk_d00_56 1 rfl
theorem dX1_readDoor_49 : decode cX1_readDoor 49 = .ok (.invokevirtual 153, 3) := dk_get dk_d00_56 2 rfl
theorem dX1_readDoor_52 : decode cX1_readDoor 52 = .ok (.aload_n 0, 1) := dk_get dk_d00_56 3 rfl
theorem dX1_readDoor_53 : decode cX1_readDoor 53 = .ok (.getfield 21, 3) := dk_get dk_d00_56 4 rfl
theorem dX1_readDoor_56 : decode cX1_readDoor 56 = .ok (.iconst 0, 1) := dk_get dk_d00_56 5 rfl
theorem dX1_readDoor_57 : decode cX1_readDoor 57 = .ok (.putfield 66, 3) := dk_get dk_d00_56 6 rfl
theorem dX1_readDoor_60 : decode cX1_readDoor 60 = .ok (.aload_n 0, 1) := dk_get dk_d00_56 7 rfl
theorem dX1_readDoor_61 : decode cX1_readDoor 61 = .ok (.getfield 21, 3) := dk_get dk_d00_56 8 rfl
theorem dX1_readDoor_64 : decode cX1_readDoor 64 = .ok (.dup, 1) := dk_get dk_d00_56 9 rfl
theorem dX1_readDoor_65 : decode cX1_readDoor 65 = .ok (.getfield 72, 3) := dk_get dk_d00_56 10 rfl
theorem dX1_readDoor_68 : decode cX1_readDoor 68 = .ok (.iconst 1, 1) := dk_get dk_d00_56 11 rfl
theorem dX1_readDoor_69 : decode cX1_readDoor 69 = .ok (.iadd, 1) := dk_get dk_d00_56 12 rfl
theorem dX1_readDoor_70 : decode cX1_readDoor 70 = .ok (.putfield 72, 3) := dk_get dk_d00_56 13 rfl
theorem dX1_readDoor_73 : decode cX1_readDoor 73 = .ok (.return_, 1) := dk_get dk_d00_56 14 rfl
theorem dk_d00_57 : dkc cX1_happens [(0, .aload_n 0, 1), (1, .getfield 29, 3), (4, .ifnonnull 16, 3), (7, .iload_n 1, 1), (8, .sipush 500, 3), (11, .if_icmp .lt 7, 3), (14, .iconst 1, 1), (15, .goto 4, 3), (18, .iconst 0, 1), (19, .ireturn, 1), (20, .iload_n 1, 1), (21, .ifCond .le 18, 3), (24, .aload_n 0, 1), (25, .getfield 21, 3), (28, .invokevirtual 156, 3), (31, .iload_n 1, 1), (32, .if_icmp .ge 7, 3), (35, .iconst 1, 1), (36, .goto 4, 3), (39, .iconst 0, 1), (40, .ireturn, 1)] = true := by decide +kernel
theorem dX1_happens_0 : decode cX1_happens 0 = .ok (.aload_n 0, 1) := dk_get dk_d00_57 0 rfl
theorem dX1_happens_1 : decode cX1_happens 1 = .ok (.getfield 29, 3) := dk_get dk_d00_57 1 rfl
theorem dX1_happens_4 : decode cX1_happens 4 = .ok (.ifnonnull 16, 3) := dk_get dk_d00_57 2 rfl
theorem dX1_happens_7 : decode cX1_happens 7 = .ok (.iload_n 1, 1) := dk_get dk_d00_57 3 rfl
theorem dX1_happens_8 : decode cX1_happens 8 = .ok (.sipush 500, 3) := dk_get dk_d00_57 4 rfl
theorem dX1_happens_11 : decode cX1_happens 11 = .ok (.if_icmp .lt 7, 3) := dk_get dk_d00_57 5 rfl
theorem dX1_happens_14 : decode cX1_happens 14 = .ok (.iconst 1, 1) := dk_get dk_d00_57 6 rfl
theorem dX1_happens_15 : decode cX1_happens 15 = .ok (.goto 4, 3) := dk_get dk_d00_57 7 rfl
theorem dX1_happens_18 : decode cX1_happens 18 = .ok (.iconst 0, 1) := dk_get dk_d00_57 8 rfl
theorem dX1_happens_19 : decode cX1_happens 19 = .ok (.ireturn, 1) := dk_get dk_d00_57 9 rfl
theorem dX1_happens_20 : decode cX1_happens 20 = .ok (.iload_n 1, 1) := dk_get dk_d00_57 10 rfl
theorem dX1_happens_21 : decode cX1_happens 21 = .ok (.ifCond .le 18, 3) := dk_get dk_d00_57 11 rfl
theorem dX1_happens_24 : decode cX1_happens 24 = .ok (.aload_n 0, 1) := dk_get dk_d00_57 12 rfl
theorem dX1_happens_25 : decode cX1_happens 25 = .ok (.getfield 21, 3) := dk_get dk_d00_57 13 rfl
theorem dX1_happens_28 : decode cX1_happens 28 = .ok (.invokevirtual 156, 3) := dk_get dk_d00_57 14 rfl
theorem dX1_happens_31 : decode cX1_happens 31 = .ok (.iload_n 1, 1) := dk_get dk_d00_57 15 rfl
theorem dX1_happens_32 : decode cX1_happens 32 = .ok (.if_icmp .ge 7, 3) := dk_get dk_d00_57 16 rfl
theorem dX1_happens_35 : decode cX1_happens 35 = .ok (.iconst 1, 1) := dk_get dk_d00_57 17 rfl
theorem dX1_happens_36 : decode cX1_happens 36 = .ok (.goto 4, 3) := dk_get dk_d00_57 18 rfl
theorem dX1_happens_39 : decode cX1_happens 39 = .ok (.iconst 0, 1) := dk_get dk_d00_57 19 rfl
theorem dX1_happens_40 : decode cX1_happens 40 = .ok (.ireturn, 1) := dk_get dk_d00_57 20 rfl
theorem dk_d00_58 : dkc cX1_leaveThumb [(0, .aload_n 0, 1), (1, .getfield 21, 3), (4, .iload_n 1, 1), (5, .iconst 2, 1), (6, .invokevirtual 37, 3), (9, .istore_n 3, 1), (10, .iconst 0, 1), (11, .istore 4, 2), (13, .iload 4, 2), (15, .iload_n 3, 1), (16, .if_icmp .ge 33, 3), (19, .iload 4, 2), (21, .bipush 11, 2), (23, .if_icmp .ge 26, 3), (26, .aload_n 0, 1), (27, .getfield 21, 3), (30, .iload 4, 2), (32, .bipush 12, 2), (34, .imul, 1), (35, .iload_n 2, 1), (36, .iadd, 1), (37, .invokevirtual 83, 3), (40, .ifCond .eq 9, 3), (43, .iinc 4 1, 3), (46, .goto (-33), 3)] = true := by decide +kernel
theorem dX1_leaveThumb_0 : decode cX1_leaveThumb 0 = .ok (.aload_n 0, 1) := dk_get dk_d00_58 0 rfl
theorem dX1_leaveThumb_1 : decode cX1_leaveThumb 1 = .ok (.getfield 21, 3) := dk_get dk_d00_58 1 rfl
theorem dX1_leaveThumb_4 : decode cX1_leaveThumb 4 = .ok (.iload_n 1, 1) := dk_get dk_d00_58 2 rfl
theorem dX1_leaveThumb_5 : decode cX1_leaveThumb 5 = .ok (.iconst 2, 1) := dk_get dk_d00_58 3 rfl
theorem dX1_leaveThumb_6 : decode cX1_leaveThumb 6 = .ok (.invokevirtual 37, 3) := dk_get dk_d00_58 4 rfl
theorem dX1_leaveThumb_9 : decode cX1_leaveThumb 9 = .ok (.istore_n 3, 1) := dk_get dk_d00_58 5 rfl
theorem dX1_leaveThumb_10 : decode cX1_leaveThumb 10 = .ok (.iconst 0, 1) := dk_get dk_d00_58 6 rfl
theorem dX1_leaveThumb_11 : decode cX1_leaveThumb 11 = .ok (.istore 4, 2) := dk_get dk_d00_58 7 rfl
theorem dX1_leaveThumb_13 : decode cX1_leaveThumb 13 = .ok (.iload 4, 2) := dk_get dk_d00_58 8 rfl
theorem dX1_leaveThumb_15 : decode cX1_leaveThumb 15 = .ok (.iload_n 3, 1) := dk_get dk_d00_58 9 rfl
theorem dX1_leaveThumb_16 : decode cX1_leaveThumb 16 = .ok (.if_icmp .ge 33, 3) := dk_get dk_d00_58 10 rfl
theorem dX1_leaveThumb_19 : decode cX1_leaveThumb 19 = .ok (.iload 4, 2) := dk_get dk_d00_58 11 rfl
theorem dX1_leaveThumb_21 : decode cX1_leaveThumb 21 = .ok (.bipush 11, 2) := dk_get dk_d00_58 12 rfl
theorem dX1_leaveThumb_23 : decode cX1_leaveThumb 23 = .ok (.if_icmp .ge 26, 3) := dk_get dk_d00_58 13 rfl
theorem dX1_leaveThumb_26 : decode cX1_leaveThumb 26 = .ok (.aload_n 0, 1) := dk_get dk_d00_58 14 rfl
theorem dX1_leaveThumb_27 : decode cX1_leaveThumb 27 = .ok (.getfield 21, 3) := dk_get dk_d00_58 15 rfl
theorem dX1_leaveThumb_30 : decode cX1_leaveThumb 30 = .ok (.iload 4, 2) := dk_get dk_d00_58 16 rfl
theorem dX1_leaveThumb_32 : decode cX1_leaveThumb 32 = .ok (.bipush 12, 2) := dk_get dk_d00_58 17 rfl
theorem dX1_leaveThumb_34 : decode cX1_leaveThumb 34 = .ok (.imul, 1) := dk_get dk_d00_58 18 rfl
theorem dX1_leaveThumb_35 : decode cX1_leaveThumb 35 = .ok (.iload_n 2, 1) := dk_get dk_d00_58 19 rfl
theorem dX1_leaveThumb_36 : decode cX1_leaveThumb 36 = .ok (.iadd, 1) := dk_get dk_d00_58 20 rfl
theorem dX1_leaveThumb_37 : decode cX1_leaveThumb 37 = .ok (.invokevirtual 83, 3) := dk_get dk_d00_58 21 rfl
theorem dX1_leaveThumb_40 : decode cX1_leaveThumb 40 = .ok (.ifCond .eq 9, 3) := dk_get dk_d00_58 22 rfl
theorem dX1_leaveThumb_43 : decode cX1_leaveThumb 43 = .ok (.iinc 4 1, 3) := dk_get dk_d00_58 23 rfl
theorem dX1_leaveThumb_46 : decode cX1_leaveThumb 46 = .ok (.goto (-33), 3) := dk_get dk_d00_58 24 rfl
theorem dk_d00_59 : dkc cX1_leaveThumb [(49, .iload 4, 2), (51, .bipush 12, 2), (53, .imul, 1), (54, .iload_n 2, 1), (55, .iadd, 1), (56, .istore 5, 2), (58, .aload_n 0, 1), (59, .getfield 21, 3), (62, .iload 5, 2), (64, .invokevirtual 83, 3), (67, .ifCond .eq 7, 3), (70, .iconst 1, 1), (71, .goto 4, 3), (74, .iconst 0, 1), (75, .istore 6, 2), (77, .iconst 1, 1), (78, .aload_n 0, 1), (79, .getfield 21, 3), (82, .iload_n 1, 1), (83, .iconst 3, 1), (84, .invokevirtual 37, 3), (87, .iconst 2, 1), (88, .idiv, 1), (89, .iadd, 1), (90, .bipush 9, 2)] = true := by decide +kernel
theorem dX1_leaveThumb_49 : decode cX1_leaveThumb 49 = .ok (.iload 4, 2) := dk_get dk_d00_59 0 rfl
theorem dX1_leaveThumb_51 : decode cX1_leaveThumb 51 = .ok (.bipush 12, 2) := dk_get dk_d00_59 1 rfl
theorem dX1_leaveThumb_53 : decode cX1_leaveThumb 53 = .ok (.imul, 1) := dk_get dk_d00_59 2 rfl
theorem dX1_leaveThumb_54 : decode cX1_leaveThumb 54 = .ok (.iload_n 2, 1) := dk_get dk_d00_59 3 rfl
theorem dX1_leaveThumb_55 : decode cX1_leaveThumb 55 = .ok (.iadd, 1) := dk_get dk_d00_59 4 rfl
theorem dX1_leaveThumb_56 : decode cX1_leaveThumb 56 = .ok (.istore 5, 2) := dk_get dk_d00_59 5 rfl
theorem dX1_leaveThumb_58 : decode cX1_leaveThumb 58 = .ok (.aload_n 0, 1) := dk_get dk_d00_59 6 rfl
theorem dX1_leaveThumb_59 : decode cX1_leaveThumb 59 = .ok (.getfield 21, 3) := dk_get dk_d00_59 7 rfl
theorem dX1_leaveThumb_62 : decode cX1_leaveThumb 62 = .ok (.iload 5, 2) := dk_get dk_d00_59 8 rfl
theorem dX1_leaveThumb_64 : decode cX1_leaveThumb 64 = .ok (.invokevirtual 83, 3) := dk_get dk_d00_59 9 rfl
theorem dX1_leaveThumb_67 : decode cX1_leaveThumb 67 = .ok (.ifCond .eq 7, 3) := dk_get dk_d00_59 10 rfl
theorem dX1_leaveThumb_70 : decode cX1_leaveThumb 70 = .ok (.iconst 1, 1) := dk_get dk_d00_59 11 rfl
theorem dX1_leaveThumb_71 : decode cX1_leaveThumb 71 = .ok (.goto 4, 3) := dk_get dk_d00_59 12 rfl
theorem dX1_leaveThumb_74 : decode cX1_leaveThumb 74 = .ok (.iconst 0, 1) := dk_get dk_d00_59 13 rfl
theorem dX1_leaveThumb_75 : decode cX1_leaveThumb 75 = .ok (.istore 6, 2) := dk_get dk_d00_59 14 rfl
theorem dX1_leaveThumb_77 : decode cX1_leaveThumb 77 = .ok (.iconst 1, 1) := dk_get dk_d00_59 15 rfl
theorem dX1_leaveThumb_78 : decode cX1_leaveThumb 78 = .ok (.aload_n 0, 1) := dk_get dk_d00_59 16 rfl
theorem dX1_leaveThumb_79 : decode cX1_leaveThumb 79 = .ok (.getfield 21, 3) := dk_get dk_d00_59 17 rfl
theorem dX1_leaveThumb_82 : decode cX1_leaveThumb 82 = .ok (.iload_n 1, 1) := dk_get dk_d00_59 18 rfl
theorem dX1_leaveThumb_83 : decode cX1_leaveThumb 83 = .ok (.iconst 3, 1) := dk_get dk_d00_59 19 rfl
theorem dX1_leaveThumb_84 : decode cX1_leaveThumb 84 = .ok (.invokevirtual 37, 3) := dk_get dk_d00_59 20 rfl
theorem dX1_leaveThumb_87 : decode cX1_leaveThumb 87 = .ok (.iconst 2, 1) := dk_get dk_d00_59 21 rfl
theorem dX1_leaveThumb_88 : decode cX1_leaveThumb 88 = .ok (.idiv, 1) := dk_get dk_d00_59 22 rfl
theorem dX1_leaveThumb_89 : decode cX1_leaveThumb 89 = .ok (.iadd, 1) := dk_get dk_d00_59 23 rfl
theorem dX1_leaveThumb_90 : decode cX1_leaveThumb 90 = .ok (.bipush 9, 2) := dk_get dk_d00_59 24 rfl
theorem dk_d00_60 : dkc cX1_leaveThumb [(92, .invokestatic 75, 3), (95, .istore 7, 2), (97, .aload_n 0, 1), (98, .getfield 21, 3), (101, .iload 5, 2), (103, .iload_n 1, 1), (104, .aload_n 0, 1), (105, .getfield 21, 3), (108, .iload_n 1, 1), (109, .iconst 1, 1), (110, .invokevirtual 37, 3), (113, .iload 7, 2), (115, .invokevirtual 159, 3), (118, .aload_n 0, 1), (119, .getfield 21, 3), (122, .iload_n 1, 1), (123, .iconst 5, 1), (124, .aload_n 0, 1), (125, .getfield 21, 3), (128, .iload_n 1, 1), (129, .iconst 5, 1), (130, .invokevirtual 37, 3), (133, .iconst 1, 1), (134, .iadd, 1), (135, .invokevirtual 115, 3)] = true := by decide +kernel
theorem dX1_leaveThumb_92 : decode cX1_leaveThumb 92 = .ok (.invokestatic 75, 3) := dk_get dk_d00_60 0 rfl
theorem dX1_leaveThumb_95 : decode cX1_leaveThumb 95 = .ok (.istore 7, 2) := dk_get dk_d00_60 1 rfl
theorem dX1_leaveThumb_97 : decode cX1_leaveThumb 97 = .ok (.aload_n 0, 1) := dk_get dk_d00_60 2 rfl
theorem dX1_leaveThumb_98 : decode cX1_leaveThumb 98 = .ok (.getfield 21, 3) := dk_get dk_d00_60 3 rfl
theorem dX1_leaveThumb_101 : decode cX1_leaveThumb 101 = .ok (.iload 5, 2) := dk_get dk_d00_60 4 rfl
theorem dX1_leaveThumb_103 : decode cX1_leaveThumb 103 = .ok (.iload_n 1, 1) := dk_get dk_d00_60 5 rfl
theorem dX1_leaveThumb_104 : decode cX1_leaveThumb 104 = .ok (.aload_n 0, 1) := dk_get dk_d00_60 6 rfl
theorem dX1_leaveThumb_105 : decode cX1_leaveThumb 105 = .ok (.getfield 21, 3) := dk_get dk_d00_60 7 rfl
theorem dX1_leaveThumb_108 : decode cX1_leaveThumb 108 = .ok (.iload_n 1, 1) := dk_get dk_d00_60 8 rfl
theorem dX1_leaveThumb_109 : decode cX1_leaveThumb 109 = .ok (.iconst 1, 1) := dk_get dk_d00_60 9 rfl
theorem dX1_leaveThumb_110 : decode cX1_leaveThumb 110 = .ok (.invokevirtual 37, 3) := dk_get dk_d00_60 10 rfl
theorem dX1_leaveThumb_113 : decode cX1_leaveThumb 113 = .ok (.iload 7, 2) := dk_get dk_d00_60 11 rfl
theorem dX1_leaveThumb_115 : decode cX1_leaveThumb 115 = .ok (.invokevirtual 159, 3) := dk_get dk_d00_60 12 rfl
theorem dX1_leaveThumb_118 : decode cX1_leaveThumb 118 = .ok (.aload_n 0, 1) := dk_get dk_d00_60 13 rfl
theorem dX1_leaveThumb_119 : decode cX1_leaveThumb 119 = .ok (.getfield 21, 3) := dk_get dk_d00_60 14 rfl
theorem dX1_leaveThumb_122 : decode cX1_leaveThumb 122 = .ok (.iload_n 1, 1) := dk_get dk_d00_60 15 rfl
theorem dX1_leaveThumb_123 : decode cX1_leaveThumb 123 = .ok (.iconst 5, 1) := dk_get dk_d00_60 16 rfl
theorem dX1_leaveThumb_124 : decode cX1_leaveThumb 124 = .ok (.aload_n 0, 1) := dk_get dk_d00_60 17 rfl
theorem dX1_leaveThumb_125 : decode cX1_leaveThumb 125 = .ok (.getfield 21, 3) := dk_get dk_d00_60 18 rfl
theorem dX1_leaveThumb_128 : decode cX1_leaveThumb 128 = .ok (.iload_n 1, 1) := dk_get dk_d00_60 19 rfl
theorem dX1_leaveThumb_129 : decode cX1_leaveThumb 129 = .ok (.iconst 5, 1) := dk_get dk_d00_60 20 rfl
theorem dX1_leaveThumb_130 : decode cX1_leaveThumb 130 = .ok (.invokevirtual 37, 3) := dk_get dk_d00_60 21 rfl
theorem dX1_leaveThumb_133 : decode cX1_leaveThumb 133 = .ok (.iconst 1, 1) := dk_get dk_d00_60 22 rfl
theorem dX1_leaveThumb_134 : decode cX1_leaveThumb 134 = .ok (.iadd, 1) := dk_get dk_d00_60 23 rfl
theorem dX1_leaveThumb_135 : decode cX1_leaveThumb 135 = .ok (.invokevirtual 115, 3) := dk_get dk_d00_60 24 rfl
theorem dk_d00_61 : dkc cX1_leaveThumb [(138, .aload_n 0, 1), (139, .iload 6, 2), (141, .iload_n 1, 1), (142, .iload 5, 2), (144, .invokevirtual 150, 3), (147, .iload 5, 2), (149, .ireturn, 1)] = true := by decide +kernel
theorem dX1_leaveThumb_138 : decode cX1_leaveThumb 138 = .ok (.aload_n 0, 1) := dk_get dk_d00_61 0 rfl
theorem dX1_leaveThumb_139 : decode cX1_leaveThumb 139 = .ok (.iload 6, 2) := dk_get dk_d00_61 1 rfl
theorem dX1_leaveThumb_141 : decode cX1_leaveThumb 141 = .ok (.iload_n 1, 1) := dk_get dk_d00_61 2 rfl
theorem dX1_leaveThumb_142 : decode cX1_leaveThumb 142 = .ok (.iload 5, 2) := dk_get dk_d00_61 3 rfl
theorem dX1_leaveThumb_144 : decode cX1_leaveThumb 144 = .ok (.invokevirtual 150, 3) := dk_get dk_d00_61 4 rfl
theorem dX1_leaveThumb_147 : decode cX1_leaveThumb 147 = .ok (.iload 5, 2) := dk_get dk_d00_61 5 rfl
theorem dX1_leaveThumb_149 : decode cX1_leaveThumb 149 = .ok (.ireturn, 1) := dk_get dk_d00_61 6 rfl
theorem dk_d00_62 : dkc cX1_takeAway [(0, .aload_n 0, 1), (1, .getfield 21, 3), (4, .iload_n 1, 1), (5, .invokevirtual 83, 3), (8, .ifCond .eq 27, 3), (11, .aload_n 0, 1), (12, .getfield 21, 3), (15, .iload_n 1, 1), (16, .invokevirtual 52, 3), (19, .istore_n 3, 1), (20, .aload_n 0, 1), (21, .getfield 21, 3), (24, .iload_n 1, 1), (25, .invokevirtual 163, 3), (28, .aload_n 0, 1), (29, .iload_n 2, 1), (30, .iload_n 3, 1), (31, .iload_n 1, 1), (32, .invokevirtual 150, 3), (35, .return_, 1)] = true := by decide +kernel
theorem dX1_takeAway_0 : decode cX1_takeAway 0 = .ok (.aload_n 0, 1) := dk_get dk_d00_62 0 rfl
theorem dX1_takeAway_1 : decode cX1_takeAway 1 = .ok (.getfield 21, 3) := dk_get dk_d00_62 1 rfl
theorem dX1_takeAway_4 : decode cX1_takeAway 4 = .ok (.iload_n 1, 1) := dk_get dk_d00_62 2 rfl
theorem dX1_takeAway_5 : decode cX1_takeAway 5 = .ok (.invokevirtual 83, 3) := dk_get dk_d00_62 3 rfl
theorem dX1_takeAway_8 : decode cX1_takeAway 8 = .ok (.ifCond .eq 27, 3) := dk_get dk_d00_62 4 rfl
theorem dX1_takeAway_11 : decode cX1_takeAway 11 = .ok (.aload_n 0, 1) := dk_get dk_d00_62 5 rfl
theorem dX1_takeAway_12 : decode cX1_takeAway 12 = .ok (.getfield 21, 3) := dk_get dk_d00_62 6 rfl
theorem dX1_takeAway_15 : decode cX1_takeAway 15 = .ok (.iload_n 1, 1) := dk_get dk_d00_62 7 rfl
theorem dX1_takeAway_16 : decode cX1_takeAway 16 = .ok (.invokevirtual 52, 3) := dk_get dk_d00_62 8 rfl
theorem dX1_takeAway_19 : decode cX1_takeAway 19 = .ok (.istore_n 3, 1) := dk_get dk_d00_62 9 rfl
theorem dX1_takeAway_20 : decode cX1_takeAway 20 = .ok (.aload_n 0, 1) := dk_get dk_d00_62 10 rfl
theorem dX1_takeAway_21 : decode cX1_takeAway 21 = .ok (.getfield 21, 3) := dk_get dk_d00_62 11 rfl
theorem dX1_takeAway_24 : decode cX1_takeAway 24 = .ok (.iload_n 1, 1) := dk_get dk_d00_62 12 rfl
theorem dX1_takeAway_25 : decode cX1_takeAway 25 = .ok (.invokevirtual 163, 3) := dk_get dk_d00_62 13 rfl
theorem dX1_takeAway_28 : decode cX1_takeAway 28 = .ok (.aload_n 0, 1) := dk_get dk_d00_62 14 rfl
theorem dX1_takeAway_29 : decode cX1_takeAway 29 = .ok (.iload_n 2, 1) := dk_get dk_d00_62 15 rfl
theorem dX1_takeAway_30 : decode cX1_takeAway 30 = .ok (.iload_n 3, 1) := dk_get dk_d00_62 16 rfl
theorem dX1_takeAway_31 : decode cX1_takeAway 31 = .ok (.iload_n 1, 1) := dk_get dk_d00_62 17 rfl
theorem dX1_takeAway_32 : decode cX1_takeAway 32 = .ok (.invokevirtual 150, 3) := dk_get dk_d00_62 18 rfl
theorem dX1_takeAway_35 : decode cX1_takeAway 35 = .ok (.return_, 1) := dk_get dk_d00_62 19 rfl
theorem dk_d00_63 : dkc cX1_note [(0, .aload_n 0, 1), (1, .getfield 29, 3), (4, .ifnull 31, 3), (7, .aload_n 0, 1), (8, .getfield 21, 3), (11, .aload_n 0, 1), (12, .getfield 29, 3), (15, .aload_n 0, 1), (16, .getfield 21, 3), (19, .getfield 166, 3), (22, .aload_n 0, 1), (23, .getfield 21, 3), (26, .iload_n 1, 1), (27, .iload_n 2, 1), (28, .iload_n 3, 1), (29, .invokevirtual 167, 3), (32, .putfield 166, 3), (35, .return_, 1)] = true := by decide +kernel
theorem dX1_note_0 : decode cX1_note 0 = .ok (.aload_n 0, 1) := dk_get dk_d00_63 0 rfl
theorem dX1_note_1 : decode cX1_note 1 = .ok (.getfield 29, 3) := dk_get dk_d00_63 1 rfl
theorem dX1_note_4 : decode cX1_note 4 = .ok (.ifnull 31, 3) := dk_get dk_d00_63 2 rfl
theorem dX1_note_7 : decode cX1_note 7 = .ok (.aload_n 0, 1) := dk_get dk_d00_63 3 rfl
theorem dX1_note_8 : decode cX1_note 8 = .ok (.getfield 21, 3) := dk_get dk_d00_63 4 rfl
theorem dX1_note_11 : decode cX1_note 11 = .ok (.aload_n 0, 1) := dk_get dk_d00_63 5 rfl
theorem dX1_note_12 : decode cX1_note 12 = .ok (.getfield 29, 3) := dk_get dk_d00_63 6 rfl
theorem dX1_note_15 : decode cX1_note 15 = .ok (.aload_n 0, 1) := dk_get dk_d00_63 7 rfl
theorem dX1_note_16 : decode cX1_note 16 = .ok (.getfield 21, 3) := dk_get dk_d00_63 8 rfl
theorem dX1_note_19 : decode cX1_note 19 = .ok (.getfield 166, 3) := dk_get dk_d00_63 9 rfl
theorem dX1_note_22 : decode cX1_note 22 = .ok (.aload_n 0, 1) := dk_get dk_d00_63 10 rfl
theorem dX1_note_23 : decode cX1_note 23 = .ok (.getfield 21, 3) := dk_get dk_d00_63 11 rfl
theorem dX1_note_26 : decode cX1_note 26 = .ok (.iload_n 1, 1) := dk_get dk_d00_63 12 rfl
theorem dX1_note_27 : decode cX1_note 27 = .ok (.iload_n 2, 1) := dk_get dk_d00_63 13 rfl
theorem dX1_note_28 : decode cX1_note 28 = .ok (.iload_n 3, 1) := dk_get dk_d00_63 14 rfl
theorem dX1_note_29 : decode cX1_note 29 = .ok (.invokevirtual 167, 3) := dk_get dk_d00_63 15 rfl
theorem dX1_note_32 : decode cX1_note 32 = .ok (.putfield 166, 3) := dk_get dk_d00_63 16 rfl
theorem dX1_note_35 : decode cX1_note 35 = .ok (.return_, 1) := dk_get dk_d00_63 17 rfl
theorem dk_d00_64 : dkc cX2_init [(0, .aload_n 0, 1), (1, .invokespecial 3, 3), (4, .aload_n 0, 1), (5, .sipush 1231, 3), (8, .newarray .int, 2), (10, .putfield 11, 3), (13, .aload_n 0, 1), (14, .bipush 9, 2), (16, .newarray .int, 2), (18, .putfield 15, 3), (21, .aload_n 0, 1), (22, .iconst 0, 1), (23, .putfield 18, 3), (26, .aload_n 0, 1), (27, .iconst 0, 1), (28, .putfield 22, 3), (31, .return_, 1)] = true := by decide +kernel
theorem dX2_init_0 : decode cX2_init 0 = .ok (.aload_n 0, 1) := dk_get dk_d00_64 0 rfl
theorem dX2_init_1 : decode cX2_init 1 = .ok (.invokespecial 3, 3) := dk_get dk_d00_64 1 rfl
theorem dX2_init_4 : decode cX2_init 4 = .ok (.aload_n 0, 1) := dk_get dk_d00_64 2 rfl
theorem dX2_init_5 : decode cX2_init 5 = .ok (.sipush 1231, 3) := dk_get dk_d00_64 3 rfl
theorem dX2_init_8 : decode cX2_init 8 = .ok (.newarray .int, 2) := dk_get dk_d00_64 4 rfl
theorem dX2_init_10 : decode cX2_init 10 = .ok (.putfield 11, 3) := dk_get dk_d00_64 5 rfl
theorem dX2_init_13 : decode cX2_init 13 = .ok (.aload_n 0, 1) := dk_get dk_d00_64 6 rfl
theorem dX2_init_14 : decode cX2_init 14 = .ok (.bipush 9, 2) := dk_get dk_d00_64 7 rfl
theorem dX2_init_16 : decode cX2_init 16 = .ok (.newarray .int, 2) := dk_get dk_d00_64 8 rfl
theorem dX2_init_18 : decode cX2_init 18 = .ok (.putfield 15, 3) := dk_get dk_d00_64 9 rfl
theorem dX2_init_21 : decode cX2_init 21 = .ok (.aload_n 0, 1) := dk_get dk_d00_64 10 rfl
theorem dX2_init_22 : decode cX2_init 22 = .ok (.iconst 0, 1) := dk_get dk_d00_64 11 rfl
theorem dX2_init_23 : decode cX2_init 23 = .ok (.putfield 18, 3) := dk_get dk_d00_64 12 rfl
theorem dX2_init_26 : decode cX2_init 26 = .ok (.aload_n 0, 1) := dk_get dk_d00_64 13 rfl
theorem dX2_init_27 : decode cX2_init 27 = .ok (.iconst 0, 1) := dk_get dk_d00_64 14 rfl
theorem dX2_init_28 : decode cX2_init 28 = .ok (.putfield 22, 3) := dk_get dk_d00_64 15 rfl
theorem dX2_init_31 : decode cX2_init 31 = .ok (.return_, 1) := dk_get dk_d00_64 16 rfl
theorem dk_d00_65 : dkc cX2_lay [(0, .iload_n 1, 1), (1, .ifCond .lt 9, 3), (4, .iload_n 1, 1), (5, .ldc 25, 2), (7, .if_icmp .le 5, 3), (10, .iconst 0, 1), (11, .ireturn, 1), (12, .iload_n 1, 1), (13, .istore_n 2, 1), (14, .iconst 0, 1), (15, .istore_n 3, 1), (16, .iconst 0, 1), (17, .istore 4, 2), (19, .aload_n 0, 1), (20, .iconst 0, 1), (21, .putfield 18, 3), (24, .bipush 8, 2), (26, .istore 5, 2), (28, .iload 5, 2), (30, .ifCond .lt 85, 3), (33, .iload_n 2, 1), (34, .bipush 10, 2), (36, .irem, 1), (37, .istore 6, 2), (39, .iload_n 2, 1)] = true := by decide +kernel
theorem dX2_lay_0 : decode cX2_lay 0 = .ok (.iload_n 1, 1) := dk_get dk_d00_65 0 rfl
theorem dX2_lay_1 : decode cX2_lay 1 = .ok (.ifCond .lt 9, 3) := dk_get dk_d00_65 1 rfl
theorem dX2_lay_4 : decode cX2_lay 4 = .ok (.iload_n 1, 1) := dk_get dk_d00_65 2 rfl
theorem dX2_lay_5 : decode cX2_lay 5 = .ok (.ldc 25, 2) := dk_get dk_d00_65 3 rfl
theorem dX2_lay_7 : decode cX2_lay 7 = .ok (.if_icmp .le 5, 3) := dk_get dk_d00_65 4 rfl
theorem dX2_lay_10 : decode cX2_lay 10 = .ok (.iconst 0, 1) := dk_get dk_d00_65 5 rfl
theorem dX2_lay_11 : decode cX2_lay 11 = .ok (.ireturn, 1) := dk_get dk_d00_65 6 rfl
theorem dX2_lay_12 : decode cX2_lay 12 = .ok (.iload_n 1, 1) := dk_get dk_d00_65 7 rfl
theorem dX2_lay_13 : decode cX2_lay 13 = .ok (.istore_n 2, 1) := dk_get dk_d00_65 8 rfl
theorem dX2_lay_14 : decode cX2_lay 14 = .ok (.iconst 0, 1) := dk_get dk_d00_65 9 rfl
theorem dX2_lay_15 : decode cX2_lay 15 = .ok (.istore_n 3, 1) := dk_get dk_d00_65 10 rfl
theorem dX2_lay_16 : decode cX2_lay 16 = .ok (.iconst 0, 1) := dk_get dk_d00_65 11 rfl
theorem dX2_lay_17 : decode cX2_lay 17 = .ok (.istore 4, 2) := dk_get dk_d00_65 12 rfl
theorem dX2_lay_19 : decode cX2_lay 19 = .ok (.aload_n 0, 1) := dk_get dk_d00_65 13 rfl
theorem dX2_lay_20 : decode cX2_lay 20 = .ok (.iconst 0, 1) := dk_get dk_d00_65 14 rfl
theorem dX2_lay_21 : decode cX2_lay 21 = .ok (.putfield 18, 3) := dk_get dk_d00_65 15 rfl
theorem dX2_lay_24 : decode cX2_lay 24 = .ok (.bipush 8, 2) := dk_get dk_d00_65 16 rfl
theorem dX2_lay_26 : decode cX2_lay 26 = .ok (.istore 5, 2) := dk_get dk_d00_65 17 rfl
theorem dX2_lay_28 : decode cX2_lay 28 = .ok (.iload 5, 2) := dk_get dk_d00_65 18 rfl
theorem dX2_lay_30 : decode cX2_lay 30 = .ok (.ifCond .lt 85, 3) := dk_get dk_d00_65 19 rfl
theorem dX2_lay_33 : decode cX2_lay 33 = .ok (.iload_n 2, 1) := dk_get dk_d00_65 20 rfl
theorem dX2_lay_34 : decode cX2_lay 34 = .ok (.bipush 10, 2) := dk_get dk_d00_65 21 rfl
theorem dX2_lay_36 : decode cX2_lay 36 = .ok (.irem, 1) := dk_get dk_d00_65 22 rfl
theorem dX2_lay_37 : decode cX2_lay 37 = .ok (.istore 6, 2) := dk_get dk_d00_65 23 rfl
theorem dX2_lay_39 : decode cX2_lay 39 = .ok (.iload_n 2, 1) := dk_get dk_d00_65 24 rfl
theorem dk_d00_66 : dkc cX2_lay [(40, .bipush 10, 2), (42, .idiv, 1), (43, .istore_n 2, 1), (44, .iload 6, 2), (46, .iconst 2, 1), (47, .if_icmp .le 5, 3), (50, .iconst 0, 1), (51, .ireturn, 1), (52, .aload_n 0, 1), (53, .getfield 15, 3), (56, .iload 5, 2), (58, .iload 6, 2), (60, .iastore, 1), (61, .aload_n 0, 1), (62, .dup, 1), (63, .getfield 18, 3), (66, .iload 6, 2), (68, .getstatic 26, 3), (71, .iload 5, 2), (73, .iaload, 1), (74, .imul, 1), (75, .iadd, 1), (76, .putfield 18, 3), (79, .iload_n 3, 1), (80, .iload 6, 2)] = true := by decide +kernel
theorem dX2_lay_40 : decode cX2_lay 40 = .ok (.bipush 10, 2) := dk_get dk_d00_66 0 rfl
theorem dX2_lay_42 : decode cX2_lay 42 = .ok (.idiv, 1) := dk_get dk_d00_66 1 rfl
theorem dX2_lay_43 : decode cX2_lay 43 = .ok (.istore_n 2, 1) := dk_get dk_d00_66 2 rfl
theorem dX2_lay_44 : decode cX2_lay 44 = .ok (.iload 6, 2) := dk_get dk_d00_66 3 rfl
theorem dX2_lay_46 : decode cX2_lay 46 = .ok (.iconst 2, 1) := dk_get dk_d00_66 4 rfl
theorem dX2_lay_47 : decode cX2_lay 47 = .ok (.if_icmp .le 5, 3) := dk_get dk_d00_66 5 rfl
theorem dX2_lay_50 : decode cX2_lay 50 = .ok (.iconst 0, 1) := dk_get dk_d00_66 6 rfl
theorem dX2_lay_51 : decode cX2_lay 51 = .ok (.ireturn, 1) := dk_get dk_d00_66 7 rfl
theorem dX2_lay_52 : decode cX2_lay 52 = .ok (.aload_n 0, 1) := dk_get dk_d00_66 8 rfl
theorem dX2_lay_53 : decode cX2_lay 53 = .ok (.getfield 15, 3) := dk_get dk_d00_66 9 rfl
theorem dX2_lay_56 : decode cX2_lay 56 = .ok (.iload 5, 2) := dk_get dk_d00_66 10 rfl
theorem dX2_lay_58 : decode cX2_lay 58 = .ok (.iload 6, 2) := dk_get dk_d00_66 11 rfl
theorem dX2_lay_60 : decode cX2_lay 60 = .ok (.iastore, 1) := dk_get dk_d00_66 12 rfl
theorem dX2_lay_61 : decode cX2_lay 61 = .ok (.aload_n 0, 1) := dk_get dk_d00_66 13 rfl
theorem dX2_lay_62 : decode cX2_lay 62 = .ok (.dup, 1) := dk_get dk_d00_66 14 rfl
theorem dX2_lay_63 : decode cX2_lay 63 = .ok (.getfield 18, 3) := dk_get dk_d00_66 15 rfl
theorem dX2_lay_66 : decode cX2_lay 66 = .ok (.iload 6, 2) := dk_get dk_d00_66 16 rfl
theorem dX2_lay_68 : decode cX2_lay 68 = .ok (.getstatic 26, 3) := dk_get dk_d00_66 17 rfl
theorem dX2_lay_71 : decode cX2_lay 71 = .ok (.iload 5, 2) := dk_get dk_d00_66 18 rfl
theorem dX2_lay_73 : decode cX2_lay 73 = .ok (.iaload, 1) := dk_get dk_d00_66 19 rfl
theorem dX2_lay_74 : decode cX2_lay 74 = .ok (.imul, 1) := dk_get dk_d00_66 20 rfl
theorem dX2_lay_75 : decode cX2_lay 75 = .ok (.iadd, 1) := dk_get dk_d00_66 21 rfl
theorem dX2_lay_76 : decode cX2_lay 76 = .ok (.putfield 18, 3) := dk_get dk_d00_66 22 rfl
theorem dX2_lay_79 : decode cX2_lay 79 = .ok (.iload_n 3, 1) := dk_get dk_d00_66 23 rfl
theorem dX2_lay_80 : decode cX2_lay 80 = .ok (.iload 6, 2) := dk_get dk_d00_66 24 rfl
theorem dk_d00_67 : dkc cX2_lay [(82, .iconst 1, 1), (83, .if_icmp .ne 7, 3), (86, .iconst 1, 1), (87, .goto 4, 3), (90, .iconst 0, 1), (91, .iadd, 1), (92, .istore_n 3, 1), (93, .iload 4, 2), (95, .iload 6, 2), (97, .iconst 2, 1), (98, .if_icmp .ne 7, 3), (101, .iconst 1, 1), (102, .goto 4, 3), (105, .iconst 0, 1), (106, .iadd, 1), (107, .istore 4, 2), (109, .iinc 5 (-1), 3), (112, .goto (-84), 3), (115, .aload_n 0, 1), (116, .iload_n 3, 1), (117, .iload 4, 2), (119, .iadd, 1), (120, .putfield 22, 3), (123, .iload_n 3, 1), (124, .iload 4, 2)] = true := by decide +kernel
theorem dX2_lay_82 : decode cX2_lay 82 = .ok (.iconst 1, 1) := dk_get dk_d00_67 0 rfl
theorem dX2_lay_83 : decode cX2_lay 83 = .ok (.if_icmp .ne 7, 3) := dk_get dk_d00_67 1 rfl
theorem dX2_lay_86 : decode cX2_lay 86 = .ok (.iconst 1, 1) := dk_get dk_d00_67 2 rfl
theorem dX2_lay_87 : decode cX2_lay 87 = .ok (.goto 4, 3) := dk_get dk_d00_67 3 rfl
theorem dX2_lay_90 : decode cX2_lay 90 = .ok (.iconst 0, 1) := dk_get dk_d00_67 4 rfl
theorem dX2_lay_91 : decode cX2_lay 91 = .ok (.iadd, 1) := dk_get dk_d00_67 5 rfl
theorem dX2_lay_92 : decode cX2_lay 92 = .ok (.istore_n 3, 1) := dk_get dk_d00_67 6 rfl
theorem dX2_lay_93 : decode cX2_lay 93 = .ok (.iload 4, 2) := dk_get dk_d00_67 7 rfl
theorem dX2_lay_95 : decode cX2_lay 95 = .ok (.iload 6, 2) := dk_get dk_d00_67 8 rfl
theorem dX2_lay_97 : decode cX2_lay 97 = .ok (.iconst 2, 1) := dk_get dk_d00_67 9 rfl
theorem dX2_lay_98 : decode cX2_lay 98 = .ok (.if_icmp .ne 7, 3) := dk_get dk_d00_67 10 rfl
theorem dX2_lay_101 : decode cX2_lay 101 = .ok (.iconst 1, 1) := dk_get dk_d00_67 11 rfl
theorem dX2_lay_102 : decode cX2_lay 102 = .ok (.goto 4, 3) := dk_get dk_d00_67 12 rfl
theorem dX2_lay_105 : decode cX2_lay 105 = .ok (.iconst 0, 1) := dk_get dk_d00_67 13 rfl
theorem dX2_lay_106 : decode cX2_lay 106 = .ok (.iadd, 1) := dk_get dk_d00_67 14 rfl
theorem dX2_lay_107 : decode cX2_lay 107 = .ok (.istore 4, 2) := dk_get dk_d00_67 15 rfl
theorem dX2_lay_109 : decode cX2_lay 109 = .ok (.iinc 5 (-1), 3) := dk_get dk_d00_67 16 rfl
theorem dX2_lay_112 : decode cX2_lay 112 = .ok (.goto (-84), 3) := dk_get dk_d00_67 17 rfl
theorem dX2_lay_115 : decode cX2_lay 115 = .ok (.aload_n 0, 1) := dk_get dk_d00_67 18 rfl
theorem dX2_lay_116 : decode cX2_lay 116 = .ok (.iload_n 3, 1) := dk_get dk_d00_67 19 rfl
theorem dX2_lay_117 : decode cX2_lay 117 = .ok (.iload 4, 2) := dk_get dk_d00_67 20 rfl
theorem dX2_lay_119 : decode cX2_lay 119 = .ok (.iadd, 1) := dk_get dk_d00_67 21 rfl
theorem dX2_lay_120 : decode cX2_lay 120 = .ok (.putfield 22, 3) := dk_get dk_d00_67 22 rfl
theorem dX2_lay_123 : decode cX2_lay 123 = .ok (.iload_n 3, 1) := dk_get dk_d00_67 23 rfl
theorem dX2_lay_124 : decode cX2_lay 124 = .ok (.iload 4, 2) := dk_get dk_d00_67 24 rfl
theorem dk_d00_68 : dkc cX2_lay [(126, .if_icmp .eq 11, 3), (129, .iload_n 3, 1), (130, .iload 4, 2), (132, .iconst 1, 1), (133, .iadd, 1), (134, .if_icmp .ne 23, 3), (137, .aload_n 0, 1), (138, .iconst 1, 1), (139, .invokevirtual 29, 3), (142, .ifCond .eq 11, 3), (145, .aload_n 0, 1), (146, .iconst 2, 1), (147, .invokevirtual 29, 3), (150, .ifCond .ne 7, 3), (153, .iconst 1, 1), (154, .goto 4, 3), (157, .iconst 0, 1), (158, .ireturn, 1)] = true := by decide +kernel
theorem dX2_lay_126 : decode cX2_lay 126 = .ok (.if_icmp .eq 11, 3) := dk_get dk_d00_68 0 rfl
theorem dX2_lay_129 : decode cX2_lay 129 = .ok (.iload_n 3, 1) := dk_get dk_d00_68 1 rfl
theorem dX2_lay_130 : decode cX2_lay 130 = .ok (.iload 4, 2) := dk_get dk_d00_68 2 rfl
theorem dX2_lay_132 : decode cX2_lay 132 = .ok (.iconst 1, 1) := dk_get dk_d00_68 3 rfl
theorem dX2_lay_133 : decode cX2_lay 133 = .ok (.iadd, 1) := dk_get dk_d00_68 4 rfl
theorem dX2_lay_134 : decode cX2_lay 134 = .ok (.if_icmp .ne 23, 3) := dk_get dk_d00_68 5 rfl
theorem dX2_lay_137 : decode cX2_lay 137 = .ok (.aload_n 0, 1) := dk_get dk_d00_68 6 rfl
theorem dX2_lay_138 : decode cX2_lay 138 = .ok (.iconst 1, 1) := dk_get dk_d00_68 7 rfl
theorem dX2_lay_139 : decode cX2_lay 139 = .ok (.invokevirtual 29, 3) := dk_get dk_d00_68 8 rfl
theorem dX2_lay_142 : decode cX2_lay 142 = .ok (.ifCond .eq 11, 3) := dk_get dk_d00_68 9 rfl
theorem dX2_lay_145 : decode cX2_lay 145 = .ok (.aload_n 0, 1) := dk_get dk_d00_68 10 rfl
theorem dX2_lay_146 : decode cX2_lay 146 = .ok (.iconst 2, 1) := dk_get dk_d00_68 11 rfl
theorem dX2_lay_147 : decode cX2_lay 147 = .ok (.invokevirtual 29, 3) := dk_get dk_d00_68 12 rfl
theorem dX2_lay_150 : decode cX2_lay 150 = .ok (.ifCond .ne 7, 3) := dk_get dk_d00_68 13 rfl
theorem dX2_lay_153 : decode cX2_lay 153 = .ok (.iconst 1, 1) := dk_get dk_d00_68 14 rfl
theorem dX2_lay_154 : decode cX2_lay 154 = .ok (.goto 4, 3) := dk_get dk_d00_68 15 rfl
theorem dX2_lay_157 : decode cX2_lay 157 = .ok (.iconst 0, 1) := dk_get dk_d00_68 16 rfl
theorem dX2_lay_158 : decode cX2_lay 158 = .ok (.ireturn, 1) := dk_get dk_d00_68 17 rfl
theorem dk_d00_69 : dkc cX2_valueForNext [(0, .aload_n 0, 1), (1, .aload_n 0, 1), (2, .getfield 18, 3), (5, .aload_n 0, 1), (6, .getfield 22, 3), (9, .invokevirtual 33, 3), (12, .ireturn, 1)] = true := by decide +kernel
theorem dX2_valueForNext_0 : decode cX2_valueForNext 0 = .ok (.aload_n 0, 1) := dk_get dk_d00_69 0 rfl
theorem dX2_valueForNext_1 : decode cX2_valueForNext 1 = .ok (.aload_n 0, 1) := dk_get dk_d00_69 1 rfl
theorem dX2_valueForNext_2 : decode cX2_valueForNext 2 = .ok (.getfield 18, 3) := dk_get dk_d00_69 2 rfl
theorem dX2_valueForNext_5 : decode cX2_valueForNext 5 = .ok (.aload_n 0, 1) := dk_get dk_d00_69 3 rfl
theorem dX2_valueForNext_6 : decode cX2_valueForNext 6 = .ok (.getfield 22, 3) := dk_get dk_d00_69 4 rfl
theorem dX2_valueForNext_9 : decode cX2_valueForNext 9 = .ok (.invokevirtual 33, 3) := dk_get dk_d00_69 5 rfl
theorem dX2_valueForNext_12 : decode cX2_valueForNext 12 = .ok (.ireturn, 1) := dk_get dk_d00_69 6 rfl
theorem dk_d00_70 : dkc cX2_firstThatKeeps [(0, .aload_n 0, 1), (1, .iconst 1, 1), (2, .invokevirtual 29, 3), (5, .ifCond .ne 11, 3), (8, .aload_n 0, 1), (9, .iconst 2, 1), (10, .invokevirtual 29, 3), (13, .ifCond .eq 5, 3), (16, .iconst (-1), 1), (17, .ireturn, 1), (18, .aload_n 0, 1), (19, .aload_n 0, 1), (20, .getfield 18, 3), (23, .aload_n 0, 1), (24, .getfield 22, 3), (27, .invokevirtual 33, 3), (30, .istore_n 1, 1), (31, .iconst 0, 1), (32, .istore_n 2, 1), (33, .iload_n 2, 1), (34, .bipush 9, 2), (36, .if_icmp .ge 37, 3), (39, .aload_n 0, 1), (40, .getfield 15, 3), (43, .iload_n 2, 1)] = true := by decide +kernel
theorem dX2_firstThatKeeps_0 : decode cX2_firstThatKeeps 0 = .ok (.aload_n 0, 1) := dk_get dk_d00_70 0 rfl
theorem dX2_firstThatKeeps_1 : decode cX2_firstThatKeeps 1 = .ok (.iconst 1, 1) := dk_get dk_d00_70 1 rfl
theorem dX2_firstThatKeeps_2 : decode cX2_firstThatKeeps 2 = .ok (.invokevirtual 29, 3) := dk_get dk_d00_70 2 rfl
theorem dX2_firstThatKeeps_5 : decode cX2_firstThatKeeps 5 = .ok (.ifCond .ne 11, 3) := dk_get dk_d00_70 3 rfl
theorem dX2_firstThatKeeps_8 : decode cX2_firstThatKeeps 8 = .ok (.aload_n 0, 1) := dk_get dk_d00_70 4 rfl
theorem dX2_firstThatKeeps_9 : decode cX2_firstThatKeeps 9 = .ok (.iconst 2, 1) := dk_get dk_d00_70 5 rfl
theorem dX2_firstThatKeeps_10 : decode cX2_firstThatKeeps 10 = .ok (.invokevirtual 29, 3) := dk_get dk_d00_70 6 rfl
theorem dX2_firstThatKeeps_13 : decode cX2_firstThatKeeps 13 = .ok (.ifCond .eq 5, 3) := dk_get dk_d00_70 7 rfl
theorem dX2_firstThatKeeps_16 : decode cX2_firstThatKeeps 16 = .ok (.iconst (-1), 1) := dk_get dk_d00_70 8 rfl
theorem dX2_firstThatKeeps_17 : decode cX2_firstThatKeeps 17 = .ok (.ireturn, 1) := dk_get dk_d00_70 9 rfl
theorem dX2_firstThatKeeps_18 : decode cX2_firstThatKeeps 18 = .ok (.aload_n 0, 1) := dk_get dk_d00_70 10 rfl
theorem dX2_firstThatKeeps_19 : decode cX2_firstThatKeeps 19 = .ok (.aload_n 0, 1) := dk_get dk_d00_70 11 rfl
theorem dX2_firstThatKeeps_20 : decode cX2_firstThatKeeps 20 = .ok (.getfield 18, 3) := dk_get dk_d00_70 12 rfl
theorem dX2_firstThatKeeps_23 : decode cX2_firstThatKeeps 23 = .ok (.aload_n 0, 1) := dk_get dk_d00_70 13 rfl
theorem dX2_firstThatKeeps_24 : decode cX2_firstThatKeeps 24 = .ok (.getfield 22, 3) := dk_get dk_d00_70 14 rfl
theorem dX2_firstThatKeeps_27 : decode cX2_firstThatKeeps 27 = .ok (.invokevirtual 33, 3) := dk_get dk_d00_70 15 rfl
theorem dX2_firstThatKeeps_30 : decode cX2_firstThatKeeps 30 = .ok (.istore_n 1, 1) := dk_get dk_d00_70 16 rfl
theorem dX2_firstThatKeeps_31 : decode cX2_firstThatKeeps 31 = .ok (.iconst 0, 1) := dk_get dk_d00_70 17 rfl
theorem dX2_firstThatKeeps_32 : decode cX2_firstThatKeeps 32 = .ok (.istore_n 2, 1) := dk_get dk_d00_70 18 rfl
theorem dX2_firstThatKeeps_33 : decode cX2_firstThatKeeps 33 = .ok (.iload_n 2, 1) := dk_get dk_d00_70 19 rfl
theorem dX2_firstThatKeeps_34 : decode cX2_firstThatKeeps 34 = .ok (.bipush 9, 2) := dk_get dk_d00_70 20 rfl
theorem dX2_firstThatKeeps_36 : decode cX2_firstThatKeeps 36 = .ok (.if_icmp .ge 37, 3) := dk_get dk_d00_70 21 rfl
theorem dX2_firstThatKeeps_39 : decode cX2_firstThatKeeps 39 = .ok (.aload_n 0, 1) := dk_get dk_d00_70 22 rfl
theorem dX2_firstThatKeeps_40 : decode cX2_firstThatKeeps 40 = .ok (.getfield 15, 3) := dk_get dk_d00_70 23 rfl
theorem dX2_firstThatKeeps_43 : decode cX2_firstThatKeeps 43 = .ok (.iload_n 2, 1) := dk_get dk_d00_70 24 rfl
theorem dk_d00_71 : dkc cX2_firstThatKeeps [(44, .iaload, 1), (45, .ifCond .ne 22, 3), (48, .aload_n 0, 1), (49, .iload_n 2, 1), (50, .aload_n 0, 1), (51, .getfield 18, 3), (54, .aload_n 0, 1), (55, .getfield 22, 3), (58, .invokevirtual 37, 3), (61, .iload_n 1, 1), (62, .if_icmp .ne 5, 3), (65, .iload_n 2, 1), (66, .ireturn, 1), (67, .iinc 2 1, 3), (70, .goto (-37), 3), (73, .iconst (-1), 1), (74, .ireturn, 1)] = true := by decide +kernel
theorem dX2_firstThatKeeps_44 : decode cX2_firstThatKeeps 44 = .ok (.iaload, 1) := dk_get dk_d00_71 0 rfl
theorem dX2_firstThatKeeps_45 : decode cX2_firstThatKeeps 45 = .ok (.ifCond .ne 22, 3) := dk_get dk_d00_71 1 rfl
theorem dX2_firstThatKeeps_48 : decode cX2_firstThatKeeps 48 = .ok (.aload_n 0, 1) := dk_get dk_d00_71 2 rfl
theorem dX2_firstThatKeeps_49 : decode cX2_firstThatKeeps 49 = .ok (.iload_n 2, 1) := dk_get dk_d00_71 3 rfl
theorem dX2_firstThatKeeps_50 : decode cX2_firstThatKeeps 50 = .ok (.aload_n 0, 1) := dk_get dk_d00_71 4 rfl
theorem dX2_firstThatKeeps_51 : decode cX2_firstThatKeeps 51 = .ok (.getfield 18, 3) := dk_get dk_d00_71 5 rfl
theorem dX2_firstThatKeeps_54 : decode cX2_firstThatKeeps 54 = .ok (.aload_n 0, 1) := dk_get dk_d00_71 6 rfl
theorem dX2_firstThatKeeps_55 : decode cX2_firstThatKeeps 55 = .ok (.getfield 22, 3) := dk_get dk_d00_71 7 rfl
theorem dX2_firstThatKeeps_58 : decode cX2_firstThatKeeps 58 = .ok (.invokevirtual 37, 3) := dk_get dk_d00_71 8 rfl
theorem dX2_firstThatKeeps_61 : decode cX2_firstThatKeeps 61 = .ok (.iload_n 1, 1) := dk_get dk_d00_71 9 rfl
theorem dX2_firstThatKeeps_62 : decode cX2_firstThatKeeps 62 = .ok (.if_icmp .ne 5, 3) := dk_get dk_d00_71 10 rfl
theorem dX2_firstThatKeeps_65 : decode cX2_firstThatKeeps 65 = .ok (.iload_n 2, 1) := dk_get dk_d00_71 11 rfl
theorem dX2_firstThatKeeps_66 : decode cX2_firstThatKeeps 66 = .ok (.ireturn, 1) := dk_get dk_d00_71 12 rfl
theorem dX2_firstThatKeeps_67 : decode cX2_firstThatKeeps 67 = .ok (.iinc 2 1, 3) := dk_get dk_d00_71 13 rfl
theorem dX2_firstThatKeeps_70 : decode cX2_firstThatKeeps 70 = .ok (.goto (-37), 3) := dk_get dk_d00_71 14 rfl
theorem dX2_firstThatKeeps_73 : decode cX2_firstThatKeeps 73 = .ok (.iconst (-1), 1) := dk_get dk_d00_71 15 rfl
theorem dX2_firstThatKeeps_74 : decode cX2_firstThatKeeps 74 = .ok (.ireturn, 1) := dk_get dk_d00_71 16 rfl
theorem dk_d00_72 : dkc cX2_value [(0, .aload_n 0, 1), (1, .iload_n 1, 1), (2, .invokevirtual 41, 3), (5, .istore_n 3, 1), (6, .iload_n 3, 1), (7, .bipush (-2), 2), (9, .if_icmp .eq 5, 3), (12, .iload_n 3, 1), (13, .ireturn, 1), (14, .iload_n 2, 1), (15, .invokestatic 45, 3), (18, .istore 4, 2), (20, .aload_n 0, 1), (21, .iload 4, 2), (23, .invokevirtual 29, 3), (26, .ifCond .eq 8, 3), (29, .iconst 1, 1), (30, .istore_n 3, 1), (31, .goto 76, 3), (34, .aload_n 0, 1), (35, .iconst 3, 1), (36, .iload 4, 2), (38, .isub, 1), (39, .invokevirtual 29, 3), (42, .ifCond .eq 8, 3)] = true := by decide +kernel
theorem dX2_value_0 : decode cX2_value 0 = .ok (.aload_n 0, 1) := dk_get dk_d00_72 0 rfl
theorem dX2_value_1 : decode cX2_value 1 = .ok (.iload_n 1, 1) := dk_get dk_d00_72 1 rfl
theorem dX2_value_2 : decode cX2_value 2 = .ok (.invokevirtual 41, 3) := dk_get dk_d00_72 2 rfl
theorem dX2_value_5 : decode cX2_value 5 = .ok (.istore_n 3, 1) := dk_get dk_d00_72 3 rfl
theorem dX2_value_6 : decode cX2_value 6 = .ok (.iload_n 3, 1) := dk_get dk_d00_72 4 rfl
theorem dX2_value_7 : decode cX2_value 7 = .ok (.bipush (-2), 2) := dk_get dk_d00_72 5 rfl
theorem dX2_value_9 : decode cX2_value 9 = .ok (.if_icmp .eq 5, 3) := dk_get dk_d00_72 6 rfl
theorem dX2_value_12 : decode cX2_value 12 = .ok (.iload_n 3, 1) := dk_get dk_d00_72 7 rfl
theorem dX2_value_13 : decode cX2_value 13 = .ok (.ireturn, 1) := dk_get dk_d00_72 8 rfl
theorem dX2_value_14 : decode cX2_value 14 = .ok (.iload_n 2, 1) := dk_get dk_d00_72 9 rfl
theorem dX2_value_15 : decode cX2_value 15 = .ok (.invokestatic 45, 3) := dk_get dk_d00_72 10 rfl
theorem dX2_value_18 : decode cX2_value 18 = .ok (.istore 4, 2) := dk_get dk_d00_72 11 rfl
theorem dX2_value_20 : decode cX2_value 20 = .ok (.aload_n 0, 1) := dk_get dk_d00_72 12 rfl
theorem dX2_value_21 : decode cX2_value 21 = .ok (.iload 4, 2) := dk_get dk_d00_72 13 rfl
theorem dX2_value_23 : decode cX2_value 23 = .ok (.invokevirtual 29, 3) := dk_get dk_d00_72 14 rfl
theorem dX2_value_26 : decode cX2_value 26 = .ok (.ifCond .eq 8, 3) := dk_get dk_d00_72 15 rfl
theorem dX2_value_29 : decode cX2_value 29 = .ok (.iconst 1, 1) := dk_get dk_d00_72 16 rfl
theorem dX2_value_30 : decode cX2_value 30 = .ok (.istore_n 3, 1) := dk_get dk_d00_72 17 rfl
theorem dX2_value_31 : decode cX2_value 31 = .ok (.goto 76, 3) := dk_get dk_d00_72 18 rfl
theorem dX2_value_34 : decode cX2_value 34 = .ok (.aload_n 0, 1) := dk_get dk_d00_72 19 rfl
theorem dX2_value_35 : decode cX2_value 35 = .ok (.iconst 3, 1) := dk_get dk_d00_72 20 rfl
theorem dX2_value_36 : decode cX2_value 36 = .ok (.iload 4, 2) := dk_get dk_d00_72 21 rfl
theorem dX2_value_38 : decode cX2_value 38 = .ok (.isub, 1) := dk_get dk_d00_72 22 rfl
theorem dX2_value_39 : decode cX2_value 39 = .ok (.invokevirtual 29, 3) := dk_get dk_d00_72 23 rfl
theorem dX2_value_42 : decode cX2_value 42 = .ok (.ifCond .eq 8, 3) := dk_get dk_d00_72 24 rfl
theorem dk_d00_73 : dkc cX2_value [(45, .iconst (-1), 1), (46, .istore_n 3, 1), (47, .goto 60, 3), (50, .iload_n 2, 1), (51, .bipush 9, 2), (53, .if_icmp .lt 8, 3), (56, .iconst 0, 1), (57, .istore_n 3, 1), (58, .goto 49, 3), (61, .iconst (-1), 1), (62, .istore_n 3, 1), (63, .iconst 0, 1), (64, .istore 5, 2), (66, .iload 5, 2), (68, .bipush 9, 2), (70, .if_icmp .ge 37, 3), (73, .iload_n 3, 1), (74, .iconst 1, 1), (75, .if_icmp .ge 32, 3), (78, .aload_n 0, 1), (79, .getfield 15, 3), (82, .iload 5, 2), (84, .iaload, 1), (85, .ifCond .ne 16, 3), (88, .iload_n 3, 1)] = true := by decide +kernel
theorem dX2_value_45 : decode cX2_value 45 = .ok (.iconst (-1), 1) := dk_get dk_d00_73 0 rfl
theorem dX2_value_46 : decode cX2_value 46 = .ok (.istore_n 3, 1) := dk_get dk_d00_73 1 rfl
theorem dX2_value_47 : decode cX2_value 47 = .ok (.goto 60, 3) := dk_get dk_d00_73 2 rfl
theorem dX2_value_50 : decode cX2_value 50 = .ok (.iload_n 2, 1) := dk_get dk_d00_73 3 rfl
theorem dX2_value_51 : decode cX2_value 51 = .ok (.bipush 9, 2) := dk_get dk_d00_73 4 rfl
theorem dX2_value_53 : decode cX2_value 53 = .ok (.if_icmp .lt 8, 3) := dk_get dk_d00_73 5 rfl
theorem dX2_value_56 : decode cX2_value 56 = .ok (.iconst 0, 1) := dk_get dk_d00_73 6 rfl
theorem dX2_value_57 : decode cX2_value 57 = .ok (.istore_n 3, 1) := dk_get dk_d00_73 7 rfl
theorem dX2_value_58 : decode cX2_value 58 = .ok (.goto 49, 3) := dk_get dk_d00_73 8 rfl
theorem dX2_value_61 : decode cX2_value 61 = .ok (.iconst (-1), 1) := dk_get dk_d00_73 9 rfl
theorem dX2_value_62 : decode cX2_value 62 = .ok (.istore_n 3, 1) := dk_get dk_d00_73 10 rfl
theorem dX2_value_63 : decode cX2_value 63 = .ok (.iconst 0, 1) := dk_get dk_d00_73 11 rfl
theorem dX2_value_64 : decode cX2_value 64 = .ok (.istore 5, 2) := dk_get dk_d00_73 12 rfl
theorem dX2_value_66 : decode cX2_value 66 = .ok (.iload 5, 2) := dk_get dk_d00_73 13 rfl
theorem dX2_value_68 : decode cX2_value 68 = .ok (.bipush 9, 2) := dk_get dk_d00_73 14 rfl
theorem dX2_value_70 : decode cX2_value 70 = .ok (.if_icmp .ge 37, 3) := dk_get dk_d00_73 15 rfl
theorem dX2_value_73 : decode cX2_value 73 = .ok (.iload_n 3, 1) := dk_get dk_d00_73 16 rfl
theorem dX2_value_74 : decode cX2_value 74 = .ok (.iconst 1, 1) := dk_get dk_d00_73 17 rfl
theorem dX2_value_75 : decode cX2_value 75 = .ok (.if_icmp .ge 32, 3) := dk_get dk_d00_73 18 rfl
theorem dX2_value_78 : decode cX2_value 78 = .ok (.aload_n 0, 1) := dk_get dk_d00_73 19 rfl
theorem dX2_value_79 : decode cX2_value 79 = .ok (.getfield 15, 3) := dk_get dk_d00_73 20 rfl
theorem dX2_value_82 : decode cX2_value 82 = .ok (.iload 5, 2) := dk_get dk_d00_73 21 rfl
theorem dX2_value_84 : decode cX2_value 84 = .ok (.iaload, 1) := dk_get dk_d00_73 22 rfl
theorem dX2_value_85 : decode cX2_value 85 = .ok (.ifCond .ne 16, 3) := dk_get dk_d00_73 23 rfl
theorem dX2_value_88 : decode cX2_value 88 = .ok (.iload_n 3, 1) := dk_get dk_d00_73 24 rfl
theorem dk_d00_74 : dkc cX2_value [(89, .aload_n 0, 1), (90, .iload 5, 2), (92, .iload_n 1, 1), (93, .iload_n 2, 1), (94, .invokevirtual 37, 3), (97, .invokestatic 48, 3), (100, .istore_n 3, 1), (101, .iinc 5 1, 3), (104, .goto (-38), 3), (107, .aload_n 0, 1), (108, .iload_n 1, 1), (109, .iload_n 3, 1), (110, .invokevirtual 53, 3), (113, .iload_n 3, 1), (114, .ireturn, 1)] = true := by decide +kernel
theorem dX2_value_89 : decode cX2_value 89 = .ok (.aload_n 0, 1) := dk_get dk_d00_74 0 rfl
theorem dX2_value_90 : decode cX2_value 90 = .ok (.iload 5, 2) := dk_get dk_d00_74 1 rfl
theorem dX2_value_92 : decode cX2_value 92 = .ok (.iload_n 1, 1) := dk_get dk_d00_74 2 rfl
theorem dX2_value_93 : decode cX2_value 93 = .ok (.iload_n 2, 1) := dk_get dk_d00_74 3 rfl
theorem dX2_value_94 : decode cX2_value 94 = .ok (.invokevirtual 37, 3) := dk_get dk_d00_74 4 rfl
theorem dX2_value_97 : decode cX2_value 97 = .ok (.invokestatic 48, 3) := dk_get dk_d00_74 5 rfl
theorem dX2_value_100 : decode cX2_value 100 = .ok (.istore_n 3, 1) := dk_get dk_d00_74 6 rfl
theorem dX2_value_101 : decode cX2_value 101 = .ok (.iinc 5 1, 3) := dk_get dk_d00_74 7 rfl
theorem dX2_value_104 : decode cX2_value 104 = .ok (.goto (-38), 3) := dk_get dk_d00_74 8 rfl
theorem dX2_value_107 : decode cX2_value 107 = .ok (.aload_n 0, 1) := dk_get dk_d00_74 9 rfl
theorem dX2_value_108 : decode cX2_value 108 = .ok (.iload_n 1, 1) := dk_get dk_d00_74 10 rfl
theorem dX2_value_109 : decode cX2_value 109 = .ok (.iload_n 3, 1) := dk_get dk_d00_74 11 rfl
theorem dX2_value_110 : decode cX2_value 110 = .ok (.invokevirtual 53, 3) := dk_get dk_d00_74 12 rfl
theorem dX2_value_113 : decode cX2_value 113 = .ok (.iload_n 3, 1) := dk_get dk_d00_74 13 rfl
theorem dX2_value_114 : decode cX2_value 114 = .ok (.ireturn, 1) := dk_get dk_d00_74 14 rfl
theorem dk_d00_75 : dkc cX2_valueOfMove [(0, .iload_n 1, 1), (1, .ifCond .lt 15, 3), (4, .iload_n 1, 1), (5, .bipush 9, 2), (7, .if_icmp .ge 9, 3), (10, .iload_n 3, 1), (11, .bipush 9, 2), (13, .if_icmp .lt 5, 3), (16, .iconst 0, 1), (17, .ireturn, 1), (18, .iload_n 3, 1), (19, .invokestatic 45, 3), (22, .istore 4, 2), (24, .aload_n 0, 1), (25, .getfield 15, 3), (28, .iload_n 1, 1), (29, .iload 4, 2), (31, .iastore, 1), (32, .aload_n 0, 1), (33, .iload_n 2, 1), (34, .iload 4, 2), (36, .getstatic 26, 3), (39, .iload_n 1, 1), (40, .iaload, 1), (41, .imul, 1)] = true := by decide +kernel
theorem dX2_valueOfMove_0 : decode cX2_valueOfMove 0 = .ok (.iload_n 1, 1) := dk_get dk_d00_75 0 rfl
theorem dX2_valueOfMove_1 : decode cX2_valueOfMove 1 = .ok (.ifCond .lt 15, 3) := dk_get dk_d00_75 1 rfl
theorem dX2_valueOfMove_4 : decode cX2_valueOfMove 4 = .ok (.iload_n 1, 1) := dk_get dk_d00_75 2 rfl
theorem dX2_valueOfMove_5 : decode cX2_valueOfMove 5 = .ok (.bipush 9, 2) := dk_get dk_d00_75 3 rfl
theorem dX2_valueOfMove_7 : decode cX2_valueOfMove 7 = .ok (.if_icmp .ge 9, 3) := dk_get dk_d00_75 4 rfl
theorem dX2_valueOfMove_10 : decode cX2_valueOfMove 10 = .ok (.iload_n 3, 1) := dk_get dk_d00_75 5 rfl
theorem dX2_valueOfMove_11 : decode cX2_valueOfMove 11 = .ok (.bipush 9, 2) := dk_get dk_d00_75 6 rfl
theorem dX2_valueOfMove_13 : decode cX2_valueOfMove 13 = .ok (.if_icmp .lt 5, 3) := dk_get dk_d00_75 7 rfl
theorem dX2_valueOfMove_16 : decode cX2_valueOfMove 16 = .ok (.iconst 0, 1) := dk_get dk_d00_75 8 rfl
theorem dX2_valueOfMove_17 : decode cX2_valueOfMove 17 = .ok (.ireturn, 1) := dk_get dk_d00_75 9 rfl
theorem dX2_valueOfMove_18 : decode cX2_valueOfMove 18 = .ok (.iload_n 3, 1) := dk_get dk_d00_75 10 rfl
theorem dX2_valueOfMove_19 : decode cX2_valueOfMove 19 = .ok (.invokestatic 45, 3) := dk_get dk_d00_75 11 rfl
theorem dX2_valueOfMove_22 : decode cX2_valueOfMove 22 = .ok (.istore 4, 2) := dk_get dk_d00_75 12 rfl
theorem dX2_valueOfMove_24 : decode cX2_valueOfMove 24 = .ok (.aload_n 0, 1) := dk_get dk_d00_75 13 rfl
theorem dX2_valueOfMove_25 : decode cX2_valueOfMove 25 = .ok (.getfield 15, 3) := dk_get dk_d00_75 14 rfl
theorem dX2_valueOfMove_28 : decode cX2_valueOfMove 28 = .ok (.iload_n 1, 1) := dk_get dk_d00_75 15 rfl
theorem dX2_valueOfMove_29 : decode cX2_valueOfMove 29 = .ok (.iload 4, 2) := dk_get dk_d00_75 16 rfl
theorem dX2_valueOfMove_31 : decode cX2_valueOfMove 31 = .ok (.iastore, 1) := dk_get dk_d00_75 17 rfl
theorem dX2_valueOfMove_32 : decode cX2_valueOfMove 32 = .ok (.aload_n 0, 1) := dk_get dk_d00_75 18 rfl
theorem dX2_valueOfMove_33 : decode cX2_valueOfMove 33 = .ok (.iload_n 2, 1) := dk_get dk_d00_75 19 rfl
theorem dX2_valueOfMove_34 : decode cX2_valueOfMove 34 = .ok (.iload 4, 2) := dk_get dk_d00_75 20 rfl
theorem dX2_valueOfMove_36 : decode cX2_valueOfMove 36 = .ok (.getstatic 26, 3) := dk_get dk_d00_75 21 rfl
theorem dX2_valueOfMove_39 : decode cX2_valueOfMove 39 = .ok (.iload_n 1, 1) := dk_get dk_d00_75 22 rfl
theorem dX2_valueOfMove_40 : decode cX2_valueOfMove 40 = .ok (.iaload, 1) := dk_get dk_d00_75 23 rfl
theorem dX2_valueOfMove_41 : decode cX2_valueOfMove 41 = .ok (.imul, 1) := dk_get dk_d00_75 24 rfl
theorem dk_d00_76 : dkc cX2_valueOfMove [(42, .iadd, 1), (43, .iload_n 3, 1), (44, .iconst 1, 1), (45, .iadd, 1), (46, .invokevirtual 33, 3), (49, .ineg, 1), (50, .istore 5, 2), (52, .aload_n 0, 1), (53, .getfield 15, 3), (56, .iload_n 1, 1), (57, .iconst 0, 1), (58, .iastore, 1), (59, .iload 5, 2), (61, .ireturn, 1)] = true := by decide +kernel
theorem dX2_valueOfMove_42 : decode cX2_valueOfMove 42 = .ok (.iadd, 1) := dk_get dk_d00_76 0 rfl
theorem dX2_valueOfMove_43 : decode cX2_valueOfMove 43 = .ok (.iload_n 3, 1) := dk_get dk_d00_76 1 rfl
theorem dX2_valueOfMove_44 : decode cX2_valueOfMove 44 = .ok (.iconst 1, 1) := dk_get dk_d00_76 2 rfl
theorem dX2_valueOfMove_45 : decode cX2_valueOfMove 45 = .ok (.iadd, 1) := dk_get dk_d00_76 3 rfl
theorem dX2_valueOfMove_46 : decode cX2_valueOfMove 46 = .ok (.invokevirtual 33, 3) := dk_get dk_d00_76 4 rfl
theorem dX2_valueOfMove_49 : decode cX2_valueOfMove 49 = .ok (.ineg, 1) := dk_get dk_d00_76 5 rfl
theorem dX2_valueOfMove_50 : decode cX2_valueOfMove 50 = .ok (.istore 5, 2) := dk_get dk_d00_76 6 rfl
theorem dX2_valueOfMove_52 : decode cX2_valueOfMove 52 = .ok (.aload_n 0, 1) := dk_get dk_d00_76 7 rfl
theorem dX2_valueOfMove_53 : decode cX2_valueOfMove 53 = .ok (.getfield 15, 3) := dk_get dk_d00_76 8 rfl
theorem dX2_valueOfMove_56 : decode cX2_valueOfMove 56 = .ok (.iload_n 1, 1) := dk_get dk_d00_76 9 rfl
theorem dX2_valueOfMove_57 : decode cX2_valueOfMove 57 = .ok (.iconst 0, 1) := dk_get dk_d00_76 10 rfl
theorem dX2_valueOfMove_58 : decode cX2_valueOfMove 58 = .ok (.iastore, 1) := dk_get dk_d00_76 11 rfl
theorem dX2_valueOfMove_59 : decode cX2_valueOfMove 59 = .ok (.iload 5, 2) := dk_get dk_d00_76 12 rfl
theorem dX2_valueOfMove_61 : decode cX2_valueOfMove 61 = .ok (.ireturn, 1) := dk_get dk_d00_76 13 rfl
theorem dk_d00_77 : dkc cX2_whoIsNext [(0, .iload_n 0, 1), (1, .iconst 2, 1), (2, .irem, 1), (3, .ifCond .ne 7, 3), (6, .iconst 1, 1), (7, .goto 4, 3), (10, .iconst 2, 1), (11, .ireturn, 1)] = true := by decide +kernel
theorem dX2_whoIsNext_0 : decode cX2_whoIsNext 0 = .ok (.iload_n 0, 1) := dk_get dk_d00_77 0 rfl
theorem dX2_whoIsNext_1 : decode cX2_whoIsNext 1 = .ok (.iconst 2, 1) := dk_get dk_d00_77 1 rfl
theorem dX2_whoIsNext_2 : decode cX2_whoIsNext 2 = .ok (.irem, 1) := dk_get dk_d00_77 2 rfl
theorem dX2_whoIsNext_3 : decode cX2_whoIsNext 3 = .ok (.ifCond .ne 7, 3) := dk_get dk_d00_77 3 rfl
theorem dX2_whoIsNext_6 : decode cX2_whoIsNext 6 = .ok (.iconst 1, 1) := dk_get dk_d00_77 4 rfl
theorem dX2_whoIsNext_7 : decode cX2_whoIsNext 7 = .ok (.goto 4, 3) := dk_get dk_d00_77 5 rfl
theorem dX2_whoIsNext_10 : decode cX2_whoIsNext 10 = .ok (.iconst 2, 1) := dk_get dk_d00_77 6 rfl
theorem dX2_whoIsNext_11 : decode cX2_whoIsNext 11 = .ok (.ireturn, 1) := dk_get dk_d00_77 7 rfl
theorem dk_d00_78 : dkc cX2_hasThree [(0, .iconst 0, 1), (1, .istore_n 2, 1), (2, .iload_n 2, 1), (3, .iconst 2, 1), (4, .iadd, 1), (5, .getstatic 57, 3), (8, .arraylength, 1), (9, .if_icmp .ge 57, 3), (12, .aload_n 0, 1), (13, .getfield 15, 3), (16, .getstatic 57, 3), (19, .iload_n 2, 1), (20, .iaload, 1), (21, .iaload, 1), (22, .iload_n 1, 1), (23, .if_icmp .ne 37, 3), (26, .aload_n 0, 1), (27, .getfield 15, 3), (30, .getstatic 57, 3), (33, .iload_n 2, 1), (34, .iconst 1, 1), (35, .iadd, 1), (36, .iaload, 1), (37, .iaload, 1), (38, .iload_n 1, 1)] = true := by decide +kernel
theorem dX2_hasThree_0 : decode cX2_hasThree 0 = .ok (.iconst 0, 1) := dk_get dk_d00_78 0 rfl
theorem dX2_hasThree_1 : decode cX2_hasThree 1 = .ok (.istore_n 2, 1) := dk_get dk_d00_78 1 rfl
theorem dX2_hasThree_2 : decode cX2_hasThree 2 = .ok (.iload_n 2, 1) := dk_get dk_d00_78 2 rfl
theorem dX2_hasThree_3 : decode cX2_hasThree 3 = .ok (.iconst 2, 1) := dk_get dk_d00_78 3 rfl
theorem dX2_hasThree_4 : decode cX2_hasThree 4 = .ok (.iadd, 1) := dk_get dk_d00_78 4 rfl
theorem dX2_hasThree_5 : decode cX2_hasThree 5 = .ok (.getstatic 57, 3) := dk_get dk_d00_78 5 rfl
theorem dX2_hasThree_8 : decode cX2_hasThree 8 = .ok (.arraylength, 1) := dk_get dk_d00_78 6 rfl
theorem dX2_hasThree_9 : decode cX2_hasThree 9 = .ok (.if_icmp .ge 57, 3) := dk_get dk_d00_78 7 rfl
theorem dX2_hasThree_12 : decode cX2_hasThree 12 = .ok (.aload_n 0, 1) := dk_get dk_d00_78 8 rfl
theorem dX2_hasThree_13 : decode cX2_hasThree 13 = .ok (.getfield 15, 3) := dk_get dk_d00_78 9 rfl
theorem dX2_hasThree_16 : decode cX2_hasThree 16 = .ok (.getstatic 57, 3) := dk_get dk_d00_78 10 rfl
theorem dX2_hasThree_19 : decode cX2_hasThree 19 = .ok (.iload_n 2, 1) := dk_get dk_d00_78 11 rfl
theorem dX2_hasThree_20 : decode cX2_hasThree 20 = .ok (.iaload, 1) := dk_get dk_d00_78 12 rfl
theorem dX2_hasThree_21 : decode cX2_hasThree 21 = .ok (.iaload, 1) := dk_get dk_d00_78 13 rfl
theorem dX2_hasThree_22 : decode cX2_hasThree 22 = .ok (.iload_n 1, 1) := dk_get dk_d00_78 14 rfl
theorem dX2_hasThree_23 : decode cX2_hasThree 23 = .ok (.if_icmp .ne 37, 3) := dk_get dk_d00_78 15 rfl
theorem dX2_hasThree_26 : decode cX2_hasThree 26 = .ok (.aload_n 0, 1) := dk_get dk_d00_78 16 rfl
theorem dX2_hasThree_27 : decode cX2_hasThree 27 = .ok (.getfield 15, 3) := dk_get dk_d00_78 17 rfl
theorem dX2_hasThree_30 : decode cX2_hasThree 30 = .ok (.getstatic 57, 3) := dk_get dk_d00_78 18 rfl
theorem dX2_hasThree_33 : decode cX2_hasThree 33 = .ok (.iload_n 2, 1) := dk_get dk_d00_78 19 rfl
theorem dX2_hasThree_34 : decode cX2_hasThree 34 = .ok (.iconst 1, 1) := dk_get dk_d00_78 20 rfl
theorem dX2_hasThree_35 : decode cX2_hasThree 35 = .ok (.iadd, 1) := dk_get dk_d00_78 21 rfl
theorem dX2_hasThree_36 : decode cX2_hasThree 36 = .ok (.iaload, 1) := dk_get dk_d00_78 22 rfl
theorem dX2_hasThree_37 : decode cX2_hasThree 37 = .ok (.iaload, 1) := dk_get dk_d00_78 23 rfl
theorem dX2_hasThree_38 : decode cX2_hasThree 38 = .ok (.iload_n 1, 1) := dk_get dk_d00_78 24 rfl
theorem dk_d00_79 : dkc cX2_hasThree [(39, .if_icmp .ne 21, 3), (42, .aload_n 0, 1), (43, .getfield 15, 3), (46, .getstatic 57, 3), (49, .iload_n 2, 1), (50, .iconst 2, 1), (51, .iadd, 1), (52, .iaload, 1), (53, .iaload, 1), (54, .iload_n 1, 1), (55, .if_icmp .ne 5, 3), (58, .iconst 1, 1), (59, .ireturn, 1), (60, .iinc 2 3, 3), (63, .goto (-61), 3), (66, .iconst 0, 1), (67, .ireturn, 1)] = true := by decide +kernel
theorem dX2_hasThree_39 : decode cX2_hasThree 39 = .ok (.if_icmp .ne 21, 3) := dk_get dk_d00_79 0 rfl
theorem dX2_hasThree_42 : decode cX2_hasThree 42 = .ok (.aload_n 0, 1) := dk_get dk_d00_79 1 rfl
theorem dX2_hasThree_43 : decode cX2_hasThree 43 = .ok (.getfield 15, 3) := dk_get dk_d00_79 2 rfl
theorem dX2_hasThree_46 : decode cX2_hasThree 46 = .ok (.getstatic 57, 3) := dk_get dk_d00_79 3 rfl
theorem dX2_hasThree_49 : decode cX2_hasThree 49 = .ok (.iload_n 2, 1) := dk_get dk_d00_79 4 rfl
theorem dX2_hasThree_50 : decode cX2_hasThree 50 = .ok (.iconst 2, 1) := dk_get dk_d00_79 5 rfl
theorem dX2_hasThree_51 : decode cX2_hasThree 51 = .ok (.iadd, 1) := dk_get dk_d00_79 6 rfl
theorem dX2_hasThree_52 : decode cX2_hasThree 52 = .ok (.iaload, 1) := dk_get dk_d00_79 7 rfl
theorem dX2_hasThree_53 : decode cX2_hasThree 53 = .ok (.iaload, 1) := dk_get dk_d00_79 8 rfl
theorem dX2_hasThree_54 : decode cX2_hasThree 54 = .ok (.iload_n 1, 1) := dk_get dk_d00_79 9 rfl
theorem dX2_hasThree_55 : decode cX2_hasThree 55 = .ok (.if_icmp .ne 5, 3) := dk_get dk_d00_79 10 rfl
theorem dX2_hasThree_58 : decode cX2_hasThree 58 = .ok (.iconst 1, 1) := dk_get dk_d00_79 11 rfl
theorem dX2_hasThree_59 : decode cX2_hasThree 59 = .ok (.ireturn, 1) := dk_get dk_d00_79 12 rfl
theorem dX2_hasThree_60 : decode cX2_hasThree 60 = .ok (.iinc 2 3, 3) := dk_get dk_d00_79 13 rfl
theorem dX2_hasThree_63 : decode cX2_hasThree 63 = .ok (.goto (-61), 3) := dk_get dk_d00_79 14 rfl
theorem dX2_hasThree_66 : decode cX2_hasThree 66 = .ok (.iconst 0, 1) := dk_get dk_d00_79 15 rfl
theorem dX2_hasThree_67 : decode cX2_hasThree 67 = .ok (.ireturn, 1) := dk_get dk_d00_79 16 rfl
theorem dk_d00_80 : dkc cX2_recall [(0, .iload_n 1, 1), (1, .bipush 16, 2), (3, .idiv, 1), (4, .istore_n 2, 1), (5, .iload_n 1, 1), (6, .ifCond .lt 12, 3), (9, .iload_n 2, 1), (10, .aload_n 0, 1), (11, .getfield 11, 3), (14, .arraylength, 1), (15, .if_icmp .lt 6, 3), (18, .bipush (-2), 2), (20, .ireturn, 1), (21, .aload_n 0, 1), (22, .getfield 11, 3), (25, .iload_n 2, 1), (26, .iaload, 1), (27, .iconst 2, 1), (28, .iload_n 1, 1), (29, .bipush 16, 2), (31, .irem, 1), (32, .imul, 1), (33, .ishr, 1), (34, .iconst 3, 1), (35, .iand, 1)] = true := by decide +kernel
theorem dX2_recall_0 : decode cX2_recall 0 = .ok (.iload_n 1, 1) := dk_get dk_d00_80 0 rfl
theorem dX2_recall_1 : decode cX2_recall 1 = .ok (.bipush 16, 2) := dk_get dk_d00_80 1 rfl
theorem dX2_recall_3 : decode cX2_recall 3 = .ok (.idiv, 1) := dk_get dk_d00_80 2 rfl
theorem dX2_recall_4 : decode cX2_recall 4 = .ok (.istore_n 2, 1) := dk_get dk_d00_80 3 rfl
theorem dX2_recall_5 : decode cX2_recall 5 = .ok (.iload_n 1, 1) := dk_get dk_d00_80 4 rfl
theorem dX2_recall_6 : decode cX2_recall 6 = .ok (.ifCond .lt 12, 3) := dk_get dk_d00_80 5 rfl
theorem dX2_recall_9 : decode cX2_recall 9 = .ok (.iload_n 2, 1) := dk_get dk_d00_80 6 rfl
theorem dX2_recall_10 : decode cX2_recall 10 = .ok (.aload_n 0, 1) := dk_get dk_d00_80 7 rfl
theorem dX2_recall_11 : decode cX2_recall 11 = .ok (.getfield 11, 3) := dk_get dk_d00_80 8 rfl
theorem dX2_recall_14 : decode cX2_recall 14 = .ok (.arraylength, 1) := dk_get dk_d00_80 9 rfl
theorem dX2_recall_15 : decode cX2_recall 15 = .ok (.if_icmp .lt 6, 3) := dk_get dk_d00_80 10 rfl
theorem dX2_recall_18 : decode cX2_recall 18 = .ok (.bipush (-2), 2) := dk_get dk_d00_80 11 rfl
theorem dX2_recall_20 : decode cX2_recall 20 = .ok (.ireturn, 1) := dk_get dk_d00_80 12 rfl
theorem dX2_recall_21 : decode cX2_recall 21 = .ok (.aload_n 0, 1) := dk_get dk_d00_80 13 rfl
theorem dX2_recall_22 : decode cX2_recall 22 = .ok (.getfield 11, 3) := dk_get dk_d00_80 14 rfl
theorem dX2_recall_25 : decode cX2_recall 25 = .ok (.iload_n 2, 1) := dk_get dk_d00_80 15 rfl
theorem dX2_recall_26 : decode cX2_recall 26 = .ok (.iaload, 1) := dk_get dk_d00_80 16 rfl
theorem dX2_recall_27 : decode cX2_recall 27 = .ok (.iconst 2, 1) := dk_get dk_d00_80 17 rfl
theorem dX2_recall_28 : decode cX2_recall 28 = .ok (.iload_n 1, 1) := dk_get dk_d00_80 18 rfl
theorem dX2_recall_29 : decode cX2_recall 29 = .ok (.bipush 16, 2) := dk_get dk_d00_80 19 rfl
theorem dX2_recall_31 : decode cX2_recall 31 = .ok (.irem, 1) := dk_get dk_d00_80 20 rfl
theorem dX2_recall_32 : decode cX2_recall 32 = .ok (.imul, 1) := dk_get dk_d00_80 21 rfl
theorem dX2_recall_33 : decode cX2_recall 33 = .ok (.ishr, 1) := dk_get dk_d00_80 22 rfl
theorem dX2_recall_34 : decode cX2_recall 34 = .ok (.iconst 3, 1) := dk_get dk_d00_80 23 rfl
theorem dX2_recall_35 : decode cX2_recall 35 = .ok (.iand, 1) := dk_get dk_d00_80 24 rfl
theorem dk_d00_81 : dkc cX2_recall [(36, .iconst 2, 1), (37, .isub, 1), (38, .ireturn, 1)] = true := by decide +kernel
theorem dX2_recall_36 : decode cX2_recall 36 = .ok (.iconst 2, 1) := dk_get dk_d00_81 0 rfl
theorem dX2_recall_37 : decode cX2_recall 37 = .ok (.isub, 1) := dk_get dk_d00_81 1 rfl
theorem dX2_recall_38 : decode cX2_recall 38 = .ok (.ireturn, 1) := dk_get dk_d00_81 2 rfl
theorem dk_d00_82 : dkc cX2_keepValue [(0, .iload_n 1, 1), (1, .bipush 16, 2), (3, .idiv, 1), (4, .istore_n 3, 1), (5, .iload_n 1, 1), (6, .ifCond .lt 31, 3), (9, .iload_n 3, 1), (10, .aload_n 0, 1), (11, .getfield 11, 3), (14, .arraylength, 1), (15, .if_icmp .ge 22, 3), (18, .aload_n 0, 1), (19, .getfield 11, 3), (22, .iload_n 3, 1), (23, .dup2, 1), (24, .iaload, 1), (25, .iload_n 2, 1), (26, .iconst 2, 1), (27, .iadd, 1), (28, .iconst 2, 1), (29, .iload_n 1, 1), (30, .bipush 16, 2), (32, .irem, 1), (33, .imul, 1), (34, .ishl, 1)] = true := by decide +kernel
theorem dX2_keepValue_0 : decode cX2_keepValue 0 = .ok (.iload_n 1, 1) := dk_get dk_d00_82 0 rfl
theorem dX2_keepValue_1 : decode cX2_keepValue 1 = .ok (.bipush 16, 2) := dk_get dk_d00_82 1 rfl
theorem dX2_keepValue_3 : decode cX2_keepValue 3 = .ok (.idiv, 1) := dk_get dk_d00_82 2 rfl
theorem dX2_keepValue_4 : decode cX2_keepValue 4 = .ok (.istore_n 3, 1) := dk_get dk_d00_82 3 rfl
theorem dX2_keepValue_5 : decode cX2_keepValue 5 = .ok (.iload_n 1, 1) := dk_get dk_d00_82 4 rfl
theorem dX2_keepValue_6 : decode cX2_keepValue 6 = .ok (.ifCond .lt 31, 3) := dk_get dk_d00_82 5 rfl
theorem dX2_keepValue_9 : decode cX2_keepValue 9 = .ok (.iload_n 3, 1) := dk_get dk_d00_82 6 rfl
theorem dX2_keepValue_10 : decode cX2_keepValue 10 = .ok (.aload_n 0, 1) := dk_get dk_d00_82 7 rfl
theorem dX2_keepValue_11 : decode cX2_keepValue 11 = .ok (.getfield 11, 3) := dk_get dk_d00_82 8 rfl
theorem dX2_keepValue_14 : decode cX2_keepValue 14 = .ok (.arraylength, 1) := dk_get dk_d00_82 9 rfl
theorem dX2_keepValue_15 : decode cX2_keepValue 15 = .ok (.if_icmp .ge 22, 3) := dk_get dk_d00_82 10 rfl
theorem dX2_keepValue_18 : decode cX2_keepValue 18 = .ok (.aload_n 0, 1) := dk_get dk_d00_82 11 rfl
theorem dX2_keepValue_19 : decode cX2_keepValue 19 = .ok (.getfield 11, 3) := dk_get dk_d00_82 12 rfl
theorem dX2_keepValue_22 : decode cX2_keepValue 22 = .ok (.iload_n 3, 1) := dk_get dk_d00_82 13 rfl
theorem dX2_keepValue_23 : decode cX2_keepValue 23 = .ok (.dup2, 1) := dk_get dk_d00_82 14 rfl
theorem dX2_keepValue_24 : decode cX2_keepValue 24 = .ok (.iaload, 1) := dk_get dk_d00_82 15 rfl
theorem dX2_keepValue_25 : decode cX2_keepValue 25 = .ok (.iload_n 2, 1) := dk_get dk_d00_82 16 rfl
theorem dX2_keepValue_26 : decode cX2_keepValue 26 = .ok (.iconst 2, 1) := dk_get dk_d00_82 17 rfl
theorem dX2_keepValue_27 : decode cX2_keepValue 27 = .ok (.iadd, 1) := dk_get dk_d00_82 18 rfl
theorem dX2_keepValue_28 : decode cX2_keepValue 28 = .ok (.iconst 2, 1) := dk_get dk_d00_82 19 rfl
theorem dX2_keepValue_29 : decode cX2_keepValue 29 = .ok (.iload_n 1, 1) := dk_get dk_d00_82 20 rfl
theorem dX2_keepValue_30 : decode cX2_keepValue 30 = .ok (.bipush 16, 2) := dk_get dk_d00_82 21 rfl
theorem dX2_keepValue_32 : decode cX2_keepValue 32 = .ok (.irem, 1) := dk_get dk_d00_82 22 rfl
theorem dX2_keepValue_33 : decode cX2_keepValue 33 = .ok (.imul, 1) := dk_get dk_d00_82 23 rfl
theorem dX2_keepValue_34 : decode cX2_keepValue 34 = .ok (.ishl, 1) := dk_get dk_d00_82 24 rfl
theorem dk_d00_83 : dkc cX2_keepValue [(35, .ior, 1), (36, .iastore, 1), (37, .return_, 1)] = true := by decide +kernel
theorem dX2_keepValue_35 : decode cX2_keepValue 35 = .ok (.ior, 1) := dk_get dk_d00_83 0 rfl
theorem dX2_keepValue_36 : decode cX2_keepValue 36 = .ok (.iastore, 1) := dk_get dk_d00_83 1 rfl
theorem dX2_keepValue_37 : decode cX2_keepValue 37 = .ok (.return_, 1) := dk_get dk_d00_83 2 rfl
theorem dk_d00_84 : dkc cX3_init [(0, .aload_n 0, 1), (1, .invokespecial 3, 3), (4, .aload_n 0, 1), (5, .sipush 750, 3), (8, .newarray .int, 2), (10, .putfield 9, 3), (13, .return_, 1)] = true := by decide +kernel
theorem dX3_init_0 : decode cX3_init 0 = .ok (.aload_n 0, 1) := dk_get dk_d00_84 0 rfl
theorem dX3_init_1 : decode cX3_init 1 = .ok (.invokespecial 3, 3) := dk_get dk_d00_84 1 rfl
theorem dX3_init_4 : decode cX3_init 4 = .ok (.aload_n 0, 1) := dk_get dk_d00_84 2 rfl
theorem dX3_init_5 : decode cX3_init 5 = .ok (.sipush 750, 3) := dk_get dk_d00_84 3 rfl
theorem dX3_init_8 : decode cX3_init 8 = .ok (.newarray .int, 2) := dk_get dk_d00_84 4 rfl
theorem dX3_init_10 : decode cX3_init 10 = .ok (.putfield 9, 3) := dk_get dk_d00_84 5 rfl
theorem dX3_init_13 : decode cX3_init 13 = .ok (.return_, 1) := dk_get dk_d00_84 6 rfl
theorem dk_d00_85 : dkc cX3_write [(0, .iload_n 1, 1), (1, .ifCond .lt 10, 3), (4, .iload_n 1, 1), (5, .sipush 150, 3), (8, .if_icmp .lt 5, 3), (11, .iload_n 1, 1), (12, .ireturn, 1), (13, .iload_n 1, 1), (14, .iconst 5, 1), (15, .imul, 1), (16, .istore 6, 2), (18, .aload_n 0, 1), (19, .getfield 9, 3), (22, .iload 6, 2), (24, .aload_n 2, 1), (25, .getfield 15, 3), (28, .iastore, 1), (29, .aload_n 0, 1), (30, .getfield 9, 3), (33, .iload 6, 2), (35, .iconst 1, 1), (36, .iadd, 1), (37, .aload_n 2, 1), (38, .getfield 21, 3), (41, .iastore, 1)] = true := by decide +kernel
theorem dX3_write_0 : decode cX3_write 0 = .ok (.iload_n 1, 1) := dk_get dk_d00_85 0 rfl
theorem dX3_write_1 : decode cX3_write 1 = .ok (.ifCond .lt 10, 3) := dk_get dk_d00_85 1 rfl
theorem dX3_write_4 : decode cX3_write 4 = .ok (.iload_n 1, 1) := dk_get dk_d00_85 2 rfl
theorem dX3_write_5 : decode cX3_write 5 = .ok (.sipush 150, 3) := dk_get dk_d00_85 3 rfl
theorem dX3_write_8 : decode cX3_write 8 = .ok (.if_icmp .lt 5, 3) := dk_get dk_d00_85 4 rfl
theorem dX3_write_11 : decode cX3_write 11 = .ok (.iload_n 1, 1) := dk_get dk_d00_85 5 rfl
theorem dX3_write_12 : decode cX3_write 12 = .ok (.ireturn, 1) := dk_get dk_d00_85 6 rfl
theorem dX3_write_13 : decode cX3_write 13 = .ok (.iload_n 1, 1) := dk_get dk_d00_85 7 rfl
theorem dX3_write_14 : decode cX3_write 14 = .ok (.iconst 5, 1) := dk_get dk_d00_85 8 rfl
theorem dX3_write_15 : decode cX3_write 15 = .ok (.imul, 1) := dk_get dk_d00_85 9 rfl
theorem dX3_write_16 : decode cX3_write 16 = .ok (.istore 6, 2) := dk_get dk_d00_85 10 rfl
theorem dX3_write_18 : decode cX3_write 18 = .ok (.aload_n 0, 1) := dk_get dk_d00_85 11 rfl
theorem dX3_write_19 : decode cX3_write 19 = .ok (.getfield 9, 3) := dk_get dk_d00_85 12 rfl
theorem dX3_write_22 : decode cX3_write 22 = .ok (.iload 6, 2) := dk_get dk_d00_85 13 rfl
theorem dX3_write_24 : decode cX3_write 24 = .ok (.aload_n 2, 1) := dk_get dk_d00_85 14 rfl
theorem dX3_write_25 : decode cX3_write 25 = .ok (.getfield 15, 3) := dk_get dk_d00_85 15 rfl
theorem dX3_write_28 : decode cX3_write 28 = .ok (.iastore, 1) := dk_get dk_d00_85 16 rfl
theorem dX3_write_29 : decode cX3_write 29 = .ok (.aload_n 0, 1) := dk_get dk_d00_85 17 rfl
theorem dX3_write_30 : decode cX3_write 30 = .ok (.getfield 9, 3) := dk_get dk_d00_85 18 rfl
theorem dX3_write_33 : decode cX3_write 33 = .ok (.iload 6, 2) := dk_get dk_d00_85 19 rfl
theorem dX3_write_35 : decode cX3_write 35 = .ok (.iconst 1, 1) := dk_get dk_d00_85 20 rfl
theorem dX3_write_36 : decode cX3_write 36 = .ok (.iadd, 1) := dk_get dk_d00_85 21 rfl
theorem dX3_write_37 : decode cX3_write 37 = .ok (.aload_n 2, 1) := dk_get dk_d00_85 22 rfl
theorem dX3_write_38 : decode cX3_write 38 = .ok (.getfield 21, 3) := dk_get dk_d00_85 23 rfl
theorem dX3_write_41 : decode cX3_write 41 = .ok (.iastore, 1) := dk_get dk_d00_85 24 rfl
theorem dk_d00_86 : dkc cX3_write [(42, .aload_n 0, 1), (43, .getfield 9, 3), (46, .iload 6, 2), (48, .iconst 2, 1), (49, .iadd, 1), (50, .iload_n 3, 1), (51, .iastore, 1), (52, .aload_n 0, 1), (53, .getfield 9, 3), (56, .iload 6, 2), (58, .iconst 3, 1), (59, .iadd, 1), (60, .iload 4, 2), (62, .iastore, 1), (63, .aload_n 0, 1), (64, .getfield 9, 3), (67, .iload 6, 2), (69, .iconst 4, 1), (70, .iadd, 1), (71, .iload 5, 2), (73, .iastore, 1), (74, .iload_n 1, 1), (75, .iconst 1, 1), (76, .iadd, 1), (77, .ireturn, 1)] = true := by decide +kernel
theorem dX3_write_42 : decode cX3_write 42 = .ok (.aload_n 0, 1) := dk_get dk_d00_86 0 rfl
theorem dX3_write_43 : decode cX3_write 43 = .ok (.getfield 9, 3) := dk_get dk_d00_86 1 rfl
theorem dX3_write_46 : decode cX3_write 46 = .ok (.iload 6, 2) := dk_get dk_d00_86 2 rfl
theorem dX3_write_48 : decode cX3_write 48 = .ok (.iconst 2, 1) := dk_get dk_d00_86 3 rfl
theorem dX3_write_49 : decode cX3_write 49 = .ok (.iadd, 1) := dk_get dk_d00_86 4 rfl
theorem dX3_write_50 : decode cX3_write 50 = .ok (.iload_n 3, 1) := dk_get dk_d00_86 5 rfl
theorem dX3_write_51 : decode cX3_write 51 = .ok (.iastore, 1) := dk_get dk_d00_86 6 rfl
theorem dX3_write_52 : decode cX3_write 52 = .ok (.aload_n 0, 1) := dk_get dk_d00_86 7 rfl
theorem dX3_write_53 : decode cX3_write 53 = .ok (.getfield 9, 3) := dk_get dk_d00_86 8 rfl
theorem dX3_write_56 : decode cX3_write 56 = .ok (.iload 6, 2) := dk_get dk_d00_86 9 rfl
theorem dX3_write_58 : decode cX3_write 58 = .ok (.iconst 3, 1) := dk_get dk_d00_86 10 rfl
theorem dX3_write_59 : decode cX3_write 59 = .ok (.iadd, 1) := dk_get dk_d00_86 11 rfl
theorem dX3_write_60 : decode cX3_write 60 = .ok (.iload 4, 2) := dk_get dk_d00_86 12 rfl
theorem dX3_write_62 : decode cX3_write 62 = .ok (.iastore, 1) := dk_get dk_d00_86 13 rfl
theorem dX3_write_63 : decode cX3_write 63 = .ok (.aload_n 0, 1) := dk_get dk_d00_86 14 rfl
theorem dX3_write_64 : decode cX3_write 64 = .ok (.getfield 9, 3) := dk_get dk_d00_86 15 rfl
theorem dX3_write_67 : decode cX3_write 67 = .ok (.iload 6, 2) := dk_get dk_d00_86 16 rfl
theorem dX3_write_69 : decode cX3_write 69 = .ok (.iconst 4, 1) := dk_get dk_d00_86 17 rfl
theorem dX3_write_70 : decode cX3_write 70 = .ok (.iadd, 1) := dk_get dk_d00_86 18 rfl
theorem dX3_write_71 : decode cX3_write 71 = .ok (.iload 5, 2) := dk_get dk_d00_86 19 rfl
theorem dX3_write_73 : decode cX3_write 73 = .ok (.iastore, 1) := dk_get dk_d00_86 20 rfl
theorem dX3_write_74 : decode cX3_write 74 = .ok (.iload_n 1, 1) := dk_get dk_d00_86 21 rfl
theorem dX3_write_75 : decode cX3_write 75 = .ok (.iconst 1, 1) := dk_get dk_d00_86 22 rfl
theorem dX3_write_76 : decode cX3_write 76 = .ok (.iadd, 1) := dk_get dk_d00_86 23 rfl
theorem dX3_write_77 : decode cX3_write 77 = .ok (.ireturn, 1) := dk_get dk_d00_86 24 rfl
theorem dk_d00_87 : dkc cX3_number [(0, .iload_n 1, 1), (1, .ifCond .lt 23, 3), (4, .iload_n 1, 1), (5, .sipush 150, 3), (8, .if_icmp .ge 16, 3), (11, .iload_n 2, 1), (12, .ifCond .lt 12, 3), (15, .iload_n 2, 1), (16, .iconst 5, 1), (17, .if_icmp .ge 7, 3), (20, .iconst 1, 1), (21, .goto 4, 3), (24, .iconst 0, 1), (25, .istore_n 3, 1), (26, .iload_n 3, 1), (27, .ifCond .eq 16, 3), (30, .aload_n 0, 1), (31, .getfield 9, 3), (34, .iload_n 1, 1), (35, .iconst 5, 1), (36, .imul, 1), (37, .iload_n 2, 1), (38, .iadd, 1), (39, .iaload, 1), (40, .goto 4, 3)] = true := by decide +kernel
theorem dX3_number_0 : decode cX3_number 0 = .ok (.iload_n 1, 1) := dk_get dk_d00_87 0 rfl
theorem dX3_number_1 : decode cX3_number 1 = .ok (.ifCond .lt 23, 3) := dk_get dk_d00_87 1 rfl
theorem dX3_number_4 : decode cX3_number 4 = .ok (.iload_n 1, 1) := dk_get dk_d00_87 2 rfl
theorem dX3_number_5 : decode cX3_number 5 = .ok (.sipush 150, 3) := dk_get dk_d00_87 3 rfl
theorem dX3_number_8 : decode cX3_number 8 = .ok (.if_icmp .ge 16, 3) := dk_get dk_d00_87 4 rfl
theorem dX3_number_11 : decode cX3_number 11 = .ok (.iload_n 2, 1) := dk_get dk_d00_87 5 rfl
theorem dX3_number_12 : decode cX3_number 12 = .ok (.ifCond .lt 12, 3) := dk_get dk_d00_87 6 rfl
theorem dX3_number_15 : decode cX3_number 15 = .ok (.iload_n 2, 1) := dk_get dk_d00_87 7 rfl
theorem dX3_number_16 : decode cX3_number 16 = .ok (.iconst 5, 1) := dk_get dk_d00_87 8 rfl
theorem dX3_number_17 : decode cX3_number 17 = .ok (.if_icmp .ge 7, 3) := dk_get dk_d00_87 9 rfl
theorem dX3_number_20 : decode cX3_number 20 = .ok (.iconst 1, 1) := dk_get dk_d00_87 10 rfl
theorem dX3_number_21 : decode cX3_number 21 = .ok (.goto 4, 3) := dk_get dk_d00_87 11 rfl
theorem dX3_number_24 : decode cX3_number 24 = .ok (.iconst 0, 1) := dk_get dk_d00_87 12 rfl
theorem dX3_number_25 : decode cX3_number 25 = .ok (.istore_n 3, 1) := dk_get dk_d00_87 13 rfl
theorem dX3_number_26 : decode cX3_number 26 = .ok (.iload_n 3, 1) := dk_get dk_d00_87 14 rfl
theorem dX3_number_27 : decode cX3_number 27 = .ok (.ifCond .eq 16, 3) := dk_get dk_d00_87 15 rfl
theorem dX3_number_30 : decode cX3_number 30 = .ok (.aload_n 0, 1) := dk_get dk_d00_87 16 rfl
theorem dX3_number_31 : decode cX3_number 31 = .ok (.getfield 9, 3) := dk_get dk_d00_87 17 rfl
theorem dX3_number_34 : decode cX3_number 34 = .ok (.iload_n 1, 1) := dk_get dk_d00_87 18 rfl
theorem dX3_number_35 : decode cX3_number 35 = .ok (.iconst 5, 1) := dk_get dk_d00_87 19 rfl
theorem dX3_number_36 : decode cX3_number 36 = .ok (.imul, 1) := dk_get dk_d00_87 20 rfl
theorem dX3_number_37 : decode cX3_number 37 = .ok (.iload_n 2, 1) := dk_get dk_d00_87 21 rfl
theorem dX3_number_38 : decode cX3_number 38 = .ok (.iadd, 1) := dk_get dk_d00_87 22 rfl
theorem dX3_number_39 : decode cX3_number 39 = .ok (.iaload, 1) := dk_get dk_d00_87 23 rfl
theorem dX3_number_40 : decode cX3_number 40 = .ok (.goto 4, 3) := dk_get dk_d00_87 24 rfl
theorem dk_d00_88 : dkc cX3_number [(43, .iconst 0, 1), (44, .ireturn, 1)] = true := by decide +kernel
theorem dX3_number_43 : decode cX3_number 43 = .ok (.iconst 0, 1) := dk_get dk_d00_88 0 rfl
theorem dX3_number_44 : decode cX3_number 44 = .ok (.ireturn, 1) := dk_get dk_d00_88 1 rfl
theorem dk_d00_89 : dkc cX3_takePages [(0, .aload_n 1, 1), (1, .getfield 9, 3), (4, .iconst 0, 1), (5, .aload_n 0, 1), (6, .getfield 9, 3), (9, .iconst 0, 1), (10, .sipush 750, 3), (13, .invokestatic 24, 3), (16, .return_, 1)] = true := by decide +kernel
theorem dX3_takePages_0 : decode cX3_takePages 0 = .ok (.aload_n 1, 1) := dk_get dk_d00_89 0 rfl
theorem dX3_takePages_1 : decode cX3_takePages 1 = .ok (.getfield 9, 3) := dk_get dk_d00_89 1 rfl
theorem dX3_takePages_4 : decode cX3_takePages 4 = .ok (.iconst 0, 1) := dk_get dk_d00_89 2 rfl
theorem dX3_takePages_5 : decode cX3_takePages 5 = .ok (.aload_n 0, 1) := dk_get dk_d00_89 3 rfl
theorem dX3_takePages_6 : decode cX3_takePages 6 = .ok (.getfield 9, 3) := dk_get dk_d00_89 4 rfl
theorem dX3_takePages_9 : decode cX3_takePages 9 = .ok (.iconst 0, 1) := dk_get dk_d00_89 5 rfl
theorem dX3_takePages_10 : decode cX3_takePages 10 = .ok (.sipush 750, 3) := dk_get dk_d00_89 6 rfl
theorem dX3_takePages_13 : decode cX3_takePages 13 = .ok (.invokestatic 24, 3) := dk_get dk_d00_89 7 rfl
theorem dX3_takePages_16 : decode cX3_takePages 16 = .ok (.return_, 1) := dk_get dk_d00_89 8 rfl
theorem dk_d00_90 : dkc cX4_init [(0, .aload_n 0, 1), (1, .invokespecial 3, 3), (4, .aload_n 0, 1), (5, .sipush 401, 3), (8, .newarray .int, 2), (10, .putfield 9, 3), (13, .aload_n 0, 1), (14, .sipush 401, 3), (17, .newarray .int, 2), (19, .putfield 15, 3), (22, .return_, 1)] = true := by decide +kernel
theorem dX4_init_0 : decode cX4_init 0 = .ok (.aload_n 0, 1) := dk_get dk_d00_90 0 rfl
theorem dX4_init_1 : decode cX4_init 1 = .ok (.invokespecial 3, 3) := dk_get dk_d00_90 1 rfl
theorem dX4_init_4 : decode cX4_init 4 = .ok (.aload_n 0, 1) := dk_get dk_d00_90 2 rfl
theorem dX4_init_5 : decode cX4_init 5 = .ok (.sipush 401, 3) := dk_get dk_d00_90 3 rfl
theorem dX4_init_8 : decode cX4_init 8 = .ok (.newarray .int, 2) := dk_get dk_d00_90 4 rfl
theorem dX4_init_10 : decode cX4_init 10 = .ok (.putfield 9, 3) := dk_get dk_d00_90 5 rfl
theorem dX4_init_13 : decode cX4_init 13 = .ok (.aload_n 0, 1) := dk_get dk_d00_90 6 rfl
theorem dX4_init_14 : decode cX4_init 14 = .ok (.sipush 401, 3) := dk_get dk_d00_90 7 rfl
theorem dX4_init_17 : decode cX4_init 17 = .ok (.newarray .int, 2) := dk_get dk_d00_90 8 rfl
theorem dX4_init_19 : decode cX4_init 19 = .ok (.putfield 15, 3) := dk_get dk_d00_90 9 rfl
theorem dX4_init_22 : decode cX4_init 22 = .ok (.return_, 1) := dk_get dk_d00_90 10 rfl
theorem dk_d00_91 : dkc cX4_seatsOf [(0, .aload_n 0, 1), (1, .getfield 9, 3), (4, .iconst 0, 1), (5, .invokestatic 18, 3), (8, .iconst 0, 1), (9, .istore 5, 2), (11, .iload 5, 2), (13, .iload_n 2, 1), (14, .if_icmp .ge 123, 3), (17, .iconst (-1), 1), (18, .istore 6, 2), (20, .iconst 0, 1), (21, .istore 7, 2), (23, .iconst 0, 1), (24, .istore 8, 2), (26, .iload 8, 2), (28, .aload_n 1, 1), (29, .getfield 24, 3), (32, .if_icmp .ge 83, 3), (35, .iload 8, 2), (37, .aload_n 0, 1), (38, .getfield 9, 3), (41, .arraylength, 1), (42, .if_icmp .ge 73, 3), (45, .iload_n 3, 1)] = true := by decide +kernel
theorem dX4_seatsOf_0 : decode cX4_seatsOf 0 = .ok (.aload_n 0, 1) := dk_get dk_d00_91 0 rfl
theorem dX4_seatsOf_1 : decode cX4_seatsOf 1 = .ok (.getfield 9, 3) := dk_get dk_d00_91 1 rfl
theorem dX4_seatsOf_4 : decode cX4_seatsOf 4 = .ok (.iconst 0, 1) := dk_get dk_d00_91 2 rfl
theorem dX4_seatsOf_5 : decode cX4_seatsOf 5 = .ok (.invokestatic 18, 3) := dk_get dk_d00_91 3 rfl
theorem dX4_seatsOf_8 : decode cX4_seatsOf 8 = .ok (.iconst 0, 1) := dk_get dk_d00_91 4 rfl
theorem dX4_seatsOf_9 : decode cX4_seatsOf 9 = .ok (.istore 5, 2) := dk_get dk_d00_91 5 rfl
theorem dX4_seatsOf_11 : decode cX4_seatsOf 11 = .ok (.iload 5, 2) := dk_get dk_d00_91 6 rfl
theorem dX4_seatsOf_13 : decode cX4_seatsOf 13 = .ok (.iload_n 2, 1) := dk_get dk_d00_91 7 rfl
theorem dX4_seatsOf_14 : decode cX4_seatsOf 14 = .ok (.if_icmp .ge 123, 3) := dk_get dk_d00_91 8 rfl
theorem dX4_seatsOf_17 : decode cX4_seatsOf 17 = .ok (.iconst (-1), 1) := dk_get dk_d00_91 9 rfl
theorem dX4_seatsOf_18 : decode cX4_seatsOf 18 = .ok (.istore 6, 2) := dk_get dk_d00_91 10 rfl
theorem dX4_seatsOf_20 : decode cX4_seatsOf 20 = .ok (.iconst 0, 1) := dk_get dk_d00_91 11 rfl
theorem dX4_seatsOf_21 : decode cX4_seatsOf 21 = .ok (.istore 7, 2) := dk_get dk_d00_91 12 rfl
theorem dX4_seatsOf_23 : decode cX4_seatsOf 23 = .ok (.iconst 0, 1) := dk_get dk_d00_91 13 rfl
theorem dX4_seatsOf_24 : decode cX4_seatsOf 24 = .ok (.istore 8, 2) := dk_get dk_d00_91 14 rfl
theorem dX4_seatsOf_26 : decode cX4_seatsOf 26 = .ok (.iload 8, 2) := dk_get dk_d00_91 15 rfl
theorem dX4_seatsOf_28 : decode cX4_seatsOf 28 = .ok (.aload_n 1, 1) := dk_get dk_d00_91 16 rfl
theorem dX4_seatsOf_29 : decode cX4_seatsOf 29 = .ok (.getfield 24, 3) := dk_get dk_d00_91 17 rfl
theorem dX4_seatsOf_32 : decode cX4_seatsOf 32 = .ok (.if_icmp .ge 83, 3) := dk_get dk_d00_91 18 rfl
theorem dX4_seatsOf_35 : decode cX4_seatsOf 35 = .ok (.iload 8, 2) := dk_get dk_d00_91 19 rfl
theorem dX4_seatsOf_37 : decode cX4_seatsOf 37 = .ok (.aload_n 0, 1) := dk_get dk_d00_91 20 rfl
theorem dX4_seatsOf_38 : decode cX4_seatsOf 38 = .ok (.getfield 9, 3) := dk_get dk_d00_91 21 rfl
theorem dX4_seatsOf_41 : decode cX4_seatsOf 41 = .ok (.arraylength, 1) := dk_get dk_d00_91 22 rfl
theorem dX4_seatsOf_42 : decode cX4_seatsOf 42 = .ok (.if_icmp .ge 73, 3) := dk_get dk_d00_91 23 rfl
theorem dX4_seatsOf_45 : decode cX4_seatsOf 45 = .ok (.iload_n 3, 1) := dk_get dk_d00_91 24 rfl
theorem dk_d00_92 : dkc cX4_seatsOf [(46, .ifCond .ne 15, 3), (49, .aload_n 0, 1), (50, .getfield 9, 3), (53, .iload 8, 2), (55, .iaload, 1), (56, .iconst 1, 1), (57, .iadd, 1), (58, .goto 14, 3), (61, .iconst 2, 1), (62, .aload_n 0, 1), (63, .getfield 9, 3), (66, .iload 8, 2), (68, .iaload, 1), (69, .imul, 1), (70, .iconst 1, 1), (71, .iadd, 1), (72, .istore 9, 2), (74, .iload 9, 2), (76, .ifCond .le 15, 3), (79, .aload_n 1, 1), (80, .iload 8, 2), (82, .invokevirtual 30, 3), (85, .iload 9, 2), (87, .idiv, 1), (88, .goto 4, 3)] = true := by decide +kernel
theorem dX4_seatsOf_46 : decode cX4_seatsOf 46 = .ok (.ifCond .ne 15, 3) := dk_get dk_d00_92 0 rfl
theorem dX4_seatsOf_49 : decode cX4_seatsOf 49 = .ok (.aload_n 0, 1) := dk_get dk_d00_92 1 rfl
theorem dX4_seatsOf_50 : decode cX4_seatsOf 50 = .ok (.getfield 9, 3) := dk_get dk_d00_92 2 rfl
theorem dX4_seatsOf_53 : decode cX4_seatsOf 53 = .ok (.iload 8, 2) := dk_get dk_d00_92 3 rfl
theorem dX4_seatsOf_55 : decode cX4_seatsOf 55 = .ok (.iaload, 1) := dk_get dk_d00_92 4 rfl
theorem dX4_seatsOf_56 : decode cX4_seatsOf 56 = .ok (.iconst 1, 1) := dk_get dk_d00_92 5 rfl
theorem dX4_seatsOf_57 : decode cX4_seatsOf 57 = .ok (.iadd, 1) := dk_get dk_d00_92 6 rfl
theorem dX4_seatsOf_58 : decode cX4_seatsOf 58 = .ok (.goto 14, 3) := dk_get dk_d00_92 7 rfl
theorem dX4_seatsOf_61 : decode cX4_seatsOf 61 = .ok (.iconst 2, 1) := dk_get dk_d00_92 8 rfl
theorem dX4_seatsOf_62 : decode cX4_seatsOf 62 = .ok (.aload_n 0, 1) := dk_get dk_d00_92 9 rfl
theorem dX4_seatsOf_63 : decode cX4_seatsOf 63 = .ok (.getfield 9, 3) := dk_get dk_d00_92 10 rfl
theorem dX4_seatsOf_66 : decode cX4_seatsOf 66 = .ok (.iload 8, 2) := dk_get dk_d00_92 11 rfl
theorem dX4_seatsOf_68 : decode cX4_seatsOf 68 = .ok (.iaload, 1) := dk_get dk_d00_92 12 rfl
theorem dX4_seatsOf_69 : decode cX4_seatsOf 69 = .ok (.imul, 1) := dk_get dk_d00_92 13 rfl
theorem dX4_seatsOf_70 : decode cX4_seatsOf 70 = .ok (.iconst 1, 1) := dk_get dk_d00_92 14 rfl
theorem dX4_seatsOf_71 : decode cX4_seatsOf 71 = .ok (.iadd, 1) := dk_get dk_d00_92 15 rfl
theorem dX4_seatsOf_72 : decode cX4_seatsOf 72 = .ok (.istore 9, 2) := dk_get dk_d00_92 16 rfl
theorem dX4_seatsOf_74 : decode cX4_seatsOf 74 = .ok (.iload 9, 2) := dk_get dk_d00_92 17 rfl
theorem dX4_seatsOf_76 : decode cX4_seatsOf 76 = .ok (.ifCond .le 15, 3) := dk_get dk_d00_92 18 rfl
theorem dX4_seatsOf_79 : decode cX4_seatsOf 79 = .ok (.aload_n 1, 1) := dk_get dk_d00_92 19 rfl
theorem dX4_seatsOf_80 : decode cX4_seatsOf 80 = .ok (.iload 8, 2) := dk_get dk_d00_92 20 rfl
theorem dX4_seatsOf_82 : decode cX4_seatsOf 82 = .ok (.invokevirtual 30, 3) := dk_get dk_d00_92 21 rfl
theorem dX4_seatsOf_85 : decode cX4_seatsOf 85 = .ok (.iload 9, 2) := dk_get dk_d00_92 22 rfl
theorem dX4_seatsOf_87 : decode cX4_seatsOf 87 = .ok (.idiv, 1) := dk_get dk_d00_92 23 rfl
theorem dX4_seatsOf_88 : decode cX4_seatsOf 88 = .ok (.goto 4, 3) := dk_get dk_d00_92 24 rfl
theorem dk_d00_93 : dkc cX4_seatsOf [(91, .iconst 0, 1), (92, .istore 10, 2), (94, .iload 10, 2), (96, .iload 7, 2), (98, .if_icmp .le 11, 3), (101, .iload 10, 2), (103, .istore 7, 2), (105, .iload 8, 2), (107, .istore 6, 2), (109, .iinc 8 1, 3), (112, .goto (-86), 3), (115, .iload 6, 2), (117, .ifCond .lt 14, 3), (120, .aload_n 0, 1), (121, .getfield 9, 3), (124, .iload 6, 2), (126, .dup2, 1), (127, .iaload, 1), (128, .iconst 1, 1), (129, .iadd, 1), (130, .iastore, 1), (131, .iinc 5 1, 3), (134, .goto (-123), 3), (137, .iload 4, 2), (139, .ifCond .lt 23, 3)] = true := by decide +kernel
theorem dX4_seatsOf_91 : decode cX4_seatsOf 91 = .ok (.iconst 0, 1) := dk_get dk_d00_93 0 rfl
theorem dX4_seatsOf_92 : decode cX4_seatsOf 92 = .ok (.istore 10, 2) := dk_get dk_d00_93 1 rfl
theorem dX4_seatsOf_94 : decode cX4_seatsOf 94 = .ok (.iload 10, 2) := dk_get dk_d00_93 2 rfl
theorem dX4_seatsOf_96 : decode cX4_seatsOf 96 = .ok (.iload 7, 2) := dk_get dk_d00_93 3 rfl
theorem dX4_seatsOf_98 : decode cX4_seatsOf 98 = .ok (.if_icmp .le 11, 3) := dk_get dk_d00_93 4 rfl
theorem dX4_seatsOf_101 : decode cX4_seatsOf 101 = .ok (.iload 10, 2) := dk_get dk_d00_93 5 rfl
theorem dX4_seatsOf_103 : decode cX4_seatsOf 103 = .ok (.istore 7, 2) := dk_get dk_d00_93 6 rfl
theorem dX4_seatsOf_105 : decode cX4_seatsOf 105 = .ok (.iload 8, 2) := dk_get dk_d00_93 7 rfl
theorem dX4_seatsOf_107 : decode cX4_seatsOf 107 = .ok (.istore 6, 2) := dk_get dk_d00_93 8 rfl
theorem dX4_seatsOf_109 : decode cX4_seatsOf 109 = .ok (.iinc 8 1, 3) := dk_get dk_d00_93 9 rfl
theorem dX4_seatsOf_112 : decode cX4_seatsOf 112 = .ok (.goto (-86), 3) := dk_get dk_d00_93 10 rfl
theorem dX4_seatsOf_115 : decode cX4_seatsOf 115 = .ok (.iload 6, 2) := dk_get dk_d00_93 11 rfl
theorem dX4_seatsOf_117 : decode cX4_seatsOf 117 = .ok (.ifCond .lt 14, 3) := dk_get dk_d00_93 12 rfl
theorem dX4_seatsOf_120 : decode cX4_seatsOf 120 = .ok (.aload_n 0, 1) := dk_get dk_d00_93 13 rfl
theorem dX4_seatsOf_121 : decode cX4_seatsOf 121 = .ok (.getfield 9, 3) := dk_get dk_d00_93 14 rfl
theorem dX4_seatsOf_124 : decode cX4_seatsOf 124 = .ok (.iload 6, 2) := dk_get dk_d00_93 15 rfl
theorem dX4_seatsOf_126 : decode cX4_seatsOf 126 = .ok (.dup2, 1) := dk_get dk_d00_93 16 rfl
theorem dX4_seatsOf_127 : decode cX4_seatsOf 127 = .ok (.iaload, 1) := dk_get dk_d00_93 17 rfl
theorem dX4_seatsOf_128 : decode cX4_seatsOf 128 = .ok (.iconst 1, 1) := dk_get dk_d00_93 18 rfl
theorem dX4_seatsOf_129 : decode cX4_seatsOf 129 = .ok (.iadd, 1) := dk_get dk_d00_93 19 rfl
theorem dX4_seatsOf_130 : decode cX4_seatsOf 130 = .ok (.iastore, 1) := dk_get dk_d00_93 20 rfl
theorem dX4_seatsOf_131 : decode cX4_seatsOf 131 = .ok (.iinc 5 1, 3) := dk_get dk_d00_93 21 rfl
theorem dX4_seatsOf_134 : decode cX4_seatsOf 134 = .ok (.goto (-123), 3) := dk_get dk_d00_93 22 rfl
theorem dX4_seatsOf_137 : decode cX4_seatsOf 137 = .ok (.iload 4, 2) := dk_get dk_d00_93 23 rfl
theorem dX4_seatsOf_139 : decode cX4_seatsOf 139 = .ok (.ifCond .lt 23, 3) := dk_get dk_d00_93 24 rfl
theorem dk_d00_94 : dkc cX4_seatsOf [(142, .iload 4, 2), (144, .aload_n 0, 1), (145, .getfield 9, 3), (148, .arraylength, 1), (149, .if_icmp .ge 13, 3), (152, .aload_n 0, 1), (153, .getfield 9, 3), (156, .iload 4, 2), (158, .iaload, 1), (159, .goto 4, 3), (162, .iconst 0, 1), (163, .ireturn, 1)] = true := by decide +kernel
theorem dX4_seatsOf_142 : decode cX4_seatsOf 142 = .ok (.iload 4, 2) := dk_get dk_d00_94 0 rfl
theorem dX4_seatsOf_144 : decode cX4_seatsOf 144 = .ok (.aload_n 0, 1) := dk_get dk_d00_94 1 rfl
theorem dX4_seatsOf_145 : decode cX4_seatsOf 145 = .ok (.getfield 9, 3) := dk_get dk_d00_94 2 rfl
theorem dX4_seatsOf_148 : decode cX4_seatsOf 148 = .ok (.arraylength, 1) := dk_get dk_d00_94 3 rfl
theorem dX4_seatsOf_149 : decode cX4_seatsOf 149 = .ok (.if_icmp .ge 13, 3) := dk_get dk_d00_94 4 rfl
theorem dX4_seatsOf_152 : decode cX4_seatsOf 152 = .ok (.aload_n 0, 1) := dk_get dk_d00_94 5 rfl
theorem dX4_seatsOf_153 : decode cX4_seatsOf 153 = .ok (.getfield 9, 3) := dk_get dk_d00_94 6 rfl
theorem dX4_seatsOf_156 : decode cX4_seatsOf 156 = .ok (.iload 4, 2) := dk_get dk_d00_94 7 rfl
theorem dX4_seatsOf_158 : decode cX4_seatsOf 158 = .ok (.iaload, 1) := dk_get dk_d00_94 8 rfl
theorem dX4_seatsOf_159 : decode cX4_seatsOf 159 = .ok (.goto 4, 3) := dk_get dk_d00_94 9 rfl
theorem dX4_seatsOf_162 : decode cX4_seatsOf 162 = .ok (.iconst 0, 1) := dk_get dk_d00_94 10 rfl
theorem dX4_seatsOf_163 : decode cX4_seatsOf 163 = .ok (.ireturn, 1) := dk_get dk_d00_94 11 rfl
theorem dk_d00_95 : dkc cX4_parishesFor [(0, .aload_n 1, 1), (1, .getfield 24, 3), (4, .aload_n 0, 1), (5, .getfield 9, 3), (8, .arraylength, 1), (9, .iconst 1, 1), (10, .isub, 1), (11, .invokestatic 34, 3), (14, .istore 4, 2), (16, .aload_n 0, 1), (17, .getfield 9, 3), (20, .iconst (-1), 1), (21, .invokestatic 18, 3), (24, .aload_n 0, 1), (25, .getfield 9, 3), (28, .iconst 0, 1), (29, .iconst 0, 1), (30, .iastore, 1), (31, .aload_n 0, 1), (32, .getfield 15, 3), (35, .iconst 0, 1), (36, .iconst 0, 1), (37, .iastore, 1), (38, .iconst 0, 1), (39, .istore 5, 2)] = true := by decide +kernel
theorem dX4_parishesFor_0 : decode cX4_parishesFor 0 = .ok (.aload_n 1, 1) := dk_get dk_d00_95 0 rfl
theorem dX4_parishesFor_1 : decode cX4_parishesFor 1 = .ok (.getfield 24, 3) := dk_get dk_d00_95 1 rfl
theorem dX4_parishesFor_4 : decode cX4_parishesFor 4 = .ok (.aload_n 0, 1) := dk_get dk_d00_95 2 rfl
theorem dX4_parishesFor_5 : decode cX4_parishesFor 5 = .ok (.getfield 9, 3) := dk_get dk_d00_95 3 rfl
theorem dX4_parishesFor_8 : decode cX4_parishesFor 8 = .ok (.arraylength, 1) := dk_get dk_d00_95 4 rfl
theorem dX4_parishesFor_9 : decode cX4_parishesFor 9 = .ok (.iconst 1, 1) := dk_get dk_d00_95 5 rfl
theorem dX4_parishesFor_10 : decode cX4_parishesFor 10 = .ok (.isub, 1) := dk_get dk_d00_95 6 rfl
theorem dX4_parishesFor_11 : decode cX4_parishesFor 11 = .ok (.invokestatic 34, 3) := dk_get dk_d00_95 7 rfl
theorem dX4_parishesFor_14 : decode cX4_parishesFor 14 = .ok (.istore 4, 2) := dk_get dk_d00_95 8 rfl
theorem dX4_parishesFor_16 : decode cX4_parishesFor 16 = .ok (.aload_n 0, 1) := dk_get dk_d00_95 9 rfl
theorem dX4_parishesFor_17 : decode cX4_parishesFor 17 = .ok (.getfield 9, 3) := dk_get dk_d00_95 10 rfl
theorem dX4_parishesFor_20 : decode cX4_parishesFor 20 = .ok (.iconst (-1), 1) := dk_get dk_d00_95 11 rfl
theorem dX4_parishesFor_21 : decode cX4_parishesFor 21 = .ok (.invokestatic 18, 3) := dk_get dk_d00_95 12 rfl
theorem dX4_parishesFor_24 : decode cX4_parishesFor 24 = .ok (.aload_n 0, 1) := dk_get dk_d00_95 13 rfl
theorem dX4_parishesFor_25 : decode cX4_parishesFor 25 = .ok (.getfield 9, 3) := dk_get dk_d00_95 14 rfl
theorem dX4_parishesFor_28 : decode cX4_parishesFor 28 = .ok (.iconst 0, 1) := dk_get dk_d00_95 15 rfl
theorem dX4_parishesFor_29 : decode cX4_parishesFor 29 = .ok (.iconst 0, 1) := dk_get dk_d00_95 16 rfl
theorem dX4_parishesFor_30 : decode cX4_parishesFor 30 = .ok (.iastore, 1) := dk_get dk_d00_95 17 rfl
theorem dX4_parishesFor_31 : decode cX4_parishesFor 31 = .ok (.aload_n 0, 1) := dk_get dk_d00_95 18 rfl
theorem dX4_parishesFor_32 : decode cX4_parishesFor 32 = .ok (.getfield 15, 3) := dk_get dk_d00_95 19 rfl
theorem dX4_parishesFor_35 : decode cX4_parishesFor 35 = .ok (.iconst 0, 1) := dk_get dk_d00_95 20 rfl
theorem dX4_parishesFor_36 : decode cX4_parishesFor 36 = .ok (.iconst 0, 1) := dk_get dk_d00_95 21 rfl
theorem dX4_parishesFor_37 : decode cX4_parishesFor 37 = .ok (.iastore, 1) := dk_get dk_d00_95 22 rfl
theorem dX4_parishesFor_38 : decode cX4_parishesFor 38 = .ok (.iconst 0, 1) := dk_get dk_d00_95 23 rfl
theorem dX4_parishesFor_39 : decode cX4_parishesFor 39 = .ok (.istore 5, 2) := dk_get dk_d00_95 24 rfl
theorem dk_d00_96 : dkc cX4_parishesFor [(41, .iload 5, 2), (43, .iload 4, 2), (45, .if_icmp .ge 32, 3), (48, .aload_n 0, 1), (49, .getfield 15, 3), (52, .iload 5, 2), (54, .iconst 1, 1), (55, .iadd, 1), (56, .aload_n 0, 1), (57, .getfield 15, 3), (60, .iload 5, 2), (62, .iaload, 1), (63, .aload_n 1, 1), (64, .iload 5, 2), (66, .invokevirtual 30, 3), (69, .iadd, 1), (70, .iastore, 1), (71, .iinc 5 1, 3), (74, .goto (-33), 3), (77, .iconst 0, 1), (78, .istore 5, 2), (80, .iload 5, 2), (82, .iload_n 2, 1), (83, .if_icmp .ge 38, 3), (86, .iload 4, 2)] = true := by decide +kernel
theorem dX4_parishesFor_41 : decode cX4_parishesFor 41 = .ok (.iload 5, 2) := dk_get dk_d00_96 0 rfl
theorem dX4_parishesFor_43 : decode cX4_parishesFor 43 = .ok (.iload 4, 2) := dk_get dk_d00_96 1 rfl
theorem dX4_parishesFor_45 : decode cX4_parishesFor 45 = .ok (.if_icmp .ge 32, 3) := dk_get dk_d00_96 2 rfl
theorem dX4_parishesFor_48 : decode cX4_parishesFor 48 = .ok (.aload_n 0, 1) := dk_get dk_d00_96 3 rfl
theorem dX4_parishesFor_49 : decode cX4_parishesFor 49 = .ok (.getfield 15, 3) := dk_get dk_d00_96 4 rfl
theorem dX4_parishesFor_52 : decode cX4_parishesFor 52 = .ok (.iload 5, 2) := dk_get dk_d00_96 5 rfl
theorem dX4_parishesFor_54 : decode cX4_parishesFor 54 = .ok (.iconst 1, 1) := dk_get dk_d00_96 6 rfl
theorem dX4_parishesFor_55 : decode cX4_parishesFor 55 = .ok (.iadd, 1) := dk_get dk_d00_96 7 rfl
theorem dX4_parishesFor_56 : decode cX4_parishesFor 56 = .ok (.aload_n 0, 1) := dk_get dk_d00_96 8 rfl
theorem dX4_parishesFor_57 : decode cX4_parishesFor 57 = .ok (.getfield 15, 3) := dk_get dk_d00_96 9 rfl
theorem dX4_parishesFor_60 : decode cX4_parishesFor 60 = .ok (.iload 5, 2) := dk_get dk_d00_96 10 rfl
theorem dX4_parishesFor_62 : decode cX4_parishesFor 62 = .ok (.iaload, 1) := dk_get dk_d00_96 11 rfl
theorem dX4_parishesFor_63 : decode cX4_parishesFor 63 = .ok (.aload_n 1, 1) := dk_get dk_d00_96 12 rfl
theorem dX4_parishesFor_64 : decode cX4_parishesFor 64 = .ok (.iload 5, 2) := dk_get dk_d00_96 13 rfl
theorem dX4_parishesFor_66 : decode cX4_parishesFor 66 = .ok (.invokevirtual 30, 3) := dk_get dk_d00_96 14 rfl
theorem dX4_parishesFor_69 : decode cX4_parishesFor 69 = .ok (.iadd, 1) := dk_get dk_d00_96 15 rfl
theorem dX4_parishesFor_70 : decode cX4_parishesFor 70 = .ok (.iastore, 1) := dk_get dk_d00_96 16 rfl
theorem dX4_parishesFor_71 : decode cX4_parishesFor 71 = .ok (.iinc 5 1, 3) := dk_get dk_d00_96 17 rfl
theorem dX4_parishesFor_74 : decode cX4_parishesFor 74 = .ok (.goto (-33), 3) := dk_get dk_d00_96 18 rfl
theorem dX4_parishesFor_77 : decode cX4_parishesFor 77 = .ok (.iconst 0, 1) := dk_get dk_d00_96 19 rfl
theorem dX4_parishesFor_78 : decode cX4_parishesFor 78 = .ok (.istore 5, 2) := dk_get dk_d00_96 20 rfl
theorem dX4_parishesFor_80 : decode cX4_parishesFor 80 = .ok (.iload 5, 2) := dk_get dk_d00_96 21 rfl
theorem dX4_parishesFor_82 : decode cX4_parishesFor 82 = .ok (.iload_n 2, 1) := dk_get dk_d00_96 22 rfl
theorem dX4_parishesFor_83 : decode cX4_parishesFor 83 = .ok (.if_icmp .ge 38, 3) := dk_get dk_d00_96 23 rfl
theorem dX4_parishesFor_86 : decode cX4_parishesFor 86 = .ok (.iload 4, 2) := dk_get dk_d00_96 24 rfl
theorem dk_d00_97 : dkc cX4_parishesFor [(88, .istore 6, 2), (90, .iload 6, 2), (92, .ifCond .lt 23, 3), (95, .aload_n 0, 1), (96, .getfield 9, 3), (99, .iload 6, 2), (101, .aload_n 0, 1), (102, .iload 6, 2), (104, .iload_n 3, 1), (105, .invokevirtual 40, 3), (108, .iastore, 1), (109, .iinc 6 (-1), 3), (112, .goto (-22), 3), (115, .iinc 5 1, 3), (118, .goto (-38), 3), (121, .aload_n 0, 1), (122, .getfield 9, 3), (125, .iload 4, 2), (127, .iaload, 1), (128, .ireturn, 1)] = true := by decide +kernel
theorem dX4_parishesFor_88 : decode cX4_parishesFor 88 = .ok (.istore 6, 2) := dk_get dk_d00_97 0 rfl
theorem dX4_parishesFor_90 : decode cX4_parishesFor 90 = .ok (.iload 6, 2) := dk_get dk_d00_97 1 rfl
theorem dX4_parishesFor_92 : decode cX4_parishesFor 92 = .ok (.ifCond .lt 23, 3) := dk_get dk_d00_97 2 rfl
theorem dX4_parishesFor_95 : decode cX4_parishesFor 95 = .ok (.aload_n 0, 1) := dk_get dk_d00_97 3 rfl
theorem dX4_parishesFor_96 : decode cX4_parishesFor 96 = .ok (.getfield 9, 3) := dk_get dk_d00_97 4 rfl
theorem dX4_parishesFor_99 : decode cX4_parishesFor 99 = .ok (.iload 6, 2) := dk_get dk_d00_97 5 rfl
theorem dX4_parishesFor_101 : decode cX4_parishesFor 101 = .ok (.aload_n 0, 1) := dk_get dk_d00_97 6 rfl
theorem dX4_parishesFor_102 : decode cX4_parishesFor 102 = .ok (.iload 6, 2) := dk_get dk_d00_97 7 rfl
theorem dX4_parishesFor_104 : decode cX4_parishesFor 104 = .ok (.iload_n 3, 1) := dk_get dk_d00_97 8 rfl
theorem dX4_parishesFor_105 : decode cX4_parishesFor 105 = .ok (.invokevirtual 40, 3) := dk_get dk_d00_97 9 rfl
theorem dX4_parishesFor_108 : decode cX4_parishesFor 108 = .ok (.iastore, 1) := dk_get dk_d00_97 10 rfl
theorem dX4_parishesFor_109 : decode cX4_parishesFor 109 = .ok (.iinc 6 (-1), 3) := dk_get dk_d00_97 11 rfl
theorem dX4_parishesFor_112 : decode cX4_parishesFor 112 = .ok (.goto (-22), 3) := dk_get dk_d00_97 12 rfl
theorem dX4_parishesFor_115 : decode cX4_parishesFor 115 = .ok (.iinc 5 1, 3) := dk_get dk_d00_97 13 rfl
theorem dX4_parishesFor_118 : decode cX4_parishesFor 118 = .ok (.goto (-38), 3) := dk_get dk_d00_97 14 rfl
theorem dX4_parishesFor_121 : decode cX4_parishesFor 121 = .ok (.aload_n 0, 1) := dk_get dk_d00_97 15 rfl
theorem dX4_parishesFor_122 : decode cX4_parishesFor 122 = .ok (.getfield 9, 3) := dk_get dk_d00_97 16 rfl
theorem dX4_parishesFor_125 : decode cX4_parishesFor 125 = .ok (.iload 4, 2) := dk_get dk_d00_97 17 rfl
theorem dX4_parishesFor_127 : decode cX4_parishesFor 127 = .ok (.iaload, 1) := dk_get dk_d00_97 18 rfl
theorem dX4_parishesFor_128 : decode cX4_parishesFor 128 = .ok (.ireturn, 1) := dk_get dk_d00_97 19 rfl
theorem dk_d00_98 : dkc cX4_lastParish [(0, .iconst (-1), 1), (1, .istore_n 3, 1), (2, .iconst 0, 1), (3, .istore 4, 2), (5, .iload 4, 2), (7, .iload_n 1, 1), (8, .if_icmp .ge 98, 3), (11, .iload_n 1, 1), (12, .aload_n 0, 1), (13, .getfield 9, 3), (16, .arraylength, 1), (17, .if_icmp .ge 89, 3), (20, .aload_n 0, 1), (21, .getfield 9, 3), (24, .iload 4, 2), (26, .iaload, 1), (27, .iconst (-1), 1), (28, .if_icmp .eq 72, 3), (31, .iconst 2, 1), (32, .aload_n 0, 1), (33, .getfield 15, 3), (36, .iload_n 1, 1), (37, .iaload, 1), (38, .aload_n 0, 1), (39, .getfield 15, 3)] = true := by decide +kernel
theorem dX4_lastParish_0 : decode cX4_lastParish 0 = .ok (.iconst (-1), 1) := dk_get dk_d00_98 0 rfl
theorem dX4_lastParish_1 : decode cX4_lastParish 1 = .ok (.istore_n 3, 1) := dk_get dk_d00_98 1 rfl
theorem dX4_lastParish_2 : decode cX4_lastParish 2 = .ok (.iconst 0, 1) := dk_get dk_d00_98 2 rfl
theorem dX4_lastParish_3 : decode cX4_lastParish 3 = .ok (.istore 4, 2) := dk_get dk_d00_98 3 rfl
theorem dX4_lastParish_5 : decode cX4_lastParish 5 = .ok (.iload 4, 2) := dk_get dk_d00_98 4 rfl
theorem dX4_lastParish_7 : decode cX4_lastParish 7 = .ok (.iload_n 1, 1) := dk_get dk_d00_98 5 rfl
theorem dX4_lastParish_8 : decode cX4_lastParish 8 = .ok (.if_icmp .ge 98, 3) := dk_get dk_d00_98 6 rfl
theorem dX4_lastParish_11 : decode cX4_lastParish 11 = .ok (.iload_n 1, 1) := dk_get dk_d00_98 7 rfl
theorem dX4_lastParish_12 : decode cX4_lastParish 12 = .ok (.aload_n 0, 1) := dk_get dk_d00_98 8 rfl
theorem dX4_lastParish_13 : decode cX4_lastParish 13 = .ok (.getfield 9, 3) := dk_get dk_d00_98 9 rfl
theorem dX4_lastParish_16 : decode cX4_lastParish 16 = .ok (.arraylength, 1) := dk_get dk_d00_98 10 rfl
theorem dX4_lastParish_17 : decode cX4_lastParish 17 = .ok (.if_icmp .ge 89, 3) := dk_get dk_d00_98 11 rfl
theorem dX4_lastParish_20 : decode cX4_lastParish 20 = .ok (.aload_n 0, 1) := dk_get dk_d00_98 12 rfl
theorem dX4_lastParish_21 : decode cX4_lastParish 21 = .ok (.getfield 9, 3) := dk_get dk_d00_98 13 rfl
theorem dX4_lastParish_24 : decode cX4_lastParish 24 = .ok (.iload 4, 2) := dk_get dk_d00_98 14 rfl
theorem dX4_lastParish_26 : decode cX4_lastParish 26 = .ok (.iaload, 1) := dk_get dk_d00_98 15 rfl
theorem dX4_lastParish_27 : decode cX4_lastParish 27 = .ok (.iconst (-1), 1) := dk_get dk_d00_98 16 rfl
theorem dX4_lastParish_28 : decode cX4_lastParish 28 = .ok (.if_icmp .eq 72, 3) := dk_get dk_d00_98 17 rfl
theorem dX4_lastParish_31 : decode cX4_lastParish 31 = .ok (.iconst 2, 1) := dk_get dk_d00_98 18 rfl
theorem dX4_lastParish_32 : decode cX4_lastParish 32 = .ok (.aload_n 0, 1) := dk_get dk_d00_98 19 rfl
theorem dX4_lastParish_33 : decode cX4_lastParish 33 = .ok (.getfield 15, 3) := dk_get dk_d00_98 20 rfl
theorem dX4_lastParish_36 : decode cX4_lastParish 36 = .ok (.iload_n 1, 1) := dk_get dk_d00_98 21 rfl
theorem dX4_lastParish_37 : decode cX4_lastParish 37 = .ok (.iaload, 1) := dk_get dk_d00_98 22 rfl
theorem dX4_lastParish_38 : decode cX4_lastParish 38 = .ok (.aload_n 0, 1) := dk_get dk_d00_98 23 rfl
theorem dX4_lastParish_39 : decode cX4_lastParish 39 = .ok (.getfield 15, 3) := dk_get dk_d00_98 24 rfl
theorem dk_d00_99 : dkc cX4_lastParish [(42, .iload 4, 2), (44, .iaload, 1), (45, .isub, 1), (46, .imul, 1), (47, .iload_n 1, 1), (48, .iload 4, 2), (50, .isub, 1), (51, .if_icmp .le 7, 3), (54, .iconst 1, 1), (55, .goto 4, 3), (58, .iconst 0, 1), (59, .istore 5, 2), (61, .aload_n 0, 1), (62, .getfield 9, 3), (65, .iload 4, 2), (67, .iaload, 1), (68, .iload 5, 2), (70, .iadd, 1), (71, .istore 6, 2), (73, .iload_n 3, 1), (74, .iconst (-1), 1), (75, .if_icmp .eq 22, 3), (78, .iload_n 2, 1), (79, .ifCond .eq 12, 3), (82, .iload 6, 2)] = true := by decide +kernel
theorem dX4_lastParish_42 : decode cX4_lastParish 42 = .ok (.iload 4, 2) := dk_get dk_d00_99 0 rfl
theorem dX4_lastParish_44 : decode cX4_lastParish 44 = .ok (.iaload, 1) := dk_get dk_d00_99 1 rfl
theorem dX4_lastParish_45 : decode cX4_lastParish 45 = .ok (.isub, 1) := dk_get dk_d00_99 2 rfl
theorem dX4_lastParish_46 : decode cX4_lastParish 46 = .ok (.imul, 1) := dk_get dk_d00_99 3 rfl
theorem dX4_lastParish_47 : decode cX4_lastParish 47 = .ok (.iload_n 1, 1) := dk_get dk_d00_99 4 rfl
theorem dX4_lastParish_48 : decode cX4_lastParish 48 = .ok (.iload 4, 2) := dk_get dk_d00_99 5 rfl
theorem dX4_lastParish_50 : decode cX4_lastParish 50 = .ok (.isub, 1) := dk_get dk_d00_99 6 rfl
theorem dX4_lastParish_51 : decode cX4_lastParish 51 = .ok (.if_icmp .le 7, 3) := dk_get dk_d00_99 7 rfl
theorem dX4_lastParish_54 : decode cX4_lastParish 54 = .ok (.iconst 1, 1) := dk_get dk_d00_99 8 rfl
theorem dX4_lastParish_55 : decode cX4_lastParish 55 = .ok (.goto 4, 3) := dk_get dk_d00_99 9 rfl
theorem dX4_lastParish_58 : decode cX4_lastParish 58 = .ok (.iconst 0, 1) := dk_get dk_d00_99 10 rfl
theorem dX4_lastParish_59 : decode cX4_lastParish 59 = .ok (.istore 5, 2) := dk_get dk_d00_99 11 rfl
theorem dX4_lastParish_61 : decode cX4_lastParish 61 = .ok (.aload_n 0, 1) := dk_get dk_d00_99 12 rfl
theorem dX4_lastParish_62 : decode cX4_lastParish 62 = .ok (.getfield 9, 3) := dk_get dk_d00_99 13 rfl
theorem dX4_lastParish_65 : decode cX4_lastParish 65 = .ok (.iload 4, 2) := dk_get dk_d00_99 14 rfl
theorem dX4_lastParish_67 : decode cX4_lastParish 67 = .ok (.iaload, 1) := dk_get dk_d00_99 15 rfl
theorem dX4_lastParish_68 : decode cX4_lastParish 68 = .ok (.iload 5, 2) := dk_get dk_d00_99 16 rfl
theorem dX4_lastParish_70 : decode cX4_lastParish 70 = .ok (.iadd, 1) := dk_get dk_d00_99 17 rfl
theorem dX4_lastParish_71 : decode cX4_lastParish 71 = .ok (.istore 6, 2) := dk_get dk_d00_99 18 rfl
theorem dX4_lastParish_73 : decode cX4_lastParish 73 = .ok (.iload_n 3, 1) := dk_get dk_d00_99 19 rfl
theorem dX4_lastParish_74 : decode cX4_lastParish 74 = .ok (.iconst (-1), 1) := dk_get dk_d00_99 20 rfl
theorem dX4_lastParish_75 : decode cX4_lastParish 75 = .ok (.if_icmp .eq 22, 3) := dk_get dk_d00_99 21 rfl
theorem dX4_lastParish_78 : decode cX4_lastParish 78 = .ok (.iload_n 2, 1) := dk_get dk_d00_99 22 rfl
theorem dX4_lastParish_79 : decode cX4_lastParish 79 = .ok (.ifCond .eq 12, 3) := dk_get dk_d00_99 23 rfl
theorem dX4_lastParish_82 : decode cX4_lastParish 82 = .ok (.iload 6, 2) := dk_get dk_d00_99 24 rfl
theorem dk_d00_100 : dkc cX4_lastParish [(84, .iload_n 3, 1), (85, .if_icmp .le 15, 3), (88, .goto 9, 3), (91, .iload 6, 2), (93, .iload_n 3, 1), (94, .if_icmp .ge 6, 3), (97, .iload 6, 2), (99, .istore_n 3, 1), (100, .iinc 4 1, 3), (103, .goto (-98), 3), (106, .iload_n 3, 1), (107, .ireturn, 1)] = true := by decide +kernel
theorem dX4_lastParish_84 : decode cX4_lastParish 84 = .ok (.iload_n 3, 1) := dk_get dk_d00_100 0 rfl
theorem dX4_lastParish_85 : decode cX4_lastParish 85 = .ok (.if_icmp .le 15, 3) := dk_get dk_d00_100 1 rfl
theorem dX4_lastParish_88 : decode cX4_lastParish 88 = .ok (.goto 9, 3) := dk_get dk_d00_100 2 rfl
theorem dX4_lastParish_91 : decode cX4_lastParish 91 = .ok (.iload 6, 2) := dk_get dk_d00_100 3 rfl
theorem dX4_lastParish_93 : decode cX4_lastParish 93 = .ok (.iload_n 3, 1) := dk_get dk_d00_100 4 rfl
theorem dX4_lastParish_94 : decode cX4_lastParish 94 = .ok (.if_icmp .ge 6, 3) := dk_get dk_d00_100 5 rfl
theorem dX4_lastParish_97 : decode cX4_lastParish 97 = .ok (.iload 6, 2) := dk_get dk_d00_100 6 rfl
theorem dX4_lastParish_99 : decode cX4_lastParish 99 = .ok (.istore_n 3, 1) := dk_get dk_d00_100 7 rfl
theorem dX4_lastParish_100 : decode cX4_lastParish 100 = .ok (.iinc 4 1, 3) := dk_get dk_d00_100 8 rfl
theorem dX4_lastParish_103 : decode cX4_lastParish 103 = .ok (.goto (-98), 3) := dk_get dk_d00_100 9 rfl
theorem dX4_lastParish_106 : decode cX4_lastParish 106 = .ok (.iload_n 3, 1) := dk_get dk_d00_100 10 rfl
theorem dX4_lastParish_107 : decode cX4_lastParish 107 = .ok (.ireturn, 1) := dk_get dk_d00_100 11 rfl
theorem dk_d00_101 : dkc cX4_middleOf [(0, .aload_n 1, 1), (1, .getfield 24, 3), (4, .iconst 1, 1), (5, .iadd, 1), (6, .iconst 2, 1), (7, .idiv, 1), (8, .istore_n 2, 1), (9, .iload_n 2, 1), (10, .ifCond .ne 5, 3), (13, .iconst (-1), 1), (14, .ireturn, 1), (15, .iconst 0, 1), (16, .istore_n 3, 1), (17, .iload_n 3, 1), (18, .bipush 99, 2), (20, .if_icmp .gt 58, 3), (23, .iconst 0, 1), (24, .istore 4, 2), (26, .iconst 0, 1), (27, .istore 5, 2), (29, .iload 5, 2), (31, .aload_n 1, 1), (32, .getfield 24, 3), (35, .if_icmp .ge 29, 3), (38, .iload 4, 2)] = true := by decide +kernel
theorem dX4_middleOf_0 : decode cX4_middleOf 0 = .ok (.aload_n 1, 1) := dk_get dk_d00_101 0 rfl
theorem dX4_middleOf_1 : decode cX4_middleOf 1 = .ok (.getfield 24, 3) := dk_get dk_d00_101 1 rfl
theorem dX4_middleOf_4 : decode cX4_middleOf 4 = .ok (.iconst 1, 1) := dk_get dk_d00_101 2 rfl
theorem dX4_middleOf_5 : decode cX4_middleOf 5 = .ok (.iadd, 1) := dk_get dk_d00_101 3 rfl
theorem dX4_middleOf_6 : decode cX4_middleOf 6 = .ok (.iconst 2, 1) := dk_get dk_d00_101 4 rfl
theorem dX4_middleOf_7 : decode cX4_middleOf 7 = .ok (.idiv, 1) := dk_get dk_d00_101 5 rfl
theorem dX4_middleOf_8 : decode cX4_middleOf 8 = .ok (.istore_n 2, 1) := dk_get dk_d00_101 6 rfl
theorem dX4_middleOf_9 : decode cX4_middleOf 9 = .ok (.iload_n 2, 1) := dk_get dk_d00_101 7 rfl
theorem dX4_middleOf_10 : decode cX4_middleOf 10 = .ok (.ifCond .ne 5, 3) := dk_get dk_d00_101 8 rfl
theorem dX4_middleOf_13 : decode cX4_middleOf 13 = .ok (.iconst (-1), 1) := dk_get dk_d00_101 9 rfl
theorem dX4_middleOf_14 : decode cX4_middleOf 14 = .ok (.ireturn, 1) := dk_get dk_d00_101 10 rfl
theorem dX4_middleOf_15 : decode cX4_middleOf 15 = .ok (.iconst 0, 1) := dk_get dk_d00_101 11 rfl
theorem dX4_middleOf_16 : decode cX4_middleOf 16 = .ok (.istore_n 3, 1) := dk_get dk_d00_101 12 rfl
theorem dX4_middleOf_17 : decode cX4_middleOf 17 = .ok (.iload_n 3, 1) := dk_get dk_d00_101 13 rfl
theorem dX4_middleOf_18 : decode cX4_middleOf 18 = .ok (.bipush 99, 2) := dk_get dk_d00_101 14 rfl
theorem dX4_middleOf_20 : decode cX4_middleOf 20 = .ok (.if_icmp .gt 58, 3) := dk_get dk_d00_101 15 rfl
theorem dX4_middleOf_23 : decode cX4_middleOf 23 = .ok (.iconst 0, 1) := dk_get dk_d00_101 16 rfl
theorem dX4_middleOf_24 : decode cX4_middleOf 24 = .ok (.istore 4, 2) := dk_get dk_d00_101 17 rfl
theorem dX4_middleOf_26 : decode cX4_middleOf 26 = .ok (.iconst 0, 1) := dk_get dk_d00_101 18 rfl
theorem dX4_middleOf_27 : decode cX4_middleOf 27 = .ok (.istore 5, 2) := dk_get dk_d00_101 19 rfl
theorem dX4_middleOf_29 : decode cX4_middleOf 29 = .ok (.iload 5, 2) := dk_get dk_d00_101 20 rfl
theorem dX4_middleOf_31 : decode cX4_middleOf 31 = .ok (.aload_n 1, 1) := dk_get dk_d00_101 21 rfl
theorem dX4_middleOf_32 : decode cX4_middleOf 32 = .ok (.getfield 24, 3) := dk_get dk_d00_101 22 rfl
theorem dX4_middleOf_35 : decode cX4_middleOf 35 = .ok (.if_icmp .ge 29, 3) := dk_get dk_d00_101 23 rfl
theorem dX4_middleOf_38 : decode cX4_middleOf 38 = .ok (.iload 4, 2) := dk_get dk_d00_101 24 rfl
theorem dk_d00_102 : dkc cX4_middleOf [(40, .aload_n 1, 1), (41, .iload 5, 2), (43, .invokevirtual 30, 3), (46, .iload_n 3, 1), (47, .if_icmp .gt 7, 3), (50, .iconst 1, 1), (51, .goto 4, 3), (54, .iconst 0, 1), (55, .iadd, 1), (56, .istore 4, 2), (58, .iinc 5 1, 3), (61, .goto (-32), 3), (64, .iload 4, 2), (66, .iload_n 2, 1), (67, .if_icmp .lt 5, 3), (70, .iload_n 3, 1), (71, .ireturn, 1), (72, .iinc 3 1, 3), (75, .goto (-58), 3), (78, .iconst (-1), 1), (79, .ireturn, 1)] = true := by decide +kernel
theorem dX4_middleOf_40 : decode cX4_middleOf 40 = .ok (.aload_n 1, 1) := dk_get dk_d00_102 0 rfl
theorem dX4_middleOf_41 : decode cX4_middleOf 41 = .ok (.iload 5, 2) := dk_get dk_d00_102 1 rfl
theorem dX4_middleOf_43 : decode cX4_middleOf 43 = .ok (.invokevirtual 30, 3) := dk_get dk_d00_102 2 rfl
theorem dX4_middleOf_46 : decode cX4_middleOf 46 = .ok (.iload_n 3, 1) := dk_get dk_d00_102 3 rfl
theorem dX4_middleOf_47 : decode cX4_middleOf 47 = .ok (.if_icmp .gt 7, 3) := dk_get dk_d00_102 4 rfl
theorem dX4_middleOf_50 : decode cX4_middleOf 50 = .ok (.iconst 1, 1) := dk_get dk_d00_102 5 rfl
theorem dX4_middleOf_51 : decode cX4_middleOf 51 = .ok (.goto 4, 3) := dk_get dk_d00_102 6 rfl
theorem dX4_middleOf_54 : decode cX4_middleOf 54 = .ok (.iconst 0, 1) := dk_get dk_d00_102 7 rfl
theorem dX4_middleOf_55 : decode cX4_middleOf 55 = .ok (.iadd, 1) := dk_get dk_d00_102 8 rfl
theorem dX4_middleOf_56 : decode cX4_middleOf 56 = .ok (.istore 4, 2) := dk_get dk_d00_102 9 rfl
theorem dX4_middleOf_58 : decode cX4_middleOf 58 = .ok (.iinc 5 1, 3) := dk_get dk_d00_102 10 rfl
theorem dX4_middleOf_61 : decode cX4_middleOf 61 = .ok (.goto (-32), 3) := dk_get dk_d00_102 11 rfl
theorem dX4_middleOf_64 : decode cX4_middleOf 64 = .ok (.iload 4, 2) := dk_get dk_d00_102 12 rfl
theorem dX4_middleOf_66 : decode cX4_middleOf 66 = .ok (.iload_n 2, 1) := dk_get dk_d00_102 13 rfl
theorem dX4_middleOf_67 : decode cX4_middleOf 67 = .ok (.if_icmp .lt 5, 3) := dk_get dk_d00_102 14 rfl
theorem dX4_middleOf_70 : decode cX4_middleOf 70 = .ok (.iload_n 3, 1) := dk_get dk_d00_102 15 rfl
theorem dX4_middleOf_71 : decode cX4_middleOf 71 = .ok (.ireturn, 1) := dk_get dk_d00_102 16 rfl
theorem dX4_middleOf_72 : decode cX4_middleOf 72 = .ok (.iinc 3 1, 3) := dk_get dk_d00_102 17 rfl
theorem dX4_middleOf_75 : decode cX4_middleOf 75 = .ok (.goto (-58), 3) := dk_get dk_d00_102 18 rfl
theorem dX4_middleOf_78 : decode cX4_middleOf 78 = .ok (.iconst (-1), 1) := dk_get dk_d00_102 19 rfl
theorem dX4_middleOf_79 : decode cX4_middleOf 79 = .ok (.ireturn, 1) := dk_get dk_d00_102 20 rfl
theorem dk_d00_103 : dkc cX4_farFromMiddle [(0, .aload_n 0, 1), (1, .aload_n 1, 1), (2, .invokevirtual 44, 3), (5, .istore_n 2, 1), (6, .iconst 0, 1), (7, .istore_n 3, 1), (8, .iconst 0, 1), (9, .istore 4, 2), (11, .iload 4, 2), (13, .aload_n 1, 1), (14, .getfield 24, 3), (17, .if_icmp .ge 23, 3), (20, .iload_n 3, 1), (21, .aload_n 1, 1), (22, .iload 4, 2), (24, .invokevirtual 30, 3), (27, .iload_n 2, 1), (28, .isub, 1), (29, .invokestatic 48, 3), (32, .iadd, 1), (33, .istore_n 3, 1), (34, .iinc 4 1, 3), (37, .goto (-26), 3), (40, .iload_n 3, 1), (41, .ireturn, 1)] = true := by decide +kernel
theorem dX4_farFromMiddle_0 : decode cX4_farFromMiddle 0 = .ok (.aload_n 0, 1) := dk_get dk_d00_103 0 rfl
theorem dX4_farFromMiddle_1 : decode cX4_farFromMiddle 1 = .ok (.aload_n 1, 1) := dk_get dk_d00_103 1 rfl
theorem dX4_farFromMiddle_2 : decode cX4_farFromMiddle 2 = .ok (.invokevirtual 44, 3) := dk_get dk_d00_103 2 rfl
theorem dX4_farFromMiddle_5 : decode cX4_farFromMiddle 5 = .ok (.istore_n 2, 1) := dk_get dk_d00_103 3 rfl
theorem dX4_farFromMiddle_6 : decode cX4_farFromMiddle 6 = .ok (.iconst 0, 1) := dk_get dk_d00_103 4 rfl
theorem dX4_farFromMiddle_7 : decode cX4_farFromMiddle 7 = .ok (.istore_n 3, 1) := dk_get dk_d00_103 5 rfl
theorem dX4_farFromMiddle_8 : decode cX4_farFromMiddle 8 = .ok (.iconst 0, 1) := dk_get dk_d00_103 6 rfl
theorem dX4_farFromMiddle_9 : decode cX4_farFromMiddle 9 = .ok (.istore 4, 2) := dk_get dk_d00_103 7 rfl
theorem dX4_farFromMiddle_11 : decode cX4_farFromMiddle 11 = .ok (.iload 4, 2) := dk_get dk_d00_103 8 rfl
theorem dX4_farFromMiddle_13 : decode cX4_farFromMiddle 13 = .ok (.aload_n 1, 1) := dk_get dk_d00_103 9 rfl
theorem dX4_farFromMiddle_14 : decode cX4_farFromMiddle 14 = .ok (.getfield 24, 3) := dk_get dk_d00_103 10 rfl
theorem dX4_farFromMiddle_17 : decode cX4_farFromMiddle 17 = .ok (.if_icmp .ge 23, 3) := dk_get dk_d00_103 11 rfl
theorem dX4_farFromMiddle_20 : decode cX4_farFromMiddle 20 = .ok (.iload_n 3, 1) := dk_get dk_d00_103 12 rfl
theorem dX4_farFromMiddle_21 : decode cX4_farFromMiddle 21 = .ok (.aload_n 1, 1) := dk_get dk_d00_103 13 rfl
theorem dX4_farFromMiddle_22 : decode cX4_farFromMiddle 22 = .ok (.iload 4, 2) := dk_get dk_d00_103 14 rfl
theorem dX4_farFromMiddle_24 : decode cX4_farFromMiddle 24 = .ok (.invokevirtual 30, 3) := dk_get dk_d00_103 15 rfl
theorem dX4_farFromMiddle_27 : decode cX4_farFromMiddle 27 = .ok (.iload_n 2, 1) := dk_get dk_d00_103 16 rfl
theorem dX4_farFromMiddle_28 : decode cX4_farFromMiddle 28 = .ok (.isub, 1) := dk_get dk_d00_103 17 rfl
theorem dX4_farFromMiddle_29 : decode cX4_farFromMiddle 29 = .ok (.invokestatic 48, 3) := dk_get dk_d00_103 18 rfl
theorem dX4_farFromMiddle_32 : decode cX4_farFromMiddle 32 = .ok (.iadd, 1) := dk_get dk_d00_103 19 rfl
theorem dX4_farFromMiddle_33 : decode cX4_farFromMiddle 33 = .ok (.istore_n 3, 1) := dk_get dk_d00_103 20 rfl
theorem dX4_farFromMiddle_34 : decode cX4_farFromMiddle 34 = .ok (.iinc 4 1, 3) := dk_get dk_d00_103 21 rfl
theorem dX4_farFromMiddle_37 : decode cX4_farFromMiddle 37 = .ok (.goto (-26), 3) := dk_get dk_d00_103 22 rfl
theorem dX4_farFromMiddle_40 : decode cX4_farFromMiddle 40 = .ok (.iload_n 3, 1) := dk_get dk_d00_103 23 rfl
theorem dX4_farFromMiddle_41 : decode cX4_farFromMiddle 41 = .ok (.ireturn, 1) := dk_get dk_d00_103 24 rfl
theorem dk_d00_104 : dkc cX4_moreThanHalf [(0, .iconst 0, 1), (1, .istore_n 2, 1), (2, .iload_n 2, 1), (3, .bipush 9, 2), (5, .if_icmp .gt 25, 3), (8, .iconst 2, 1), (9, .aload_n 1, 1), (10, .iload_n 2, 1), (11, .invokestatic 51, 3), (14, .imul, 1), (15, .aload_n 1, 1), (16, .getfield 24, 3), (19, .if_icmp .le 5, 3), (22, .iload_n 2, 1), (23, .ireturn, 1), (24, .iinc 2 1, 3), (27, .goto (-25), 3), (30, .iconst (-1), 1), (31, .ireturn, 1)] = true := by decide +kernel
theorem dX4_moreThanHalf_0 : decode cX4_moreThanHalf 0 = .ok (.iconst 0, 1) := dk_get dk_d00_104 0 rfl
theorem dX4_moreThanHalf_1 : decode cX4_moreThanHalf 1 = .ok (.istore_n 2, 1) := dk_get dk_d00_104 1 rfl
theorem dX4_moreThanHalf_2 : decode cX4_moreThanHalf 2 = .ok (.iload_n 2, 1) := dk_get dk_d00_104 2 rfl
theorem dX4_moreThanHalf_3 : decode cX4_moreThanHalf 3 = .ok (.bipush 9, 2) := dk_get dk_d00_104 3 rfl
theorem dX4_moreThanHalf_5 : decode cX4_moreThanHalf 5 = .ok (.if_icmp .gt 25, 3) := dk_get dk_d00_104 4 rfl
theorem dX4_moreThanHalf_8 : decode cX4_moreThanHalf 8 = .ok (.iconst 2, 1) := dk_get dk_d00_104 5 rfl
theorem dX4_moreThanHalf_9 : decode cX4_moreThanHalf 9 = .ok (.aload_n 1, 1) := dk_get dk_d00_104 6 rfl
theorem dX4_moreThanHalf_10 : decode cX4_moreThanHalf 10 = .ok (.iload_n 2, 1) := dk_get dk_d00_104 7 rfl
theorem dX4_moreThanHalf_11 : decode cX4_moreThanHalf 11 = .ok (.invokestatic 51, 3) := dk_get dk_d00_104 8 rfl
theorem dX4_moreThanHalf_14 : decode cX4_moreThanHalf 14 = .ok (.imul, 1) := dk_get dk_d00_104 9 rfl
theorem dX4_moreThanHalf_15 : decode cX4_moreThanHalf 15 = .ok (.aload_n 1, 1) := dk_get dk_d00_104 10 rfl
theorem dX4_moreThanHalf_16 : decode cX4_moreThanHalf 16 = .ok (.getfield 24, 3) := dk_get dk_d00_104 11 rfl
theorem dX4_moreThanHalf_19 : decode cX4_moreThanHalf 19 = .ok (.if_icmp .le 5, 3) := dk_get dk_d00_104 12 rfl
theorem dX4_moreThanHalf_22 : decode cX4_moreThanHalf 22 = .ok (.iload_n 2, 1) := dk_get dk_d00_104 13 rfl
theorem dX4_moreThanHalf_23 : decode cX4_moreThanHalf 23 = .ok (.ireturn, 1) := dk_get dk_d00_104 14 rfl
theorem dX4_moreThanHalf_24 : decode cX4_moreThanHalf 24 = .ok (.iinc 2 1, 3) := dk_get dk_d00_104 15 rfl
theorem dX4_moreThanHalf_27 : decode cX4_moreThanHalf 27 = .ok (.goto (-25), 3) := dk_get dk_d00_104 16 rfl
theorem dX4_moreThanHalf_30 : decode cX4_moreThanHalf 30 = .ok (.iconst (-1), 1) := dk_get dk_d00_104 17 rfl
theorem dX4_moreThanHalf_31 : decode cX4_moreThanHalf 31 = .ok (.ireturn, 1) := dk_get dk_d00_104 18 rfl
theorem dk_d00_105 : dkc cX4_mostTold [(0, .iconst 0, 1), (1, .istore_n 2, 1), (2, .iconst 0, 1), (3, .istore_n 3, 1), (4, .iload_n 3, 1), (5, .bipush 9, 2), (7, .if_icmp .gt 19, 3), (10, .iload_n 2, 1), (11, .aload_n 1, 1), (12, .iload_n 3, 1), (13, .invokestatic 51, 3), (16, .invokestatic 55, 3), (19, .istore_n 2, 1), (20, .iinc 3 1, 3), (23, .goto (-19), 3), (26, .iload_n 2, 1), (27, .ireturn, 1)] = true := by decide +kernel
theorem dX4_mostTold_0 : decode cX4_mostTold 0 = .ok (.iconst 0, 1) := dk_get dk_d00_105 0 rfl
theorem dX4_mostTold_1 : decode cX4_mostTold 1 = .ok (.istore_n 2, 1) := dk_get dk_d00_105 1 rfl
theorem dX4_mostTold_2 : decode cX4_mostTold 2 = .ok (.iconst 0, 1) := dk_get dk_d00_105 2 rfl
theorem dX4_mostTold_3 : decode cX4_mostTold 3 = .ok (.istore_n 3, 1) := dk_get dk_d00_105 3 rfl
theorem dX4_mostTold_4 : decode cX4_mostTold 4 = .ok (.iload_n 3, 1) := dk_get dk_d00_105 4 rfl
theorem dX4_mostTold_5 : decode cX4_mostTold 5 = .ok (.bipush 9, 2) := dk_get dk_d00_105 5 rfl
theorem dX4_mostTold_7 : decode cX4_mostTold 7 = .ok (.if_icmp .gt 19, 3) := dk_get dk_d00_105 6 rfl
theorem dX4_mostTold_10 : decode cX4_mostTold 10 = .ok (.iload_n 2, 1) := dk_get dk_d00_105 7 rfl
theorem dX4_mostTold_11 : decode cX4_mostTold 11 = .ok (.aload_n 1, 1) := dk_get dk_d00_105 8 rfl
theorem dX4_mostTold_12 : decode cX4_mostTold 12 = .ok (.iload_n 3, 1) := dk_get dk_d00_105 9 rfl
theorem dX4_mostTold_13 : decode cX4_mostTold 13 = .ok (.invokestatic 51, 3) := dk_get dk_d00_105 10 rfl
theorem dX4_mostTold_16 : decode cX4_mostTold 16 = .ok (.invokestatic 55, 3) := dk_get dk_d00_105 11 rfl
theorem dX4_mostTold_19 : decode cX4_mostTold 19 = .ok (.istore_n 2, 1) := dk_get dk_d00_105 12 rfl
theorem dX4_mostTold_20 : decode cX4_mostTold 20 = .ok (.iinc 3 1, 3) := dk_get dk_d00_105 13 rfl
theorem dX4_mostTold_23 : decode cX4_mostTold 23 = .ok (.goto (-19), 3) := dk_get dk_d00_105 14 rfl
theorem dX4_mostTold_26 : decode cX4_mostTold 26 = .ok (.iload_n 2, 1) := dk_get dk_d00_105 15 rfl
theorem dX4_mostTold_27 : decode cX4_mostTold 27 = .ok (.ireturn, 1) := dk_get dk_d00_105 16 rfl
theorem dk_d00_106 : dkc cX4_timesTold [(0, .iconst 0, 1), (1, .istore_n 2, 1), (2, .iconst 0, 1), (3, .istore_n 3, 1), (4, .iload_n 3, 1), (5, .aload_n 0, 1), (6, .getfield 24, 3), (9, .if_icmp .ge 26, 3), (12, .iload_n 2, 1), (13, .aload_n 0, 1), (14, .iload_n 3, 1), (15, .invokevirtual 30, 3), (18, .iload_n 1, 1), (19, .if_icmp .ne 7, 3), (22, .iconst 1, 1), (23, .goto 4, 3), (26, .iconst 0, 1), (27, .iadd, 1), (28, .istore_n 2, 1), (29, .iinc 3 1, 3), (32, .goto (-28), 3), (35, .iload_n 2, 1), (36, .ireturn, 1)] = true := by decide +kernel
theorem dX4_timesTold_0 : decode cX4_timesTold 0 = .ok (.iconst 0, 1) := dk_get dk_d00_106 0 rfl
theorem dX4_timesTold_1 : decode cX4_timesTold 1 = .ok (.istore_n 2, 1) := dk_get dk_d00_106 1 rfl
theorem dX4_timesTold_2 : decode cX4_timesTold 2 = .ok (.iconst 0, 1) := dk_get dk_d00_106 2 rfl
theorem dX4_timesTold_3 : decode cX4_timesTold 3 = .ok (.istore_n 3, 1) := dk_get dk_d00_106 3 rfl
theorem dX4_timesTold_4 : decode cX4_timesTold 4 = .ok (.iload_n 3, 1) := dk_get dk_d00_106 4 rfl
theorem dX4_timesTold_5 : decode cX4_timesTold 5 = .ok (.aload_n 0, 1) := dk_get dk_d00_106 5 rfl
theorem dX4_timesTold_6 : decode cX4_timesTold 6 = .ok (.getfield 24, 3) := dk_get dk_d00_106 6 rfl
theorem dX4_timesTold_9 : decode cX4_timesTold 9 = .ok (.if_icmp .ge 26, 3) := dk_get dk_d00_106 7 rfl
theorem dX4_timesTold_12 : decode cX4_timesTold 12 = .ok (.iload_n 2, 1) := dk_get dk_d00_106 8 rfl
theorem dX4_timesTold_13 : decode cX4_timesTold 13 = .ok (.aload_n 0, 1) := dk_get dk_d00_106 9 rfl
theorem dX4_timesTold_14 : decode cX4_timesTold 14 = .ok (.iload_n 3, 1) := dk_get dk_d00_106 10 rfl
theorem dX4_timesTold_15 : decode cX4_timesTold 15 = .ok (.invokevirtual 30, 3) := dk_get dk_d00_106 11 rfl
theorem dX4_timesTold_18 : decode cX4_timesTold 18 = .ok (.iload_n 1, 1) := dk_get dk_d00_106 12 rfl
theorem dX4_timesTold_19 : decode cX4_timesTold 19 = .ok (.if_icmp .ne 7, 3) := dk_get dk_d00_106 13 rfl
theorem dX4_timesTold_22 : decode cX4_timesTold 22 = .ok (.iconst 1, 1) := dk_get dk_d00_106 14 rfl
theorem dX4_timesTold_23 : decode cX4_timesTold 23 = .ok (.goto 4, 3) := dk_get dk_d00_106 15 rfl
theorem dX4_timesTold_26 : decode cX4_timesTold 26 = .ok (.iconst 0, 1) := dk_get dk_d00_106 16 rfl
theorem dX4_timesTold_27 : decode cX4_timesTold 27 = .ok (.iadd, 1) := dk_get dk_d00_106 17 rfl
theorem dX4_timesTold_28 : decode cX4_timesTold 28 = .ok (.istore_n 2, 1) := dk_get dk_d00_106 18 rfl
theorem dX4_timesTold_29 : decode cX4_timesTold 29 = .ok (.iinc 3 1, 3) := dk_get dk_d00_106 19 rfl
theorem dX4_timesTold_32 : decode cX4_timesTold 32 = .ok (.goto (-28), 3) := dk_get dk_d00_106 20 rfl
theorem dX4_timesTold_35 : decode cX4_timesTold 35 = .ok (.iload_n 2, 1) := dk_get dk_d00_106 21 rfl
theorem dX4_timesTold_36 : decode cX4_timesTold 36 = .ok (.ireturn, 1) := dk_get dk_d00_106 22 rfl
theorem dk_d00_107 : dkc cX4_sums [(0, .aload_n 0, 1), (1, .getfield 9, 3), (4, .iconst 0, 1), (5, .invokestatic 18, 3), (8, .aload_n 0, 1), (9, .getfield 9, 3), (12, .iconst 0, 1), (13, .iconst 1, 1), (14, .iastore, 1), (15, .iconst 0, 1), (16, .istore 4, 2), (18, .iload 4, 2), (20, .aload_n 1, 1), (21, .getfield 24, 3), (24, .if_icmp .ge 63, 3), (27, .aload_n 1, 1), (28, .iload 4, 2), (30, .invokevirtual 30, 3), (33, .iconst 1, 1), (34, .invokestatic 55, 3), (37, .istore 5, 2), (39, .aload_n 0, 1), (40, .getfield 9, 3), (43, .arraylength, 1), (44, .iconst 1, 1)] = true := by decide +kernel
theorem dX4_sums_0 : decode cX4_sums 0 = .ok (.aload_n 0, 1) := dk_get dk_d00_107 0 rfl
theorem dX4_sums_1 : decode cX4_sums 1 = .ok (.getfield 9, 3) := dk_get dk_d00_107 1 rfl
theorem dX4_sums_4 : decode cX4_sums 4 = .ok (.iconst 0, 1) := dk_get dk_d00_107 2 rfl
theorem dX4_sums_5 : decode cX4_sums 5 = .ok (.invokestatic 18, 3) := dk_get dk_d00_107 3 rfl
theorem dX4_sums_8 : decode cX4_sums 8 = .ok (.aload_n 0, 1) := dk_get dk_d00_107 4 rfl
theorem dX4_sums_9 : decode cX4_sums 9 = .ok (.getfield 9, 3) := dk_get dk_d00_107 5 rfl
theorem dX4_sums_12 : decode cX4_sums 12 = .ok (.iconst 0, 1) := dk_get dk_d00_107 6 rfl
theorem dX4_sums_13 : decode cX4_sums 13 = .ok (.iconst 1, 1) := dk_get dk_d00_107 7 rfl
theorem dX4_sums_14 : decode cX4_sums 14 = .ok (.iastore, 1) := dk_get dk_d00_107 8 rfl
theorem dX4_sums_15 : decode cX4_sums 15 = .ok (.iconst 0, 1) := dk_get dk_d00_107 9 rfl
theorem dX4_sums_16 : decode cX4_sums 16 = .ok (.istore 4, 2) := dk_get dk_d00_107 10 rfl
theorem dX4_sums_18 : decode cX4_sums 18 = .ok (.iload 4, 2) := dk_get dk_d00_107 11 rfl
theorem dX4_sums_20 : decode cX4_sums 20 = .ok (.aload_n 1, 1) := dk_get dk_d00_107 12 rfl
theorem dX4_sums_21 : decode cX4_sums 21 = .ok (.getfield 24, 3) := dk_get dk_d00_107 13 rfl
theorem dX4_sums_24 : decode cX4_sums 24 = .ok (.if_icmp .ge 63, 3) := dk_get dk_d00_107 14 rfl
theorem dX4_sums_27 : decode cX4_sums 27 = .ok (.aload_n 1, 1) := dk_get dk_d00_107 15 rfl
theorem dX4_sums_28 : decode cX4_sums 28 = .ok (.iload 4, 2) := dk_get dk_d00_107 16 rfl
theorem dX4_sums_30 : decode cX4_sums 30 = .ok (.invokevirtual 30, 3) := dk_get dk_d00_107 17 rfl
theorem dX4_sums_33 : decode cX4_sums 33 = .ok (.iconst 1, 1) := dk_get dk_d00_107 18 rfl
theorem dX4_sums_34 : decode cX4_sums 34 = .ok (.invokestatic 55, 3) := dk_get dk_d00_107 19 rfl
theorem dX4_sums_37 : decode cX4_sums 37 = .ok (.istore 5, 2) := dk_get dk_d00_107 20 rfl
theorem dX4_sums_39 : decode cX4_sums 39 = .ok (.aload_n 0, 1) := dk_get dk_d00_107 21 rfl
theorem dX4_sums_40 : decode cX4_sums 40 = .ok (.getfield 9, 3) := dk_get dk_d00_107 22 rfl
theorem dX4_sums_43 : decode cX4_sums 43 = .ok (.arraylength, 1) := dk_get dk_d00_107 23 rfl
theorem dX4_sums_44 : decode cX4_sums 44 = .ok (.iconst 1, 1) := dk_get dk_d00_107 24 rfl
theorem dk_d00_108 : dkc cX4_sums [(45, .isub, 1), (46, .istore 6, 2), (48, .iload 6, 2), (50, .iload 5, 2), (52, .if_icmp .lt 29, 3), (55, .aload_n 0, 1), (56, .getfield 9, 3), (59, .iload 6, 2), (61, .dup2, 1), (62, .iaload, 1), (63, .aload_n 0, 1), (64, .getfield 9, 3), (67, .iload 6, 2), (69, .iload 5, 2), (71, .isub, 1), (72, .iaload, 1), (73, .ior, 1), (74, .iastore, 1), (75, .iinc 6 (-1), 3), (78, .goto (-30), 3), (81, .iinc 4 1, 3), (84, .goto (-66), 3)] = true := by decide +kernel
theorem dX4_sums_45 : decode cX4_sums 45 = .ok (.isub, 1) := dk_get dk_d00_108 0 rfl
theorem dX4_sums_46 : decode cX4_sums 46 = .ok (.istore 6, 2) := dk_get dk_d00_108 1 rfl
theorem dX4_sums_48 : decode cX4_sums 48 = .ok (.iload 6, 2) := dk_get dk_d00_108 2 rfl
theorem dX4_sums_50 : decode cX4_sums 50 = .ok (.iload 5, 2) := dk_get dk_d00_108 3 rfl
theorem dX4_sums_52 : decode cX4_sums 52 = .ok (.if_icmp .lt 29, 3) := dk_get dk_d00_108 4 rfl
theorem dX4_sums_55 : decode cX4_sums 55 = .ok (.aload_n 0, 1) := dk_get dk_d00_108 5 rfl
theorem dX4_sums_56 : decode cX4_sums 56 = .ok (.getfield 9, 3) := dk_get dk_d00_108 6 rfl
theorem dX4_sums_59 : decode cX4_sums 59 = .ok (.iload 6, 2) := dk_get dk_d00_108 7 rfl
theorem dX4_sums_61 : decode cX4_sums 61 = .ok (.dup2, 1) := dk_get dk_d00_108 8 rfl
theorem dX4_sums_62 : decode cX4_sums 62 = .ok (.iaload, 1) := dk_get dk_d00_108 9 rfl
theorem dX4_sums_63 : decode cX4_sums 63 = .ok (.aload_n 0, 1) := dk_get dk_d00_108 10 rfl
theorem dX4_sums_64 : decode cX4_sums 64 = .ok (.getfield 9, 3) := dk_get dk_d00_108 11 rfl
theorem dX4_sums_67 : decode cX4_sums 67 = .ok (.iload 6, 2) := dk_get dk_d00_108 12 rfl
theorem dX4_sums_69 : decode cX4_sums 69 = .ok (.iload 5, 2) := dk_get dk_d00_108 13 rfl
theorem dX4_sums_71 : decode cX4_sums 71 = .ok (.isub, 1) := dk_get dk_d00_108 14 rfl
theorem dX4_sums_72 : decode cX4_sums 72 = .ok (.iaload, 1) := dk_get dk_d00_108 15 rfl
theorem dX4_sums_73 : decode cX4_sums 73 = .ok (.ior, 1) := dk_get dk_d00_108 16 rfl
theorem dX4_sums_74 : decode cX4_sums 74 = .ok (.iastore, 1) := dk_get dk_d00_108 17 rfl
theorem dX4_sums_75 : decode cX4_sums 75 = .ok (.iinc 6 (-1), 3) := dk_get dk_d00_108 18 rfl
theorem dX4_sums_78 : decode cX4_sums 78 = .ok (.goto (-30), 3) := dk_get dk_d00_108 19 rfl
theorem dX4_sums_81 : decode cX4_sums 81 = .ok (.iinc 4 1, 3) := dk_get dk_d00_108 20 rfl
theorem dX4_sums_84 : decode cX4_sums 84 = .ok (.goto (-66), 3) := dk_get dk_d00_108 21 rfl
