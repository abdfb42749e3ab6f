/-- behind a call of the class: the cells from place n + N on are T, as they were -/
def kp (n N : Nat) (T h' : PH) : Prop := ∃ L0 : PH, h' = L0 ++ T ∧ L0.length = n + N
theorem kp_of {h0 L T : PH} {n N : Nat} (hn : h0.length = n) (hd : L.drop N = T) (hl : (L.take N).length = N) : kp n N T (h0 ++ L) := by
  refine ⟨h0 ++ L.take N, ?_, by rw [List.length_append, hn, hl]⟩
  rw [List.append_assoc, ← hd, List.take_append_drop]
/-- the same, with new cells behind -/
def kp2 (n N : Nat) (T h' : PH) : Prop := ∃ L0 L1 : PH, h' = L0 ++ (T ++ L1) ∧ L0.length = n + N
theorem kp_of2 {h0 L T L1 : PH} {n N : Nat} (hn : h0.length = n) (hd : L.drop N = T ++ L1) (hl : (L.take N).length = N) : kp2 n N T (h0 ++ L) := by
  refine ⟨h0 ++ L.take N, L1, ?_, by rw [List.length_append, hn, hl]⟩
  rw [List.append_assoc, ← hd, List.take_append_drop]
theorem tabc (x : Int32) (lo hi : Nat) (hb : hi < 2 ^ 31) : (x.toInt < (lo : Int) ∨ (hi : Int) < x.toInt) ∨ ∃ j : Nat, j + lo ≤ hi ∧ x = nI (lo + j) := by
  by_cases h1 : x.toInt < (lo : Int)
  · exact Or.inl (Or.inl h1)
  · by_cases h2 : (hi : Int) < x.toInt
    · exact Or.inl (Or.inr h2)
    · refine Or.inr ⟨x.toInt.toNat - lo, by omega, ?_⟩
      have e : lo + (x.toInt.toNat - lo) = x.toInt.toNat := by omega
      rw [e]
      apply Int32.toInt_inj.mp
      rw [nI_toInt (by omega)]
      omega
theorem pw_up {P : Nat → Prop} (N : Nat) (h0 : P N) (hs : ∀ i, i < N → P (i + 1) → P i) : ∀ i, i ≤ N → P i := by
  intro i hi
  obtain ⟨k, hk⟩ : ∃ k, N - i = k := ⟨_, rfl⟩
  induction k generalizing i with
  | zero => rw [show i = N by omega]; exact h0
  | succ k ih => exact hs i (by omega) (ih (i + 1) (by omega) (by omega))
section PwLoop
variable {p : Program} {l : Launch} {e : Env} {R : Room} {s : State} {m : MethodId} {args : Array Value} {below : List Frame} {meth : Method} {c : Code} {G : PG} {nL : Nat} {Q : State → Prop} {cells slots pc : Nat} {ST : List PV}
theorem pw_loop1 (N : Nat) (H : Nat → PH) (LS : Nat → List (Option PV)) (hN : PW p l e R s m args below meth c G nL Q cells slots (H N) pc (LS N) ST) (hs : ∀ i, i < N → PW p l e R s m args below meth c G nL Q cells slots (H (i + 1)) pc (LS (i + 1)) ST → PW p l e R s m args below meth c G nL Q cells slots (H i) pc (LS i) ST) (i : Nat) (hi : i ≤ N) : PW p l e R s m args below meth c G nL Q cells slots (H i) pc (LS i) ST :=
  pw_up (P := fun i => PW p l e R s m args below meth c G nL Q cells slots (H i) pc (LS i) ST) N hN hs i hi
theorem pw_loopA {α : Type} (N : Nat) (C : α → Prop) (H : Nat → α → PH) (LS : Nat → List (Option PV)) (hN : ∀ a, C a → PW p l e R s m args below meth c G nL Q cells slots (H N a) pc (LS N) ST) (hs : ∀ i, i < N → (∀ a, C a → PW p l e R s m args below meth c G nL Q cells slots (H (i + 1) a) pc (LS (i + 1)) ST) → ∀ a, C a → PW p l e R s m args below meth c G nL Q cells slots (H i a) pc (LS i) ST) (i : Nat) (hi : i ≤ N) (a : α) (ha : C a) : PW p l e R s m args below meth c G nL Q cells slots (H i a) pc (LS i) ST :=
  pw_up (P := fun i => ∀ a, C a → PW p l e R s m args below meth c G nL Q cells slots (H i a) pc (LS i) ST) N hN hs i hi a ha
end PwLoop
def nw (a b c d e f g : Int32) : Nat → Int32 := fun j => match j with
  | 0 => a
  | 1 => b
  | 2 => c
  | 3 => d
  | 4 => e
  | 5 => f
  | 6 => g
  | _ => 0
theorem nw_hi {a b c d e f g i : Int32} {k : Nat} (h : i = nI k) (h7 : 7 ≤ k) (hk : k < 2 ^ 31) : nw a b c d e f g i.toNatClampNeg = 0 := by
  rw [h, nI_clamp hk]
  obtain ⟨j, rfl⟩ : ∃ j, k = j + 7 := ⟨k - 7, by omega⟩
  rfl
theorem nw_uh {a b c d e f g i : Int32} {k : Nat} (h : i = nI k) (h7 : 7 ≤ k) (hk : k < 2 ^ 31) : upd (nw a b c d e f g) i.toNatClampNeg 0 = nw a b c d e f g := by
  funext j
  by_cases hj : j = i.toNatClampNeg
  · subst hj
    rw [pk_us, nw_hi h h7 hk]
  · rw [pk_un hj]
theorem nw_u0 {a b c d e f g x : Int32} : upd (nw a b c d e f g) (0 : Int32).toNatClampNeg x = nw x b c d e f g := by
  rw [show (0 : Int32).toNatClampNeg = 0 from by decide]
  funext j
  rcases j with _ | _ | _ | _ | _ | _ | _ | j <;> simp [upd, nw]
theorem nw_u1 {a b c d e f g x : Int32} : upd (nw a b c d e f g) (1 : Int32).toNatClampNeg x = nw a x c d e f g := by
  rw [show (1 : Int32).toNatClampNeg = 1 from by decide]
  funext j
  rcases j with _ | _ | _ | _ | _ | _ | _ | j <;> simp [upd, nw]
theorem nw_u2 {a b c d e f g x : Int32} : upd (nw a b c d e f g) (2 : Int32).toNatClampNeg x = nw a b x d e f g := by
  rw [show (2 : Int32).toNatClampNeg = 2 from by decide]
  funext j
  rcases j with _ | _ | _ | _ | _ | _ | _ | j <;> simp [upd, nw]
theorem nw_u3 {a b c d e f g x : Int32} : upd (nw a b c d e f g) (3 : Int32).toNatClampNeg x = nw a b c x e f g := by
  rw [show (3 : Int32).toNatClampNeg = 3 from by decide]
  funext j
  rcases j with _ | _ | _ | _ | _ | _ | _ | j <;> simp [upd, nw]
theorem nw_u4 {a b c d e f g x : Int32} : upd (nw a b c d e f g) (4 : Int32).toNatClampNeg x = nw a b c d x f g := by
  rw [show (4 : Int32).toNatClampNeg = 4 from by decide]
  funext j
  rcases j with _ | _ | _ | _ | _ | _ | _ | j <;> simp [upd, nw]
theorem nw_u5 {a b c d e f g x : Int32} : upd (nw a b c d e f g) (5 : Int32).toNatClampNeg x = nw a b c d e x g := by
  rw [show (5 : Int32).toNatClampNeg = 5 from by decide]
  funext j
  rcases j with _ | _ | _ | _ | _ | _ | _ | j <;> simp [upd, nw]
theorem nw_u6 {a b c d e f g x : Int32} : upd (nw a b c d e f g) (6 : Int32).toNatClampNeg x = nw a b c d e f x := by
  rw [show (6 : Int32).toNatClampNeg = 6 from by decide]
  funext j
  rcases j with _ | _ | _ | _ | _ | _ | _ | j <;> simp [upd, nw]
abbrev inR (v lo hi : Int32) : Prop := ¬ v < lo ∧ ¬ hi < v
def frC (n : Nat) : PH := [eO 11 [vR (n + 1), vR (n + 30), vI 0, vR (n + 59), vR (n + 79), vR (n + 83), vR (n + 95), vR (n + 99), vR (n + 86), vR (n + 89), vR (n + 92)], eO 10 [vR (n + 2), vR (n + 5), vR (n + 7), vR (n + 8)], eO 0 [vR (n + 3), vR (n + 4), vI 0, vI 0, vI 0, vI 0, vI 0, vI 0, vI 0, vI 0], eI 120 (fun _ => 0), eI 144 (fun _ => 0), eO 3 [vR (n + 6)], eI 750 (fun _ => 0), eR 2 4 (va_up (va_up (va_up (va_up (fun _ => none) (0 : Int32).toNatClampNeg (some (n + 9))) (1 : Int32).toNatClampNeg (some (n + 9))) (2 : Int32).toNatClampNeg (some (n + 9))) (3 : Int32).toNatClampNeg (some (n + 9))), eR 3 9 (va_up (va_up (va_up (va_up (va_up (va_up (va_up (va_up (va_up (fun _ => none) (0 : Int32).toNatClampNeg (some (n + 12))) (1 : Int32).toNatClampNeg (some (n + 14))) (2 : Int32).toNatClampNeg (some (n + 16))) (3 : Int32).toNatClampNeg (some (n + 18))) (4 : Int32).toNatClampNeg (some (n + 20))) (5 : Int32).toNatClampNeg (some (n + 22))) (6 : Int32).toNatClampNeg (some (n + 24))) (7 : Int32).toNatClampNeg (some (n + 26))) (8 : Int32).toNatClampNeg (some (n + 28))), eO 8 [vR (n + 10), vI 0, vR (n + 11)], eI 0 (fun _ => 0), eI 0 (fun _ => 0), eO 9 [vR (n + 13), vI 0], eI 6 (fun _ => 0), eO 9 [vR (n + 15), vI 0], eI 16 (fun _ => 0), eO 9 [vR (n + 17), vI 0], eI 15 (fun _ => 0), eO 9 [vR (n + 19), vI 0], eI 15 (fun _ => 0), eO 9 [vR (n + 21), vI 0], eI 8 (fun _ => 0), eO 9 [vR (n + 23), vI 0], eI 8 (fun _ => 0), eO 9 [vR (n + 25), vI 0], eI 12 (fun _ => 0), eO 9 [vR (n + 27), vI 0], eI 12 (fun _ => 0), eO 9 [vR (n + 29), vI 0], eI 12 (fun _ => 0), eO 10 [vR (n + 31), vR (n + 34), vR (n + 36), vR (n + 37)], eO 0 [vR (n + 32), vR (n + 33), vI 0, vI 0, vI 0, vI 0, vI 0, vI 0, vI 0, vI 0], eI 120 (fun _ => 0), eI 144 (fun _ => 0), eO 3 [vR (n + 35)], eI 750 (fun _ => 0), eR 2 4 (va_up (va_up (va_up (va_up (fun _ => none) (0 : Int32).toNatClampNeg (some (n + 38))) (1 : Int32).toNatClampNeg (some (n + 38))) (2 : Int32).toNatClampNeg (some (n + 38))) (3 : Int32).toNatClampNeg (some (n + 38))), eR 3 9 (va_up (va_up (va_up (va_up (va_up (va_up (va_up (va_up (va_up (fun _ => none) (0 : Int32).toNatClampNeg (some (n + 41))) (1 : Int32).toNatClampNeg (some (n + 43))) (2 : Int32).toNatClampNeg (some (n + 45))) (3 : Int32).toNatClampNeg (some (n + 47))) (4 : Int32).toNatClampNeg (some (n + 49))) (5 : Int32).toNatClampNeg (some (n + 51))) (6 : Int32).toNatClampNeg (some (n + 53))) (7 : Int32).toNatClampNeg (some (n + 55))) (8 : Int32).toNatClampNeg (some (n + 57))), eO 8 [vR (n + 39), vI 0, vR (n + 40)], eI 0 (fun _ => 0), eI 0 (fun _ => 0), eO 9 [vR (n + 42), vI 0], eI 6 (fun _ => 0), eO 9 [vR (n + 44), vI 0], eI 16 (fun _ => 0), eO 9 [vR (n + 46), vI 0], eI 15 (fun _ => 0), eO 9 [vR (n + 48), vI 0], eI 15 (fun _ => 0), eO 9 [vR (n + 50), vI 0], eI 8 (fun _ => 0), eO 9 [vR (n + 52), vI 0], eI 8 (fun _ => 0), eO 9 [vR (n + 54), vI 0], eI 12 (fun _ => 0), eO 9 [vR (n + 56), vI 0], eI 12 (fun _ => 0), eO 9 [vR (n + 58), vI 0], eI 12 (fun _ => 0), eO 7 [vR (n + 60), vI 0, vI 0], eR 1 6 (va_up (va_up (va_up (va_up (va_up (va_up (fun _ => none) (0 : Int32).toNatClampNeg (some (n + 61))) (1 : Int32).toNatClampNeg (some (n + 64))) (2 : Int32).toNatClampNeg (some (n + 67))) (3 : Int32).toNatClampNeg (some (n + 70))) (4 : Int32).toNatClampNeg (some (n + 73))) (5 : Int32).toNatClampNeg (some (n + 76))), eO 0 [vR (n + 62), vR (n + 63), vI 0, vI 0, vI 0, vI 0, vI 0, vI 0, vI 0, vI 0], eI 120 (fun _ => 0), eI 144 (fun _ => 0), eO 0 [vR (n + 65), vR (n + 66), vI 0, vI 0, vI 0, vI 0, vI 0, vI 0, vI 0, vI 0], eI 120 (fun _ => 0), eI 144 (fun _ => 0), eO 0 [vR (n + 68), vR (n + 69), vI 0, vI 0, vI 0, vI 0, vI 0, vI 0, vI 0, vI 0], eI 120 (fun _ => 0), eI 144 (fun _ => 0), eO 0 [vR (n + 71), vR (n + 72), vI 0, vI 0, vI 0, vI 0, vI 0, vI 0, vI 0, vI 0], eI 120 (fun _ => 0), eI 144 (fun _ => 0), eO 0 [vR (n + 74), vR (n + 75), vI 0, vI 0, vI 0, vI 0, vI 0, vI 0, vI 0, vI 0], eI 120 (fun _ => 0), eI 144 (fun _ => 0), eO 0 [vR (n + 77), vR (n + 78), vI 0, vI 0, vI 0, vI 0, vI 0, vI 0, vI 0, vI 0], eI 120 (fun _ => 0), eI 144 (fun _ => 0), eO 5 [vR (n + 80), vI 0, vI 0, vI 0, vI 0, vI 2, vI 0, vI 0, vI ((-1)), vI 0, vR (n + 81), vI 0, vR (n + 82), vI 0], eI 400 (fun _ => 0), eI 80 (fun _ => 0), eI 400 (fun _ => 0), eO 0 [vR (n + 84), vR (n + 85), vI 0, vI 0, vI 0, vI 0, vI 0, vI 0, vI 0, vI 0], eI 120 (fun _ => 0), eI 144 (fun _ => 0), eO 6 [vR (n + 87), vR (n + 88), vI 0, vI 0], eI 144 (fun _ => 0), eI 144 (fun _ => 0), eO 4 [vR (n + 90), vR (n + 91)], eI 401 (fun _ => 0), eI 401 (fun _ => 0), eO 2 [vR (n + 93), vR (n + 94), vI 0, vI 0], eI 1231 (fun _ => 0), eI 9 (fun _ => 0), eO 1 [vR (n + 2), vR (n + 7), vR (n + 5), vR (n + 96), vR (n + 97), vR (n + 98)], eI 10 (fun _ => 0), eI 32 (fun _ => 0), eI 100 (fun _ => 0), eO 1 [vR (n + 83), vR (n + 7), vN, vR (n + 100), vR (n + 101), vR (n + 102)], eI 10 (fun _ => 0), eI 32 (fun _ => 0), eI 100 (fun _ => 0)]
def frM (n : Nat) (wf : Nat → Int32) : PH := [eO 12 [vI 0, vR (n + 1), vR (n + 2), vI 0, vR (n + 3), vI 0, vI 0, vR (n + 4), vR (n + 5), vR (n + 6), vR (n + 7), vR (n + 8), vI 0, vI 0, vI 0, vI 0, vI 0, vR (n + 9), vR (n + 10), vR (n + 11), vR (n + 12), vR (n + 13), vR (n + 14), vR (n + 15), vR (n + 16), vI 0, vI 0, vI 0, vR (n + 17), vI 0, vI 0, vI 0, vI 0, vI ((-1)), vI 0, vR (n + 18), vI 0, vR (n + 19), vI 0, vR (n + 20), vR (n + 21), vR (n + 22), vR (n + 23), vI 0, vR (n + 24), vR (n + 25), vI 0, vR (n + 26), vR (n + 27), vR (n + 28), vI 0, vR (n + 29), vI 0, vR (n + 30), vI 0, vR (n + 31), vR (n + 32), vI 0, vR (n + 33), vR (n + 34), vR (n + 35), vI 0, vR (n + 36), vI 0, vR (n + 37), vI 0, vR (n + 38), vR (n + 39), vR (n + 40), vR (n + 41), vI 0, vI 0, vI 0, vI 0, vI 0, vR (n + 42)], eI 499 (nw 0 0 0 0 0 0 0), eI 2994 (fun _ => 0), eI 499 (fun _ => 0), eI 20 (fun _ => 0), eI 20 (fun _ => 0), eI 20 (fun _ => 0), eI 750 (fun _ => 0), eI 400 (fun _ => 0), eI 133 wf, eI 2 (fun _ => 0), eI 48 (fun _ => 0), eI 48 (fun _ => 0), eI 48 (fun _ => 0), eI 48 (fun _ => 0), eI 1200 (fun _ => 0), eI 1200 (fun _ => 0), eI 40 (fun _ => 0), eI 96 (fun _ => 0), eI 160 (fun _ => 0), eI 40 (fun _ => 0), eI 10 (fun _ => 0), eI 420 (fun _ => 0), eI 144 (fun _ => 0), eI 6 (fun _ => 0), eI 6 (fun _ => 0), eI 16 (fun _ => 0), eI 153 (fun _ => 0), eI 153 (fun _ => 0), eI 15 (fun _ => 0), eI 15 (fun _ => 0), eI 8 (fun _ => 0), eI 401 (fun _ => 0), eI 8 (fun _ => 0), eI 8 (fun _ => 0), eI 256 (fun _ => 0), eI 12 (fun _ => 0), eI 8 (fun _ => 0), eI 8 (fun _ => 0), eI 256 (fun _ => 0), eI 19683 (fun _ => 0), eI 9 (fun _ => 0), eI 2900 (fun _ => 0)]
def sp_state (v : Int32) : Int32 := 0
def sp_voter (a b c0 d : Int32) : Int32 := if inR a 0 255 ∧ inR b (-1) 1 ∧ inR c0 0 11 ∧ inR d 0 9 then 0 else -1
def sp_set (a b c0 : Int32) : Int32 := if a = 4 ∧ inR c0 0 9 then 1 else 0
def sp_press (a b : Int32) : Int32 := -1
def sp_lift (a b : Int32) : Int32 := 0
def sp_hand (a b : Int32) : Int32 := 0
def sp_feed (a b c0 d f : Int32) : Int32 := 20
def sp_end (a : Int32) : Int32 := if inR a 0 0 then 1 else 0
def sp_fault (a : Int32) : Int32 := if a = 0 then 0 else -1
def sp_of (a b : Int32) : Int32 := -2
def sp_cell (a b c0 : Int32) : Int32 := if inR a 0 11 ∧ inR b 0 11 ∧ inR c0 0 4 then (if c0 = 0 ∨ c0 = 3 ∨ c0 = 4 then -1 else 0) else -2
def sp_book (a b : Int32) : Int32 := -10000
def sp_whose (a b : Int32) : Int32 := if inR a 0 255 ∧ inR b (-1) 8 ∧ ¬ b = -1 then 0 else -1
def sp_could (a : Int32) : Int32 := -1
def sp_party (a : Int32) : Int32 := if a = -1 then 0 else if inR a 0 999 then 1 else -1
def sp_seats (a b c0 : Int32) : Int32 := -1
def sp_house (a : Int32) : Int32 := if a = -1 then 0 else if inR a 0 1 then 1 else -1
def sp_parishes (a b : Int32) : Int32 := -1
def sp_wish (a : Int32) : Int32 := if a = -1 then 0 else if inR a 0 99 then 1 else -1
def sp_name (a : Int32) : Int32 := if a = -1 then 0 else if inR a 0 9 then 1 else -1
def sp_middle (a : Int32) : Int32 := if a = 1 ∨ a = 3 then 0 else -1
def sp_candle (a : Int32) : Int32 := if a = -1 then 0 else if inR a 1 50 then 1 else -1
def sp_door (a b : Int32) : Int32 := if a = -1 then 0 else if inR a 1 50 ∧ inR b 0 200 then 1 else -1
def sp_stack  : Int32 := 0
def sp_stands (a : Int32) : Int32 := if a = -1 then 0 else if inR a 0 30 then 1 else -1
def sp_lantern (a b : Int32) : Int32 := if inR a 0 40 ∧ b = 0 then 0 else -1
def sp_bill (a b : Int32) : Int32 := if a = -1 then 0 else if inR a 0 7 ∧ inR b 0 7 ∧ ¬ a = b then 1 else -1
def sp_before (a b : Int32) : Int32 := if a = -1 then 0 else if inR a 0 7 ∧ inR b 0 7 ∧ ¬ a = b then 1 else -1
def sp_undo  : Int32 := 0
def sp_look (a : Int32) : Int32 := if inR a 0 13 then 0 else -1
def sp_hours (a : Int32) : Int32 := if inR a 1 60 then 0 else -1
def sp_goes (a b : Int32) : Int32 := if inR a 1 60 ∧ inR b 0 3 then 0 else -100000
def sp_text (a : Int32) : Int32 := if inR a 0 3 then 0 else -1
def sp_image0  : Int32 := 0
def sp_image1  : Int32 := 1
def sp_candles (a b : Int32) : Int32 := if inR a 0 400 ∧ inR b 0 1 then (if b = 0 then 1 else 0) else -1
def sp_bills (a : Int32) : Int32 := if a = 0 then 8 else if a = 1 then 255 else if a = 2 then 256 else -1
def sp_order  : Int32 := 40320
def sp_wax (a : Int32) : Int32 := if a = 1 then -1 else if a = 5 then 1 else if a = 7 then 12 else if inR a 0 9 then 0 else -100000
