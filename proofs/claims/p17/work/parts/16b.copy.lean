/-! thinks, endsThought: a row goes over -/
def cpj (a b : FA) (j : Nat) : FA := fun i => if i < j then a i else b i
theorem cpj_0 (a b : FA) : cpj a b 0 = b := by funext i; unfold cpj; rw [if_neg (by omega)]
theorem cpj_s (a b : FA) (j : Nat) : upd (cpj a b j) j (a j) = cpj a b (j + 1) := by
  funext i
  by_cases e : i = j
  · subst e; rw [pk_us]; unfold cpj; rw [if_pos (by omega)]
  · rw [pk_un e]; unfold cpj
    by_cases h : i < j
    · rw [if_pos h, if_pos (by omega)]
    · rw [if_neg h, if_neg (by omega)]
theorem ix_nI {j : Nat} (h : j < 4294967296) : ix (nI j) = j := by rw [nI, ix_ofNat]; exact Nat.mod_eq_of_lt h
theorem pin_nI {j N : Nat} (h : j < N) (h2 : j < 2147483648) : pin (nI j) N = true := by
  unfold pin
  rw [ix_nI (by omega), Bool.and_eq_true, blt_t, blt_t]
  exact ⟨h2, h⟩
theorem ge_nI {a b : Nat} (ha : a < 2147483648) (hb : b < 2147483648) : pcmp 3 (nI a) (nI b) = Nat.ble b a := by
  show Nat.ble (ky (nI b)) (ky (nI a)) = _
  rw [ky_nI ha, ky_nI hb]
  rw [Bool.eq_iff_iff, Nat.ble_eq, Nat.ble_eq]
  omega
def LS2 (x : Int32) : List (Option PV) := [some (vR 0), some (vI x)]
set_option maxRecDepth 100000 in
theorem th_h (x : Int32) (z : Nat → Int32) (f : Nat → FA) (F : Nat) : rnX (mP 281) (F + 2) 2 (LS2 x) [] (LR z f) = rnX (mP 281) F 4 (LS2 x) [vI 499, vI x] (LR z f) := rfl
set_option maxRecDepth 100000 in
theorem th_i (x y : Int32) (L : QH FA) (F : Nat) : rnX (mP 281) (F + 1) 4 (LS2 x) [vI y, vI x] L = bif pcmp 3 x y then rnX (mP 281) F 15 (LS2 x) [] L else rnX (mP 281) F 5 (LS2 x) [] L := rfl
set_option maxRecDepth 100000 in
theorem th_1 (x : Int32) (z : Nat → Int32) (f : Nat → FA) (F : Nat) : rnX (mP 281) (F + 6) 5 (LS2 x) [] (LR z f) = rnX (mP 281) F 11 (LS2 x) [vI x, vR 1, vI x, vR 3] (LR z f) := rfl
set_option maxRecDepth 100000 in
theorem th_2 (x : Int32) (z : Nat → Int32) (f : Nat → FA) (F : Nat) : rnX (mP 281) (F + 1) 11 (LS2 x) [vI x, vR 1, vI x, vR 3] (LR z f) = bif (Nat.beq 0 0 && pin x 499) then rnX (mP 281) F 12 (LS2 x) [vI (f 1 (ix x)), vI x, vR 3] (LR z f) else none := rfl
set_option maxRecDepth 100000 in
theorem th_3 (x y : Int32) (z : Nat → Int32) (f : Nat → FA) (F : Nat) : rnX (mP 281) (F + 1) 12 (LS2 x) [vI y, vI x, vR 3] (LR z f) = bif (Nat.beq 0 0 && pin x 499) then rnX (mP 281) F 13 (LS2 x) [] (LR z (uA f 3 (upd (f 3) (ix x) y))) else none := rfl
set_option maxRecDepth 100000 in
theorem th_4 (x : Int32) (L : QH FA) (F : Nat) : rnX (mP 281) (F + 2) 13 (LS2 x) [] L = rnX (mP 281) F 2 (LS2 (x + 1)) [] L := rfl
set_option maxRecDepth 100000 in
theorem th_5 (x : Int32) (z : Nat → Int32) (f : Nat → FA) (F : Nat) : rnX (mP 281) (F + 3) 15 (LS2 x) [] (LR z f) = rnX (mP 281) F 18 (LS2 x) [] (LR (uZ z 5 1) f) := rfl
theorem uA_self (f : Nat → FA) (k : Nat) (g : FA) : uA f k g k = g := by unfold uA; rw [if_pos rfl]
theorem uA_uA (f : Nat → FA) (k : Nat) (g g' : FA) : uA (uA f k g) k g' = uA f k g' := by
  funext i; unfold uA
  by_cases h : i = k
  · rw [if_pos h, if_pos h]
  · rw [if_neg h, if_neg h, if_neg h]
theorem uA_ne {f : Nat → FA} {k i : Nat} {g : FA} (h : i ≠ k) : uA f k g i = f i := by unfold uA; rw [if_neg h]
theorem th_loop (z : Nat → Int32) (f : Nat → FA) (res : Option PV × QH FA) (hend : RX (mP 281) 15 (LS2 (nI 499)) [] (LR z (uA f 3 (cpj (f 1) (f 3) 499))) res) : ∀ t j, j + t = 499 → RX (mP 281) 2 (LS2 (nI j)) [] (LR z (uA f 3 (cpj (f 1) (f 3) j))) res := by
  intro t
  induction t with
  | zero =>
    intro j hj
    obtain rfl : j = 499 := by omega
    exact rx_b 2 (th_h _ _ _) (rx_t (th_i _ _ _) (by rw [show (499 : Int32) = nI 499 from rfl, ge_nI (by omega) (by omega)]; decide) hend)
  | succ t ih =>
    intro j hj
    refine rx_b 2 (th_h _ _ _) (rx_f (th_i _ _ _) (by rw [show (499 : Int32) = nI 499 from rfl, ge_nI (by omega) (by omega), ble_f]; omega) ?_)
    refine rx_b 6 (th_1 _ _ _) (rx_g (th_2 _ _ _) (by rw [pin_nI (by omega) (by omega)]; rfl) ?_)
    refine rx_g (th_3 _ _ _ _) (by rw [pin_nI (by omega) (by omega)]; rfl) ?_
    refine rx_b 2 (th_4 _ _) ?_
    rw [uA_uA, uA_self, uA_ne (by decide), ix_nI (by omega), cpj_s, show nI j + 1 = nI (j + 1) from nI_add j 1]
    exact ih (j + 1) (by omega)
set_option maxRecDepth 100000 in
theorem th_0 (z : Nat → Int32) (f : Nat → FA) (F : Nat) : rnX (mP 281) (F + 2) 0 [some (vR 0), none] [] (LR z f) = rnX (mP 281) F 2 (LS2 0) [] (LR z f) := rfl
set_option maxRecDepth 100000 in
theorem th_9 (x : Int32) (L : QH FA) (F : Nat) : rnX (mP 281) (F + 1) 18 (LS2 x) [] L = some (none, L) := rfl
theorem th_run (z : Nat → Int32) (f : Nat → FA) : RX (mP 281) 0 [some (vR 0), none] [] (LR z f) (none, LR (uZ z 5 1) (uA f 3 (cpj (f 1) (f 3) 499))) := by
  refine rx_b 2 (th_0 _ _) ?_
  have h0 : uA f 3 (cpj (f 1) (f 3) 0) = f := by
    funext i; unfold uA
    by_cases h : i = 3
    · rw [if_pos h, h, cpj_0]
    · rw [if_neg h]
  have key := th_loop z f (none, LR (uZ z 5 1) (uA f 3 (cpj (f 1) (f 3) 499))) (rx_b 3 (th_5 _ _ _) (rx_ret (th_9 _ _))) 499 0 (by omega)
  rw [h0] at key
  exact key
