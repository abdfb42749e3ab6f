/-! the class's world: forty-two cells, and its four texts behind them -/
abbrev TXW : Type := (Nat → Option Nat) × QH FA × (Nat → Nat × Nat × Nat) × (Nat → Int32) × (Nat → Nat × FA) × (Nat → Nat × FA)
def wX (W : TXW) : Nat → Option Nat := W.1
def wL (W : TXW) : QH FA := W.2.1
def wJ (W : TXW) (k : Nat) : Nat := (W.2.2.1 k).1
def wA (W : TXW) (k : Nat) : Nat := (W.2.2.1 k).2.1
def wC (W : TXW) (k : Nat) : Nat := (W.2.2.1 k).2.2
def wn (W : TXW) (k : Nat) : Int32 := W.2.2.2.1 k
def wN (W : TXW) (k : Nat) : Nat := (W.2.2.2.2.1 k).1
def wg (W : TXW) (k : Nat) : FA := (W.2.2.2.2.1 k).2
def wM (W : TXW) (k : Nat) : Nat := (W.2.2.2.2.2 k).1
def wh (W : TXW) (k : Nat) : FA := (W.2.2.2.2.2 k).2
/-- the places of what this heap doesn't hold -/
def wK (W : TXW) : Nat := (wL W).length + 242
/-- the texts as they lie behind: lines' numbers and the law's code -/
def WTX (W : TXW) : Prop := ∀ k, k < 4 → wX W k = some (wJ W k + 42) ∧ nth (wL W) (wJ W k) = some (.inr (8, [vR (wA W k + 42), vI (wn W k), vR (wC W k + 42)])) ∧ nth (wL W) (wA W k) = some (.inl (.inl (0, wN W k, wg W k))) ∧ nth (wL W) (wC W k) = some (.inl (.inl (0, wM W k, wh W k)))
def rgW (j : Nat) : Option Nat := match j with
  | 0 => some 14
  | 1 => some 17
  | 2 => some 20
  | 3 => some 23
  | 4 => some 26
  | 5 => some 29
  | _ => none
def LW (W : TXW) (z : Nat → Int32) (f : Nat → FA) : QH FA := .inr (11, [vR 1, vR (wK W), vI (z 0), vR 12, vR (wK W + 1), vR 32, vR 8, vR 35, vR 39, vR (wK W + 2), vR (wK W + 3)]) :: .inr (10, [vR 2, vR 5, vR 7, vR (wK W + 4)]) :: .inr (0, [vR 3, vR 4, vI (z 22), vI (z 23), vI (z 24), vI (z 25), vI (z 26), vI (z 27), vI (z 28), vI (z 29)]) :: .inl (.inl (0, 120, f 3)) :: .inl (.inl (0, 144, f 4)) :: .inr (3, [vR 6]) :: .inl (.inl (0, 750, f 6)) :: .inl (.inr (2, 4, wX W)) :: .inr (1, [vR 2, vR 7, vR 5, vR 9, vR 10, vR 11]) :: .inl (.inl (0, 10, f 9)) :: .inl (.inl (0, 32, f 10)) :: .inl (.inl (0, 100, f 11)) :: .inr (7, [vR 13, vI (z 122), vI (z 123)]) :: .inl (.inr (1, 6, rgW)) :: .inr (0, [vR 15, vR 16, vI (z 142), vI (z 143), vI (z 144), vI (z 145), vI (z 146), vI (z 147), vI (z 148), vI (z 149)]) :: .inl (.inl (0, 120, f 15)) :: .inl (.inl (0, 144, f 16)) :: .inr (0, [vR 18, vR 19, vI (z 172), vI (z 173), vI (z 174), vI (z 175), vI (z 176), vI (z 177), vI (z 178), vI (z 179)]) :: .inl (.inl (0, 120, f 18)) :: .inl (.inl (0, 144, f 19)) :: .inr (0, [vR 21, vR 22, vI (z 202), vI (z 203), vI (z 204), vI (z 205), vI (z 206), vI (z 207), vI (z 208), vI (z 209)]) :: .inl (.inl (0, 120, f 21)) :: .inl (.inl (0, 144, f 22)) :: .inr (0, [vR 24, vR 25, vI (z 232), vI (z 233), vI (z 234), vI (z 235), vI (z 236), vI (z 237), vI (z 238), vI (z 239)]) :: .inl (.inl (0, 120, f 24)) :: .inl (.inl (0, 144, f 25)) :: .inr (0, [vR 27, vR 28, vI (z 262), vI (z 263), vI (z 264), vI (z 265), vI (z 266), vI (z 267), vI (z 268), vI (z 269)]) :: .inl (.inl (0, 120, f 27)) :: .inl (.inl (0, 144, f 28)) :: .inr (0, [vR 30, vR 31, vI (z 292), vI (z 293), vI (z 294), vI (z 295), vI (z 296), vI (z 297), vI (z 298), vI (z 299)]) :: .inl (.inl (0, 120, f 30)) :: .inl (.inl (0, 144, f 31)) :: .inr (0, [vR 33, vR 34, vI (z 322), vI (z 323), vI (z 324), vI (z 325), vI (z 326), vI (z 327), vI (z 328), vI (z 329)]) :: .inl (.inl (0, 120, f 33)) :: .inl (.inl (0, 144, f 34)) :: .inr (1, [vR 32, vR 7, vN, vR 36, vR 37, vR 38]) :: .inl (.inl (0, 10, f 36)) :: .inl (.inl (0, 32, f 37)) :: .inl (.inl (0, 100, f 38)) :: .inr (6, [vR 40, vR 41, vI (z 392), vI (z 393)]) :: .inl (.inl (0, 144, f 40)) :: .inl (.inl (0, 144, f 41)) :: wL W
theorem LW_tl (W : TXW) (z : Nat → Int32) (f : Nat → FA) (j : Nat) : nth (LW W z f) (j + 42) = nth (wL W) j := rfl
section WRows
variable {W : TXW} {k t : Nat} {ih : QK FA} {ls : List (Option PV)} {st : List PV} {z : Nat → Int32} {f : Nat → FA}
theorem gt_0 (hW : WTX W) (hk : k < 4) : p_get ih 8 0 t ls (vR (wJ W k + 42) :: st) (LW W z f) = ih t ls (vR (wA W k + 42) :: st) (LW W z f) := by
  have h : nth (LW W z f) (wJ W k + 42) = _ := (LW_tl W z f _).trans (hW k hk).2.1
  unfold p_get
  simp only [h]
  rfl
theorem gt_1 (hW : WTX W) (hk : k < 4) : p_get ih 8 1 t ls (vR (wJ W k + 42) :: st) (LW W z f) = ih t ls (vI (wn W k) :: st) (LW W z f) := by
  have h : nth (LW W z f) (wJ W k + 42) = _ := (LW_tl W z f _).trans (hW k hk).2.1
  unfold p_get
  simp only [h]
  rfl
theorem gt_2 (hW : WTX W) (hk : k < 4) : p_get ih 8 2 t ls (vR (wJ W k + 42) :: st) (LW W z f) = ih t ls (vR (wC W k + 42) :: st) (LW W z f) := by
  have h : nth (LW W z f) (wJ W k + 42) = _ := (LW_tl W z f _).trans (hW k hk).2.1
  unfold p_get
  simp only [h]
  rfl
theorem gl_g (hW : WTX W) (hk : k < 4) (x : Int32) : p_iald ih rdF fzF t ls (vI x :: vR (wA W k + 42) :: st) (LW W z f) = bif pin x (wN W k) then ih t ls (vI (wg W k (ix x)) :: st) (LW W z f) else none := by
  have h : nth (LW W z f) (wA W k + 42) = _ := (LW_tl W z f _).trans (hW k hk).2.2.1
  unfold p_iald
  simp only [h]
  rfl
theorem gl_h (hW : WTX W) (hk : k < 4) (x : Int32) : p_iald ih rdF fzF t ls (vI x :: vR (wC W k + 42) :: st) (LW W z f) = bif pin x (wM W k) then ih t ls (vI (wh W k (ix x)) :: st) (LW W z f) else none := by
  have h : nth (LW W z f) (wC W k + 42) = _ := (LW_tl W z f _).trans (hW k hk).2.2.2
  unfold p_iald
  simp only [h]
  rfl
theorem ga_g (hW : WTX W) (hk : k < 4) : p_alen ih t ls (vR (wA W k + 42) :: st) (LW W z f) = ih t ls (vI (nI (wN W k)) :: st) (LW W z f) := by
  have h : nth (LW W z f) (wA W k + 42) = _ := (LW_tl W z f _).trans (hW k hk).2.2.1
  unfold p_alen
  simp only [h]
  rfl
theorem ga_h (hW : WTX W) (hk : k < 4) : p_alen ih t ls (vR (wC W k + 42) :: st) (LW W z f) = ih t ls (vI (nI (wM W k)) :: st) (LW W z f) := by
  have h : nth (LW W z f) (wC W k + 42) = _ := (LW_tl W z f _).trans (hW k hk).2.2.2
  unfold p_alen
  simp only [h]
  rfl
theorem gx_t (hW : WTX W) (hk : k < 4) {c : Int32} (hc : ix c = k) (hp : pin c 4 = true) : p_aald ih t ls (vI c :: vR 7 :: st) (LW W z f) = ih t ls (vR (wJ W k + 42) :: st) (LW W z f) := by
  show (bif ((Nat.beq 2 1 || (Nat.beq 2 2 || Nat.beq 2 3)) && pin c 4) then ih t ls (.inr (.inl (wX W (ix c))) :: st) (LW W z f) else none) = _
  rw [hp, hc, (hW k hk).1]
  rfl
theorem gj_t (hW : WTX W) (hk : k < 4) : nth (LW W z f) (wJ W k + 42) = some (.inr (8, [vR (wA W k + 42), vI (wn W k), vR (wC W k + 42)])) := by
  rw [LW_tl]
  exact (hW k hk).2.1
end WRows
/-- the first n of a row put over another -/
def cpW (f g : FA) (n : Nat) : FA := fun j => if j < n then f j else g j
theorem cpW_e {f g : FA} {a b n : Int32} {N : Nat} (ha : ix a = 0) (hb : ix b = 0) (hn : ix n = N) : (va_cpy f g (ix a) (ix b) (ix n) : FA) = cpW f g N := by
  rw [ha, hb, hn]
  funext j
  unfold va_cpy cpW
  by_cases c : j < N
  · rw [if_pos ⟨Nat.zero_le _, by omega⟩, if_pos c, Nat.sub_zero, Nat.zero_add]
  · rw [if_neg (fun q => c (by omega)), if_neg c]
theorem xc_if2 {call : QC FA} {c : List PO} {i : Nat} {ls ls' : List (Option PV)} {st st1 st2 : List PV} {L : QH FA} {res : Option PV × QH FA} {b it ie : Nat} {x y : Int32} (hs : ∀ F, run (mkX call c 0) (F + 1) i ls st L = bif pcmp b x y then run (mkX call c 0) F it ls' st1 L else run (mkX call c 0) F ie ls' st2 L) (h1 : pcmp b x y = true → XC call c it ls' st1 L res) (h2 : pcmp b x y = false → XC call c ie ls' st2 L res) : XC call c i ls st L res := by
  cases h : pcmp b x y with
  | true => exact xc_b 1 (fun F => by rw [hs, h]; rfl) (h1 h)
  | false => exact xc_b 1 (fun F => by rw [hs, h]; rfl) (h2 h)
theorem ne_I {x n : Int32} (h : ¬ x = n) : I x ≠ I n := fun e => h (Int32.toInt_inj.mp e)
theorem pwd_ {ih : QK FA} {a b : Nat} {tg : List Nat} {ls : List (Option PV)} {x : Int32} {st : List PV} {L : QH FA} {k : Nat} (h : I x < (a : Int) ∨ (b : Int) < I x) (hk : nth tg 0 = some k) : p_tab ih a b tg ls (vI x :: st) L = ih k ls st L := by
  have h2 : (decide (x.toInt < (a : Int)) || decide ((b : Int) < x.toInt)) = true := by
    rw [Bool.or_eq_true, decide_eq_true_eq, decide_eq_true_eq]
    exact h
  unfold p_tab
  simp only [h2, hk, cond_true]
theorem pwa_ {ih : QK FA} {a b : Nat} {tg : List Nat} {ls : List (Option PV)} {x : Int32} {st : List PV} {L : QH FA} {k : Nat} (h : (decide (x.toInt < (a : Int)) || decide ((b : Int) < x.toInt)) = false) (hk : nth tg ((x.toInt - (a : Int)).toNat + 1) = some k) : p_tab ih a b tg ls (vI x :: st) L = ih k ls st L := by
  unfold p_tab
  simp only [h, hk, cond_false]
