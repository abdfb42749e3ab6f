/-- a canton taken over -/
def CPC (a b : Nat) (z : Nat → Int32) (f : Nat → FA) (z' : Nat → Int32) (f' : Nat → FA) : Prop := (∀ i, 2 ≤ i → i < 10 → z' (10 * b + i) = z (10 * a + i)) ∧ (∀ j, (j < 10 * b + 2 ∨ 10 * b + 10 ≤ j) → z' j = z j) ∧ (∀ j, j < 120 → f' (b + 1) j = f (a + 1) j) ∧ (∀ j, j < 144 → f' (b + 2) j = f (a + 2) j) ∧ ∀ k, k ≠ b + 1 → k ≠ b + 2 → f' k = f k
def CRo (c nv : Nat) (z : Nat → Int32) (f : Nat → FA) (g w4 w5 w6 : FA) : Prop := nv ≤ 20 ∧ CRs c nv z g ∧ CRt nv (f (c + 1)) g w4 w5 w6 ∧ MRS nv (f (c + 2)) g ∧ CRr g
theorem CRo.cp {a b nv : Nat} {z z' : Nat → Int32} {f f' : Nat → FA} {g w4 w5 w6 : FA} (h : CRo a nv z f g w4 w5 w6) (k : CPC a b z f z' f') : CRo b nv z' f' g w4 w5 w6 := by
  obtain ⟨hn, hs, ht, hm, hr⟩ := h
  obtain ⟨a1, a2, a3, a4, a5, a6, a7, a8⟩ := hs
  obtain ⟨k1, -, k3, k4, -⟩ := k
  exact ⟨hn, ⟨(k1 2 (by decide) (by decide)).trans a1, (k1 3 (by decide) (by decide)).trans a2, (k1 4 (by decide) (by decide)).trans a3, (k1 5 (by decide) (by decide)).trans a4, (k1 6 (by decide) (by decide)).trans a5, (k1 7 (by decide) (by decide)).trans a6, (k1 8 (by decide) (by decide)).trans a7, (k1 9 (by decide) (by decide)).trans a8⟩, ht.cong (fun j hj => k3 j hj) (fun _ _ _ => rfl) (fun _ _ => rfl) (fun _ _ => rfl) (fun _ _ => rfl) hn, hm.cong (fun j hj => k4 j hj) (fun _ _ _ => rfl), hr⟩
theorem CRo.st {c nv : Nat} {z z' : Nat → Int32} {f f' : Nat → FA} {g w4 w5 w6 : FA} (h : CRo c nv z f g w4 w5 w6) (hz : ∀ i, 2 ≤ i → i < 10 → z' (10 * c + i) = z (10 * c + i)) (h1 : f' (c + 1) = f (c + 1)) (h2 : f' (c + 2) = f (c + 2)) : CRo c nv z' f' g w4 w5 w6 := by
  obtain ⟨hn, hs, ht, hm, hr⟩ := h
  obtain ⟨a1, a2, a3, a4, a5, a6, a7, a8⟩ := hs
  exact ⟨hn, ⟨(hz 2 (by decide) (by decide)).trans a1, (hz 3 (by decide) (by decide)).trans a2, (hz 4 (by decide) (by decide)).trans a3, (hz 5 (by decide) (by decide)).trans a4, (hz 6 (by decide) (by decide)).trans a5, (hz 7 (by decide) (by decide)).trans a6, (hz 8 (by decide) (by decide)).trans a7, (hz 9 (by decide) (by decide)).trans a8⟩, h1 ▸ ht, h2 ▸ hm, hr⟩
theorem CRo.gg {c nv : Nat} {z : Nat → Int32} {f : Nat → FA} {g g' w4 w5 w6 : FA} (h : CRo c nv z f g w4 w5 w6) (hg : ∀ x, x < 499 → g' x = g x) : CRo c nv z f g' w4 w5 w6 := by
  obtain ⟨hn, hs, ht, hm, hr⟩ := h
  refine ⟨hn, ?_, ht.cong (fun _ _ => rfl) (fun j h1 h2 => hg j (by omega)) (fun _ _ => rfl) (fun _ _ => rfl) (fun _ _ => rfl) hn, hm.cong (fun _ _ => rfl) (fun j h1 h2 => hg j h2), ?_⟩
  · unfold CRs
    rw [hg 4 (by omega), hg 1 (by omega), hg 0 (by omega), hg 5 (by omega), hg 6 (by omega), hg 2 (by omega), hg 3 (by omega)]
    exact hs
  · unfold CRr
    rw [hg 1 (by omega), hg 3 (by omega)]
    exact hr
/-- the ring beside the rows: c and c2 are kept, of which the newest k are alike -/
def RGA (c c2 k nv : Nat) (z : Nat → Int32) (f : Nat → FA) (zr : Nat → Int32) (r : Nat → FA) : Prop := ∃ p, p < 6 ∧ c ≤ 6 ∧ c2 ≤ 6 ∧ k ≤ c ∧ k ≤ c2 ∧ z 122 = nI p ∧ z 123 = nI c ∧ zr 3 = nI c2 ∧ ∀ i, i < k → CRo (14 + 3 * ((p + 5 - i) % 6)) nv z f (fun x => r 2 (499 * (c2 - 1 - i) + x)) (r 4) (r 5) (r 6)
/-! steps back, on both sides -/
section TWs
variable {W : TXW}
set_option maxRecDepth 100000 in
theorem bt0_90_1 (call : QC FA) (z : Nat → Int32) (f : Nat → FA) (F : Nat) : xnG call 90 (F + 7) 0 [some (vR 14), some (vR 2)] [] (LW W z f) = xnG call 90 F 7 [some (vR 14), some (vR 2)] [vI 120, vI 0, vR 15, vI 0, vR 3] (LW W z f) := rfl
set_option maxRecDepth 100000 in
theorem bt0_90_2 (call : QC FA) (ls : List (Option PV)) (z : Nat → Int32) (f : Nat → FA) (F : Nat) : xnG call 90 (F + 1) 7 ls [vI 120, vI 0, vR 15, vI 0, vR 3] (LW W z f) = bif (Nat.beq 0 0 && (Nat.beq 0 0 && (pcmp 3 0 0 && (pcmp 3 0 0 && (pcmp 3 120 0 && (Nat.ble (ix 0 + ix 120) 120 && (Nat.ble (ix 0 + ix 120) 120 && Nat.ble 0 8))))))) then xnG call 90 F 8 ls [] (LW W z (uA f 15 (va_cpy (f 3) (f 15) (ix 0) (ix 0) (ix 120)))) else none := rfl
set_option maxRecDepth 100000 in
theorem bt0_90_3 (call : QC FA) (z : Nat → Int32) (f : Nat → FA) (F : Nat) : xnG call 90 (F + 7) 8 [some (vR 14), some (vR 2)] [] (LW W z f) = xnG call 90 F 15 [some (vR 14), some (vR 2)] [vI 144, vI 0, vR 16, vI 0, vR 4] (LW W z f) := rfl
set_option maxRecDepth 100000 in
theorem bt0_90_4 (call : QC FA) (ls : List (Option PV)) (z : Nat → Int32) (f : Nat → FA) (F : Nat) : xnG call 90 (F + 1) 15 ls [vI 144, vI 0, vR 16, vI 0, vR 4] (LW W z f) = bif (Nat.beq 0 0 && (Nat.beq 0 0 && (pcmp 3 0 0 && (pcmp 3 0 0 && (pcmp 3 144 0 && (Nat.ble (ix 0 + ix 144) 144 && (Nat.ble (ix 0 + ix 144) 144 && Nat.ble 0 8))))))) then xnG call 90 F 16 ls [] (LW W z (uA f 16 (va_cpy (f 4) (f 16) (ix 0) (ix 0) (ix 144)))) else none := rfl
set_option maxRecDepth 100000 in
theorem bt0_90_5 (call : QC FA) (z : Nat → Int32) (f : Nat → FA) (F : Nat) : xnG call 90 (F + 3) 16 [some (vR 14), some (vR 2)] [] (LW W z f) = xnG call 90 F 19 [some (vR 14), some (vR 2)] [vI (z 22), vR 14] (LW W z f) := rfl
set_option maxRecDepth 100000 in
theorem bt0_90_6 (call : QC FA) (y : Int32) (ls : List (Option PV)) (z : Nat → Int32) (f : Nat → FA) (F : Nat) : xnG call 90 (F + 1) 19 ls [vI y, vR 14] (LW W z f) = xnG call 90 F 20 ls [] (LW W (uZ z 142 y) f) := rfl
set_option maxRecDepth 100000 in
theorem bt0_90_7 (call : QC FA) (z : Nat → Int32) (f : Nat → FA) (F : Nat) : xnG call 90 (F + 3) 20 [some (vR 14), some (vR 2)] [] (LW W z f) = xnG call 90 F 23 [some (vR 14), some (vR 2)] [vI (z 23), vR 14] (LW W z f) := rfl
set_option maxRecDepth 100000 in
theorem bt0_90_8 (call : QC FA) (y : Int32) (ls : List (Option PV)) (z : Nat → Int32) (f : Nat → FA) (F : Nat) : xnG call 90 (F + 1) 23 ls [vI y, vR 14] (LW W z f) = xnG call 90 F 24 ls [] (LW W (uZ z 143 y) f) := rfl
set_option maxRecDepth 100000 in
theorem bt0_90_9 (call : QC FA) (z : Nat → Int32) (f : Nat → FA) (F : Nat) : xnG call 90 (F + 3) 24 [some (vR 14), some (vR 2)] [] (LW W z f) = xnG call 90 F 27 [some (vR 14), some (vR 2)] [vI (z 24), vR 14] (LW W z f) := rfl
set_option maxRecDepth 100000 in
theorem bt0_90_10 (call : QC FA) (y : Int32) (ls : List (Option PV)) (z : Nat → Int32) (f : Nat → FA) (F : Nat) : xnG call 90 (F + 1) 27 ls [vI y, vR 14] (LW W z f) = xnG call 90 F 28 ls [] (LW W (uZ z 144 y) f) := rfl
set_option maxRecDepth 100000 in
theorem bt0_90_11 (call : QC FA) (z : Nat → Int32) (f : Nat → FA) (F : Nat) : xnG call 90 (F + 3) 28 [some (vR 14), some (vR 2)] [] (LW W z f) = xnG call 90 F 31 [some (vR 14), some (vR 2)] [vI (z 25), vR 14] (LW W z f) := rfl
set_option maxRecDepth 100000 in
theorem bt0_90_12 (call : QC FA) (y : Int32) (ls : List (Option PV)) (z : Nat → Int32) (f : Nat → FA) (F : Nat) : xnG call 90 (F + 1) 31 ls [vI y, vR 14] (LW W z f) = xnG call 90 F 32 ls [] (LW W (uZ z 145 y) f) := rfl
set_option maxRecDepth 100000 in
theorem bt0_90_13 (call : QC FA) (z : Nat → Int32) (f : Nat → FA) (F : Nat) : xnG call 90 (F + 3) 32 [some (vR 14), some (vR 2)] [] (LW W z f) = xnG call 90 F 35 [some (vR 14), some (vR 2)] [vI (z 26), vR 14] (LW W z f) := rfl
set_option maxRecDepth 100000 in
theorem bt0_90_14 (call : QC FA) (y : Int32) (ls : List (Option PV)) (z : Nat → Int32) (f : Nat → FA) (F : Nat) : xnG call 90 (F + 1) 35 ls [vI y, vR 14] (LW W z f) = xnG call 90 F 36 ls [] (LW W (uZ z 146 y) f) := rfl
set_option maxRecDepth 100000 in
theorem bt0_90_15 (call : QC FA) (z : Nat → Int32) (f : Nat → FA) (F : Nat) : xnG call 90 (F + 3) 36 [some (vR 14), some (vR 2)] [] (LW W z f) = xnG call 90 F 39 [some (vR 14), some (vR 2)] [vI (z 27), vR 14] (LW W z f) := rfl
set_option maxRecDepth 100000 in
theorem bt0_90_16 (call : QC FA) (y : Int32) (ls : List (Option PV)) (z : Nat → Int32) (f : Nat → FA) (F : Nat) : xnG call 90 (F + 1) 39 ls [vI y, vR 14] (LW W z f) = xnG call 90 F 40 ls [] (LW W (uZ z 147 y) f) := rfl
set_option maxRecDepth 100000 in
theorem bt0_90_17 (call : QC FA) (z : Nat → Int32) (f : Nat → FA) (F : Nat) : xnG call 90 (F + 3) 40 [some (vR 14), some (vR 2)] [] (LW W z f) = xnG call 90 F 43 [some (vR 14), some (vR 2)] [vI (z 28), vR 14] (LW W z f) := rfl
set_option maxRecDepth 100000 in
theorem bt0_90_18 (call : QC FA) (y : Int32) (ls : List (Option PV)) (z : Nat → Int32) (f : Nat → FA) (F : Nat) : xnG call 90 (F + 1) 43 ls [vI y, vR 14] (LW W z f) = xnG call 90 F 44 ls [] (LW W (uZ z 148 y) f) := rfl
set_option maxRecDepth 100000 in
theorem bt0_90_19 (call : QC FA) (z : Nat → Int32) (f : Nat → FA) (F : Nat) : xnG call 90 (F + 3) 44 [some (vR 14), some (vR 2)] [] (LW W z f) = xnG call 90 F 47 [some (vR 14), some (vR 2)] [vI (z 29), vR 14] (LW W z f) := rfl
set_option maxRecDepth 100000 in
theorem bt0_90_20 (call : QC FA) (y : Int32) (ls : List (Option PV)) (z : Nat → Int32) (f : Nat → FA) (F : Nat) : xnG call 90 (F + 1) 47 ls [vI y, vR 14] (LW W z f) = xnG call 90 F 48 ls [] (LW W (uZ z 149 y) f) := rfl
set_option maxRecDepth 100000 in
theorem bt0_90_21 (call : QC FA) (ls : List (Option PV)) (L : QH FA) (F : Nat) : xnG call 90 (F + 1) 48 ls [] L = some (none, L) := rfl
theorem vct0_90_0 (call : QC FA) (z : Nat → Int32) (f : Nat → FA) (res : Option PV × QH FA) (H : res = (none, LW W (uZ (uZ (uZ (uZ (uZ (uZ (uZ (uZ z 142 (z 22)) 143 (z 23)) 144 (z 24)) 145 (z 25)) 146 (z 26)) 147 (z 27)) 148 (z 28)) 149 (z 29)) (uA (uA f 15 (cpW (f 3) (f 15) 120)) 16 (cpW (f 4) (f 16) 144)))) : XC call (mP 90) 0 [some (vR 14), some (vR 2)] [] (LW W z f) res := by
  refine xc_b (i' := 7) (ls' := [some (vR 14), some (vR 2)]) (st' := [vI 120, vI 0, vR 15, vI 0, vR 3]) (L' := LW W z f) 7 (bt0_90_1 call z f) ?_
  refine xc_g (i' := 8) (ls' := [some (vR 14), some (vR 2)]) (st' := []) (L' := LW W z (uA f 15 (va_cpy (f 3) (f 15) (ix 0) (ix 0) (ix 120)))) (bt0_90_2 call _ z f) (by decide) ?_
  rw [cpW_e (f := f 3) (g := f 15) (a := 0) (b := 0) (n := 120) (N := 120) (by decide) (by decide) (by decide)]
  show XC call (mP 90) 8 [some (vR 14), some (vR 2)] [] (LW W z (uA f 15 (cpW (f 3) (f 15) 120))) res
  refine xc_b (i' := 15) (ls' := [some (vR 14), some (vR 2)]) (st' := [vI 144, vI 0, vR 16, vI 0, vR 4]) (L' := LW W z (uA f 15 (cpW (f 3) (f 15) 120))) 7 (bt0_90_3 call z (uA f 15 (cpW (f 3) (f 15) 120))) ?_
  refine xc_g (i' := 16) (ls' := [some (vR 14), some (vR 2)]) (st' := []) (L' := LW W z (uA (uA f 15 (cpW (f 3) (f 15) 120)) 16 (va_cpy ((uA f 15 (cpW (f 3) (f 15) 120)) 4) ((uA f 15 (cpW (f 3) (f 15) 120)) 16) (ix 0) (ix 0) (ix 144)))) (bt0_90_4 call _ z (uA f 15 (cpW (f 3) (f 15) 120))) (by decide) ?_
  rw [cpW_e (f := (uA f 15 (cpW (f 3) (f 15) 120)) 4) (g := (uA f 15 (cpW (f 3) (f 15) 120)) 16) (a := 0) (b := 0) (n := 144) (N := 144) (by decide) (by decide) (by decide)]
  show XC call (mP 90) 16 [some (vR 14), some (vR 2)] [] (LW W z (uA (uA f 15 (cpW (f 3) (f 15) 120)) 16 (cpW (f 4) (f 16) 144))) res
  refine xc_b (i' := 19) (ls' := [some (vR 14), some (vR 2)]) (st' := [vI (z 22), vR 14]) (L' := LW W z (uA (uA f 15 (cpW (f 3) (f 15) 120)) 16 (cpW (f 4) (f 16) 144))) 3 (bt0_90_5 call z (uA (uA f 15 (cpW (f 3) (f 15) 120)) 16 (cpW (f 4) (f 16) 144))) ?_
  refine xc_b (i' := 20) (ls' := [some (vR 14), some (vR 2)]) (st' := []) (L' := LW W (uZ z 142 (z 22)) (uA (uA f 15 (cpW (f 3) (f 15) 120)) 16 (cpW (f 4) (f 16) 144))) 1 (bt0_90_6 call (z 22) _ z (uA (uA f 15 (cpW (f 3) (f 15) 120)) 16 (cpW (f 4) (f 16) 144))) ?_
  refine xc_b (i' := 23) (ls' := [some (vR 14), some (vR 2)]) (st' := [vI (z 23), vR 14]) (L' := LW W (uZ z 142 (z 22)) (uA (uA f 15 (cpW (f 3) (f 15) 120)) 16 (cpW (f 4) (f 16) 144))) 3 (bt0_90_7 call (uZ z 142 (z 22)) (uA (uA f 15 (cpW (f 3) (f 15) 120)) 16 (cpW (f 4) (f 16) 144))) ?_
  refine xc_b (i' := 24) (ls' := [some (vR 14), some (vR 2)]) (st' := []) (L' := LW W (uZ (uZ z 142 (z 22)) 143 (z 23)) (uA (uA f 15 (cpW (f 3) (f 15) 120)) 16 (cpW (f 4) (f 16) 144))) 1 (bt0_90_8 call (z 23) _ (uZ z 142 (z 22)) (uA (uA f 15 (cpW (f 3) (f 15) 120)) 16 (cpW (f 4) (f 16) 144))) ?_
  refine xc_b (i' := 27) (ls' := [some (vR 14), some (vR 2)]) (st' := [vI (z 24), vR 14]) (L' := LW W (uZ (uZ z 142 (z 22)) 143 (z 23)) (uA (uA f 15 (cpW (f 3) (f 15) 120)) 16 (cpW (f 4) (f 16) 144))) 3 (bt0_90_9 call (uZ (uZ z 142 (z 22)) 143 (z 23)) (uA (uA f 15 (cpW (f 3) (f 15) 120)) 16 (cpW (f 4) (f 16) 144))) ?_
  refine xc_b (i' := 28) (ls' := [some (vR 14), some (vR 2)]) (st' := []) (L' := LW W (uZ (uZ (uZ z 142 (z 22)) 143 (z 23)) 144 (z 24)) (uA (uA f 15 (cpW (f 3) (f 15) 120)) 16 (cpW (f 4) (f 16) 144))) 1 (bt0_90_10 call (z 24) _ (uZ (uZ z 142 (z 22)) 143 (z 23)) (uA (uA f 15 (cpW (f 3) (f 15) 120)) 16 (cpW (f 4) (f 16) 144))) ?_
  refine xc_b (i' := 31) (ls' := [some (vR 14), some (vR 2)]) (st' := [vI (z 25), vR 14]) (L' := LW W (uZ (uZ (uZ z 142 (z 22)) 143 (z 23)) 144 (z 24)) (uA (uA f 15 (cpW (f 3) (f 15) 120)) 16 (cpW (f 4) (f 16) 144))) 3 (bt0_90_11 call (uZ (uZ (uZ z 142 (z 22)) 143 (z 23)) 144 (z 24)) (uA (uA f 15 (cpW (f 3) (f 15) 120)) 16 (cpW (f 4) (f 16) 144))) ?_
  refine xc_b (i' := 32) (ls' := [some (vR 14), some (vR 2)]) (st' := []) (L' := LW W (uZ (uZ (uZ (uZ z 142 (z 22)) 143 (z 23)) 144 (z 24)) 145 (z 25)) (uA (uA f 15 (cpW (f 3) (f 15) 120)) 16 (cpW (f 4) (f 16) 144))) 1 (bt0_90_12 call (z 25) _ (uZ (uZ (uZ z 142 (z 22)) 143 (z 23)) 144 (z 24)) (uA (uA f 15 (cpW (f 3) (f 15) 120)) 16 (cpW (f 4) (f 16) 144))) ?_
  refine xc_b (i' := 35) (ls' := [some (vR 14), some (vR 2)]) (st' := [vI (z 26), vR 14]) (L' := LW W (uZ (uZ (uZ (uZ z 142 (z 22)) 143 (z 23)) 144 (z 24)) 145 (z 25)) (uA (uA f 15 (cpW (f 3) (f 15) 120)) 16 (cpW (f 4) (f 16) 144))) 3 (bt0_90_13 call (uZ (uZ (uZ (uZ z 142 (z 22)) 143 (z 23)) 144 (z 24)) 145 (z 25)) (uA (uA f 15 (cpW (f 3) (f 15) 120)) 16 (cpW (f 4) (f 16) 144))) ?_
  refine xc_b (i' := 36) (ls' := [some (vR 14), some (vR 2)]) (st' := []) (L' := LW W (uZ (uZ (uZ (uZ (uZ z 142 (z 22)) 143 (z 23)) 144 (z 24)) 145 (z 25)) 146 (z 26)) (uA (uA f 15 (cpW (f 3) (f 15) 120)) 16 (cpW (f 4) (f 16) 144))) 1 (bt0_90_14 call (z 26) _ (uZ (uZ (uZ (uZ z 142 (z 22)) 143 (z 23)) 144 (z 24)) 145 (z 25)) (uA (uA f 15 (cpW (f 3) (f 15) 120)) 16 (cpW (f 4) (f 16) 144))) ?_
  refine xc_b (i' := 39) (ls' := [some (vR 14), some (vR 2)]) (st' := [vI (z 27), vR 14]) (L' := LW W (uZ (uZ (uZ (uZ (uZ z 142 (z 22)) 143 (z 23)) 144 (z 24)) 145 (z 25)) 146 (z 26)) (uA (uA f 15 (cpW (f 3) (f 15) 120)) 16 (cpW (f 4) (f 16) 144))) 3 (bt0_90_15 call (uZ (uZ (uZ (uZ (uZ z 142 (z 22)) 143 (z 23)) 144 (z 24)) 145 (z 25)) 146 (z 26)) (uA (uA f 15 (cpW (f 3) (f 15) 120)) 16 (cpW (f 4) (f 16) 144))) ?_
  refine xc_b (i' := 40) (ls' := [some (vR 14), some (vR 2)]) (st' := []) (L' := LW W (uZ (uZ (uZ (uZ (uZ (uZ z 142 (z 22)) 143 (z 23)) 144 (z 24)) 145 (z 25)) 146 (z 26)) 147 (z 27)) (uA (uA f 15 (cpW (f 3) (f 15) 120)) 16 (cpW (f 4) (f 16) 144))) 1 (bt0_90_16 call (z 27) _ (uZ (uZ (uZ (uZ (uZ z 142 (z 22)) 143 (z 23)) 144 (z 24)) 145 (z 25)) 146 (z 26)) (uA (uA f 15 (cpW (f 3) (f 15) 120)) 16 (cpW (f 4) (f 16) 144))) ?_
  refine xc_b (i' := 43) (ls' := [some (vR 14), some (vR 2)]) (st' := [vI (z 28), vR 14]) (L' := LW W (uZ (uZ (uZ (uZ (uZ (uZ z 142 (z 22)) 143 (z 23)) 144 (z 24)) 145 (z 25)) 146 (z 26)) 147 (z 27)) (uA (uA f 15 (cpW (f 3) (f 15) 120)) 16 (cpW (f 4) (f 16) 144))) 3 (bt0_90_17 call (uZ (uZ (uZ (uZ (uZ (uZ z 142 (z 22)) 143 (z 23)) 144 (z 24)) 145 (z 25)) 146 (z 26)) 147 (z 27)) (uA (uA f 15 (cpW (f 3) (f 15) 120)) 16 (cpW (f 4) (f 16) 144))) ?_
  refine xc_b (i' := 44) (ls' := [some (vR 14), some (vR 2)]) (st' := []) (L' := LW W (uZ (uZ (uZ (uZ (uZ (uZ (uZ z 142 (z 22)) 143 (z 23)) 144 (z 24)) 145 (z 25)) 146 (z 26)) 147 (z 27)) 148 (z 28)) (uA (uA f 15 (cpW (f 3) (f 15) 120)) 16 (cpW (f 4) (f 16) 144))) 1 (bt0_90_18 call (z 28) _ (uZ (uZ (uZ (uZ (uZ (uZ z 142 (z 22)) 143 (z 23)) 144 (z 24)) 145 (z 25)) 146 (z 26)) 147 (z 27)) (uA (uA f 15 (cpW (f 3) (f 15) 120)) 16 (cpW (f 4) (f 16) 144))) ?_
  refine xc_b (i' := 47) (ls' := [some (vR 14), some (vR 2)]) (st' := [vI (z 29), vR 14]) (L' := LW W (uZ (uZ (uZ (uZ (uZ (uZ (uZ z 142 (z 22)) 143 (z 23)) 144 (z 24)) 145 (z 25)) 146 (z 26)) 147 (z 27)) 148 (z 28)) (uA (uA f 15 (cpW (f 3) (f 15) 120)) 16 (cpW (f 4) (f 16) 144))) 3 (bt0_90_19 call (uZ (uZ (uZ (uZ (uZ (uZ (uZ z 142 (z 22)) 143 (z 23)) 144 (z 24)) 145 (z 25)) 146 (z 26)) 147 (z 27)) 148 (z 28)) (uA (uA f 15 (cpW (f 3) (f 15) 120)) 16 (cpW (f 4) (f 16) 144))) ?_
  refine xc_b (i' := 48) (ls' := [some (vR 14), some (vR 2)]) (st' := []) (L' := LW W (uZ (uZ (uZ (uZ (uZ (uZ (uZ (uZ z 142 (z 22)) 143 (z 23)) 144 (z 24)) 145 (z 25)) 146 (z 26)) 147 (z 27)) 148 (z 28)) 149 (z 29)) (uA (uA f 15 (cpW (f 3) (f 15) 120)) 16 (cpW (f 4) (f 16) 144))) 1 (bt0_90_20 call (z 29) _ (uZ (uZ (uZ (uZ (uZ (uZ (uZ z 142 (z 22)) 143 (z 23)) 144 (z 24)) 145 (z 25)) 146 (z 26)) 147 (z 27)) 148 (z 28)) (uA (uA f 15 (cpW (f 3) (f 15) 120)) 16 (cpW (f 4) (f 16) 144))) ?_
  subst H
  exact xc_ret (bt0_90_21 call _ _)
set_option maxRecDepth 100000 in
theorem br0_90_1 (call : QC FA) (z : Nat → Int32) (f : Nat → FA) (F : Nat) : xnG call 90 (F + 7) 0 [some (vR 2), some (vR 14)] [] (LW W z f) = xnG call 90 F 7 [some (vR 2), some (vR 14)] [vI 120, vI 0, vR 3, vI 0, vR 15] (LW W z f) := rfl
set_option maxRecDepth 100000 in
theorem br0_90_2 (call : QC FA) (ls : List (Option PV)) (z : Nat → Int32) (f : Nat → FA) (F : Nat) : xnG call 90 (F + 1) 7 ls [vI 120, vI 0, vR 3, vI 0, vR 15] (LW W z f) = bif (Nat.beq 0 0 && (Nat.beq 0 0 && (pcmp 3 0 0 && (pcmp 3 0 0 && (pcmp 3 120 0 && (Nat.ble (ix 0 + ix 120) 120 && (Nat.ble (ix 0 + ix 120) 120 && Nat.ble 0 8))))))) then xnG call 90 F 8 ls [] (LW W z (uA f 3 (va_cpy (f 15) (f 3) (ix 0) (ix 0) (ix 120)))) else none := rfl
set_option maxRecDepth 100000 in
theorem br0_90_3 (call : QC FA) (z : Nat → Int32) (f : Nat → FA) (F : Nat) : xnG call 90 (F + 7) 8 [some (vR 2), some (vR 14)] [] (LW W z f) = xnG call 90 F 15 [some (vR 2), some (vR 14)] [vI 144, vI 0, vR 4, vI 0, vR 16] (LW W z f) := rfl
set_option maxRecDepth 100000 in
theorem br0_90_4 (call : QC FA) (ls : List (Option PV)) (z : Nat → Int32) (f : Nat → FA) (F : Nat) : xnG call 90 (F + 1) 15 ls [vI 144, vI 0, vR 4, vI 0, vR 16] (LW W z f) = bif (Nat.beq 0 0 && (Nat.beq 0 0 && (pcmp 3 0 0 && (pcmp 3 0 0 && (pcmp 3 144 0 && (Nat.ble (ix 0 + ix 144) 144 && (Nat.ble (ix 0 + ix 144) 144 && Nat.ble 0 8))))))) then xnG call 90 F 16 ls [] (LW W z (uA f 4 (va_cpy (f 16) (f 4) (ix 0) (ix 0) (ix 144)))) else none := rfl
set_option maxRecDepth 100000 in
theorem br0_90_5 (call : QC FA) (z : Nat → Int32) (f : Nat → FA) (F : Nat) : xnG call 90 (F + 3) 16 [some (vR 2), some (vR 14)] [] (LW W z f) = xnG call 90 F 19 [some (vR 2), some (vR 14)] [vI (z 142), vR 2] (LW W z f) := rfl
set_option maxRecDepth 100000 in
theorem br0_90_6 (call : QC FA) (y : Int32) (ls : List (Option PV)) (z : Nat → Int32) (f : Nat → FA) (F : Nat) : xnG call 90 (F + 1) 19 ls [vI y, vR 2] (LW W z f) = xnG call 90 F 20 ls [] (LW W (uZ z 22 y) f) := rfl
set_option maxRecDepth 100000 in
theorem br0_90_7 (call : QC FA) (z : Nat → Int32) (f : Nat → FA) (F : Nat) : xnG call 90 (F + 3) 20 [some (vR 2), some (vR 14)] [] (LW W z f) = xnG call 90 F 23 [some (vR 2), some (vR 14)] [vI (z 143), vR 2] (LW W z f) := rfl
set_option maxRecDepth 100000 in
theorem br0_90_8 (call : QC FA) (y : Int32) (ls : List (Option PV)) (z : Nat → Int32) (f : Nat → FA) (F : Nat) : xnG call 90 (F + 1) 23 ls [vI y, vR 2] (LW W z f) = xnG call 90 F 24 ls [] (LW W (uZ z 23 y) f) := rfl
set_option maxRecDepth 100000 in
theorem br0_90_9 (call : QC FA) (z : Nat → Int32) (f : Nat → FA) (F : Nat) : xnG call 90 (F + 3) 24 [some (vR 2), some (vR 14)] [] (LW W z f) = xnG call 90 F 27 [some (vR 2), some (vR 14)] [vI (z 144), vR 2] (LW W z f) := rfl
set_option maxRecDepth 100000 in
theorem br0_90_10 (call : QC FA) (y : Int32) (ls : List (Option PV)) (z : Nat → Int32) (f : Nat → FA) (F : Nat) : xnG call 90 (F + 1) 27 ls [vI y, vR 2] (LW W z f) = xnG call 90 F 28 ls [] (LW W (uZ z 24 y) f) := rfl
set_option maxRecDepth 100000 in
theorem br0_90_11 (call : QC FA) (z : Nat → Int32) (f : Nat → FA) (F : Nat) : xnG call 90 (F + 3) 28 [some (vR 2), some (vR 14)] [] (LW W z f) = xnG call 90 F 31 [some (vR 2), some (vR 14)] [vI (z 145), vR 2] (LW W z f) := rfl
set_option maxRecDepth 100000 in
theorem br0_90_12 (call : QC FA) (y : Int32) (ls : List (Option PV)) (z : Nat → Int32) (f : Nat → FA) (F : Nat) : xnG call 90 (F + 1) 31 ls [vI y, vR 2] (LW W z f) = xnG call 90 F 32 ls [] (LW W (uZ z 25 y) f) := rfl
set_option maxRecDepth 100000 in
theorem br0_90_13 (call : QC FA) (z : Nat → Int32) (f : Nat → FA) (F : Nat) : xnG call 90 (F + 3) 32 [some (vR 2), some (vR 14)] [] (LW W z f) = xnG call 90 F 35 [some (vR 2), some (vR 14)] [vI (z 146), vR 2] (LW W z f) := rfl
set_option maxRecDepth 100000 in
theorem br0_90_14 (call : QC FA) (y : Int32) (ls : List (Option PV)) (z : Nat → Int32) (f : Nat → FA) (F : Nat) : xnG call 90 (F + 1) 35 ls [vI y, vR 2] (LW W z f) = xnG call 90 F 36 ls [] (LW W (uZ z 26 y) f) := rfl
set_option maxRecDepth 100000 in
theorem br0_90_15 (call : QC FA) (z : Nat → Int32) (f : Nat → FA) (F : Nat) : xnG call 90 (F + 3) 36 [some (vR 2), some (vR 14)] [] (LW W z f) = xnG call 90 F 39 [some (vR 2), some (vR 14)] [vI (z 147), vR 2] (LW W z f) := rfl
set_option maxRecDepth 100000 in
theorem br0_90_16 (call : QC FA) (y : Int32) (ls : List (Option PV)) (z : Nat → Int32) (f : Nat → FA) (F : Nat) : xnG call 90 (F + 1) 39 ls [vI y, vR 2] (LW W z f) = xnG call 90 F 40 ls [] (LW W (uZ z 27 y) f) := rfl
set_option maxRecDepth 100000 in
theorem br0_90_17 (call : QC FA) (z : Nat → Int32) (f : Nat → FA) (F : Nat) : xnG call 90 (F + 3) 40 [some (vR 2), some (vR 14)] [] (LW W z f) = xnG call 90 F 43 [some (vR 2), some (vR 14)] [vI (z 148), vR 2] (LW W z f) := rfl
set_option maxRecDepth 100000 in
theorem br0_90_18 (call : QC FA) (y : Int32) (ls : List (Option PV)) (z : Nat → Int32) (f : Nat → FA) (F : Nat) : xnG call 90 (F + 1) 43 ls [vI y, vR 2] (LW W z f) = xnG call 90 F 44 ls [] (LW W (uZ z 28 y) f) := rfl
set_option maxRecDepth 100000 in
theorem br0_90_19 (call : QC FA) (z : Nat → Int32) (f : Nat → FA) (F : Nat) : xnG call 90 (F + 3) 44 [some (vR 2), some (vR 14)] [] (LW W z f) = xnG call 90 F 47 [some (vR 2), some (vR 14)] [vI (z 149), vR 2] (LW W z f) := rfl
set_option maxRecDepth 100000 in
theorem br0_90_20 (call : QC FA) (y : Int32) (ls : List (Option PV)) (z : Nat → Int32) (f : Nat → FA) (F : Nat) : xnG call 90 (F + 1) 47 ls [vI y, vR 2] (LW W z f) = xnG call 90 F 48 ls [] (LW W (uZ z 29 y) f) := rfl
set_option maxRecDepth 100000 in
theorem br0_90_21 (call : QC FA) (ls : List (Option PV)) (L : QH FA) (F : Nat) : xnG call 90 (F + 1) 48 ls [] L = some (none, L) := rfl
theorem vcr0_90_0 (call : QC FA) (z : Nat → Int32) (f : Nat → FA) (res : Option PV × QH FA) (H : res = (none, LW W (uZ (uZ (uZ (uZ (uZ (uZ (uZ (uZ z 22 (z 142)) 23 (z 143)) 24 (z 144)) 25 (z 145)) 26 (z 146)) 27 (z 147)) 28 (z 148)) 29 (z 149)) (uA (uA f 3 (cpW (f 15) (f 3) 120)) 4 (cpW (f 16) (f 4) 144)))) : XC call (mP 90) 0 [some (vR 2), some (vR 14)] [] (LW W z f) res := by
  refine xc_b (i' := 7) (ls' := [some (vR 2), some (vR 14)]) (st' := [vI 120, vI 0, vR 3, vI 0, vR 15]) (L' := LW W z f) 7 (br0_90_1 call z f) ?_
  refine xc_g (i' := 8) (ls' := [some (vR 2), some (vR 14)]) (st' := []) (L' := LW W z (uA f 3 (va_cpy (f 15) (f 3) (ix 0) (ix 0) (ix 120)))) (br0_90_2 call _ z f) (by decide) ?_
  rw [cpW_e (f := f 15) (g := f 3) (a := 0) (b := 0) (n := 120) (N := 120) (by decide) (by decide) (by decide)]
  show XC call (mP 90) 8 [some (vR 2), some (vR 14)] [] (LW W z (uA f 3 (cpW (f 15) (f 3) 120))) res
  refine xc_b (i' := 15) (ls' := [some (vR 2), some (vR 14)]) (st' := [vI 144, vI 0, vR 4, vI 0, vR 16]) (L' := LW W z (uA f 3 (cpW (f 15) (f 3) 120))) 7 (br0_90_3 call z (uA f 3 (cpW (f 15) (f 3) 120))) ?_
  refine xc_g (i' := 16) (ls' := [some (vR 2), some (vR 14)]) (st' := []) (L' := LW W z (uA (uA f 3 (cpW (f 15) (f 3) 120)) 4 (va_cpy ((uA f 3 (cpW (f 15) (f 3) 120)) 16) ((uA f 3 (cpW (f 15) (f 3) 120)) 4) (ix 0) (ix 0) (ix 144)))) (br0_90_4 call _ z (uA f 3 (cpW (f 15) (f 3) 120))) (by decide) ?_
  rw [cpW_e (f := (uA f 3 (cpW (f 15) (f 3) 120)) 16) (g := (uA f 3 (cpW (f 15) (f 3) 120)) 4) (a := 0) (b := 0) (n := 144) (N := 144) (by decide) (by decide) (by decide)]
  show XC call (mP 90) 16 [some (vR 2), some (vR 14)] [] (LW W z (uA (uA f 3 (cpW (f 15) (f 3) 120)) 4 (cpW (f 16) (f 4) 144))) res
  refine xc_b (i' := 19) (ls' := [some (vR 2), some (vR 14)]) (st' := [vI (z 142), vR 2]) (L' := LW W z (uA (uA f 3 (cpW (f 15) (f 3) 120)) 4 (cpW (f 16) (f 4) 144))) 3 (br0_90_5 call z (uA (uA f 3 (cpW (f 15) (f 3) 120)) 4 (cpW (f 16) (f 4) 144))) ?_
  refine xc_b (i' := 20) (ls' := [some (vR 2), some (vR 14)]) (st' := []) (L' := LW W (uZ z 22 (z 142)) (uA (uA f 3 (cpW (f 15) (f 3) 120)) 4 (cpW (f 16) (f 4) 144))) 1 (br0_90_6 call (z 142) _ z (uA (uA f 3 (cpW (f 15) (f 3) 120)) 4 (cpW (f 16) (f 4) 144))) ?_
  refine xc_b (i' := 23) (ls' := [some (vR 2), some (vR 14)]) (st' := [vI (z 143), vR 2]) (L' := LW W (uZ z 22 (z 142)) (uA (uA f 3 (cpW (f 15) (f 3) 120)) 4 (cpW (f 16) (f 4) 144))) 3 (br0_90_7 call (uZ z 22 (z 142)) (uA (uA f 3 (cpW (f 15) (f 3) 120)) 4 (cpW (f 16) (f 4) 144))) ?_
  refine xc_b (i' := 24) (ls' := [some (vR 2), some (vR 14)]) (st' := []) (L' := LW W (uZ (uZ z 22 (z 142)) 23 (z 143)) (uA (uA f 3 (cpW (f 15) (f 3) 120)) 4 (cpW (f 16) (f 4) 144))) 1 (br0_90_8 call (z 143) _ (uZ z 22 (z 142)) (uA (uA f 3 (cpW (f 15) (f 3) 120)) 4 (cpW (f 16) (f 4) 144))) ?_
  refine xc_b (i' := 27) (ls' := [some (vR 2), some (vR 14)]) (st' := [vI (z 144), vR 2]) (L' := LW W (uZ (uZ z 22 (z 142)) 23 (z 143)) (uA (uA f 3 (cpW (f 15) (f 3) 120)) 4 (cpW (f 16) (f 4) 144))) 3 (br0_90_9 call (uZ (uZ z 22 (z 142)) 23 (z 143)) (uA (uA f 3 (cpW (f 15) (f 3) 120)) 4 (cpW (f 16) (f 4) 144))) ?_
  refine xc_b (i' := 28) (ls' := [some (vR 2), some (vR 14)]) (st' := []) (L' := LW W (uZ (uZ (uZ z 22 (z 142)) 23 (z 143)) 24 (z 144)) (uA (uA f 3 (cpW (f 15) (f 3) 120)) 4 (cpW (f 16) (f 4) 144))) 1 (br0_90_10 call (z 144) _ (uZ (uZ z 22 (z 142)) 23 (z 143)) (uA (uA f 3 (cpW (f 15) (f 3) 120)) 4 (cpW (f 16) (f 4) 144))) ?_
  refine xc_b (i' := 31) (ls' := [some (vR 2), some (vR 14)]) (st' := [vI (z 145), vR 2]) (L' := LW W (uZ (uZ (uZ z 22 (z 142)) 23 (z 143)) 24 (z 144)) (uA (uA f 3 (cpW (f 15) (f 3) 120)) 4 (cpW (f 16) (f 4) 144))) 3 (br0_90_11 call (uZ (uZ (uZ z 22 (z 142)) 23 (z 143)) 24 (z 144)) (uA (uA f 3 (cpW (f 15) (f 3) 120)) 4 (cpW (f 16) (f 4) 144))) ?_
  refine xc_b (i' := 32) (ls' := [some (vR 2), some (vR 14)]) (st' := []) (L' := LW W (uZ (uZ (uZ (uZ z 22 (z 142)) 23 (z 143)) 24 (z 144)) 25 (z 145)) (uA (uA f 3 (cpW (f 15) (f 3) 120)) 4 (cpW (f 16) (f 4) 144))) 1 (br0_90_12 call (z 145) _ (uZ (uZ (uZ z 22 (z 142)) 23 (z 143)) 24 (z 144)) (uA (uA f 3 (cpW (f 15) (f 3) 120)) 4 (cpW (f 16) (f 4) 144))) ?_
  refine xc_b (i' := 35) (ls' := [some (vR 2), some (vR 14)]) (st' := [vI (z 146), vR 2]) (L' := LW W (uZ (uZ (uZ (uZ z 22 (z 142)) 23 (z 143)) 24 (z 144)) 25 (z 145)) (uA (uA f 3 (cpW (f 15) (f 3) 120)) 4 (cpW (f 16) (f 4) 144))) 3 (br0_90_13 call (uZ (uZ (uZ (uZ z 22 (z 142)) 23 (z 143)) 24 (z 144)) 25 (z 145)) (uA (uA f 3 (cpW (f 15) (f 3) 120)) 4 (cpW (f 16) (f 4) 144))) ?_
  refine xc_b (i' := 36) (ls' := [some (vR 2), some (vR 14)]) (st' := []) (L' := LW W (uZ (uZ (uZ (uZ (uZ z 22 (z 142)) 23 (z 143)) 24 (z 144)) 25 (z 145)) 26 (z 146)) (uA (uA f 3 (cpW (f 15) (f 3) 120)) 4 (cpW (f 16) (f 4) 144))) 1 (br0_90_14 call (z 146) _ (uZ (uZ (uZ (uZ z 22 (z 142)) 23 (z 143)) 24 (z 144)) 25 (z 145)) (uA (uA f 3 (cpW (f 15) (f 3) 120)) 4 (cpW (f 16) (f 4) 144))) ?_
  refine xc_b (i' := 39) (ls' := [some (vR 2), some (vR 14)]) (st' := [vI (z 147), vR 2]) (L' := LW W (uZ (uZ (uZ (uZ (uZ z 22 (z 142)) 23 (z 143)) 24 (z 144)) 25 (z 145)) 26 (z 146)) (uA (uA f 3 (cpW (f 15) (f 3) 120)) 4 (cpW (f 16) (f 4) 144))) 3 (br0_90_15 call (uZ (uZ (uZ (uZ (uZ z 22 (z 142)) 23 (z 143)) 24 (z 144)) 25 (z 145)) 26 (z 146)) (uA (uA f 3 (cpW (f 15) (f 3) 120)) 4 (cpW (f 16) (f 4) 144))) ?_
  refine xc_b (i' := 40) (ls' := [some (vR 2), some (vR 14)]) (st' := []) (L' := LW W (uZ (uZ (uZ (uZ (uZ (uZ z 22 (z 142)) 23 (z 143)) 24 (z 144)) 25 (z 145)) 26 (z 146)) 27 (z 147)) (uA (uA f 3 (cpW (f 15) (f 3) 120)) 4 (cpW (f 16) (f 4) 144))) 1 (br0_90_16 call (z 147) _ (uZ (uZ (uZ (uZ (uZ z 22 (z 142)) 23 (z 143)) 24 (z 144)) 25 (z 145)) 26 (z 146)) (uA (uA f 3 (cpW (f 15) (f 3) 120)) 4 (cpW (f 16) (f 4) 144))) ?_
  refine xc_b (i' := 43) (ls' := [some (vR 2), some (vR 14)]) (st' := [vI (z 148), vR 2]) (L' := LW W (uZ (uZ (uZ (uZ (uZ (uZ z 22 (z 142)) 23 (z 143)) 24 (z 144)) 25 (z 145)) 26 (z 146)) 27 (z 147)) (uA (uA f 3 (cpW (f 15) (f 3) 120)) 4 (cpW (f 16) (f 4) 144))) 3 (br0_90_17 call (uZ (uZ (uZ (uZ (uZ (uZ z 22 (z 142)) 23 (z 143)) 24 (z 144)) 25 (z 145)) 26 (z 146)) 27 (z 147)) (uA (uA f 3 (cpW (f 15) (f 3) 120)) 4 (cpW (f 16) (f 4) 144))) ?_
  refine xc_b (i' := 44) (ls' := [some (vR 2), some (vR 14)]) (st' := []) (L' := LW W (uZ (uZ (uZ (uZ (uZ (uZ (uZ z 22 (z 142)) 23 (z 143)) 24 (z 144)) 25 (z 145)) 26 (z 146)) 27 (z 147)) 28 (z 148)) (uA (uA f 3 (cpW (f 15) (f 3) 120)) 4 (cpW (f 16) (f 4) 144))) 1 (br0_90_18 call (z 148) _ (uZ (uZ (uZ (uZ (uZ (uZ z 22 (z 142)) 23 (z 143)) 24 (z 144)) 25 (z 145)) 26 (z 146)) 27 (z 147)) (uA (uA f 3 (cpW (f 15) (f 3) 120)) 4 (cpW (f 16) (f 4) 144))) ?_
  refine xc_b (i' := 47) (ls' := [some (vR 2), some (vR 14)]) (st' := [vI (z 149), vR 2]) (L' := LW W (uZ (uZ (uZ (uZ (uZ (uZ (uZ z 22 (z 142)) 23 (z 143)) 24 (z 144)) 25 (z 145)) 26 (z 146)) 27 (z 147)) 28 (z 148)) (uA (uA f 3 (cpW (f 15) (f 3) 120)) 4 (cpW (f 16) (f 4) 144))) 3 (br0_90_19 call (uZ (uZ (uZ (uZ (uZ (uZ (uZ z 22 (z 142)) 23 (z 143)) 24 (z 144)) 25 (z 145)) 26 (z 146)) 27 (z 147)) 28 (z 148)) (uA (uA f 3 (cpW (f 15) (f 3) 120)) 4 (cpW (f 16) (f 4) 144))) ?_
  refine xc_b (i' := 48) (ls' := [some (vR 2), some (vR 14)]) (st' := []) (L' := LW W (uZ (uZ (uZ (uZ (uZ (uZ (uZ (uZ z 22 (z 142)) 23 (z 143)) 24 (z 144)) 25 (z 145)) 26 (z 146)) 27 (z 147)) 28 (z 148)) 29 (z 149)) (uA (uA f 3 (cpW (f 15) (f 3) 120)) 4 (cpW (f 16) (f 4) 144))) 1 (br0_90_20 call (z 149) _ (uZ (uZ (uZ (uZ (uZ (uZ (uZ z 22 (z 142)) 23 (z 143)) 24 (z 144)) 25 (z 145)) 26 (z 146)) 27 (z 147)) 28 (z 148)) (uA (uA f 3 (cpW (f 15) (f 3) 120)) 4 (cpW (f 16) (f 4) 144))) ?_
  subst H
  exact xc_ret (br0_90_21 call _ _)
set_option maxRecDepth 100000 in
theorem bk0_141_1 (call : QC FA) (z : Nat → Int32) (f : Nat → FA) (F : Nat) : xnG call 141 (F + 2) 0 [some (vR 12), some (vR 2)] [] (LW W z f) = xnG call 141 F 2 [some (vR 12), some (vR 2)] [vI (z 122)] (LW W z f) := rfl
set_option maxRecDepth 100000 in
theorem bk0_141_2 (call : QC FA) (x : Int32) (ls : List (Option PV)) (L : QH FA) (F : Nat) : xnG call 141 (F + 1) 2 ls [vI x] L = bif pcmp 2 x 0 then xnG call 141 F 7 ls [] L else xnG call 141 F 3 ls [] L := rfl
set_option maxRecDepth 100000 in
theorem bk0_141_3 (call : QC FA) (z : Nat → Int32) (f : Nat → FA) (F : Nat) : xnG call 141 (F + 3) 3 [some (vR 12), some (vR 2)] [] (LW W z f) = xnG call 141 F 6 [some (vR 12), some (vR 2)] [vI 6, vI (z 122)] (LW W z f) := rfl
set_option maxRecDepth 100000 in
theorem bk0_141_4 (call : QC FA) (x y : Int32) (ls : List (Option PV)) (L : QH FA) (F : Nat) : xnG call 141 (F + 1) 6 ls [vI y, vI x] L = bif pcmp 2 x y then xnG call 141 F 8 ls [] L else xnG call 141 F 7 ls [] L := rfl
set_option maxRecDepth 100000 in
theorem bk0_141_5 (call : QC FA) (z : Nat → Int32) (f : Nat → FA) (F : Nat) : xnG call 141 (F + 4) 8 [some (vR 12), some (vR 2)] [] (LW W z f) = xnG call 141 F 12 [some (vR 12), some (vR 2)] [vI (z 122), vR 13] (LW W z f) := rfl
set_option maxRecDepth 100000 in
theorem bk0_141_6 (call : QC FA) (ls : List (Option PV)) (z : Nat → Int32) (f : Nat → FA) (F : Nat) : xnG call 141 (F + 1) 12 ls [vI 0, vR 13] (LW W z f) = bif ((Nat.beq 1 1 || (Nat.beq 1 2 || Nat.beq 1 3)) && pin 0 6) then xnG call 141 F 13 ls [.inr (.inl (rgW (ix 0)))] (LW W z f) else none := rfl
set_option maxRecDepth 100000 in
theorem bk0_141_7 (call : QC FA) (L : QH FA) (F : Nat) : xnG call 141 (F + 1) 13 [some (vR 12), some (vR 2)] [vR 14] L = xnG call 141 F 14 [some (vR 12), some (vR 2)] [vR 2, vR 14] L := rfl
set_option maxRecDepth 100000 in
theorem bk0_141_8 (call : QC FA) (ls : List (Option PV)) (z : Nat → Int32) (f : Nat → FA) (F : Nat) : xnG call 141 (F + 1) 14 ls [vR 2, vR 14] (LW W z f) = cbd (call 90 [vR 14, vR 2] (LW W z f)) (fun r L' => xnG call 141 F 15 ls (r.toList ++ []) L') := pcY (ih := xnG call 141 F) (call := call) (a := 90) (b := 1) (v := 0) (t := 15) (x := 14) (ls := ls) (As := [vR 2]) (st' := []) (L := LW W z f) rfl rfl rfl
set_option maxRecDepth 100000 in
theorem bk0_141_9 (call : QC FA) (z : Nat → Int32) (f : Nat → FA) (F : Nat) : xnG call 141 (F + 6) 15 [some (vR 12), some (vR 2)] [] (LW W z f) = xnG call 141 F 21 [some (vR 12), some (vR 2)] [vI 6, vI ((z 122) + 1), vR 12] (LW W z f) := rfl
set_option maxRecDepth 100000 in
theorem bk0_141_10 (call : QC FA) (x y : Int32) (ls : List (Option PV)) (L : QH FA) (F : Nat) : xnG call 141 (F + 1) 21 ls [vI y, vI x, vR 12] L = bif pcmp 3 x y then xnG call 141 F 27 ls [vR 12] L else xnG call 141 F 22 ls [vR 12] L := rfl
set_option maxRecDepth 100000 in
theorem bk0_141_11 (call : QC FA) (L : QH FA) (F : Nat) : xnG call 141 (F + 1) 27 [some (vR 12), some (vR 2)] [vR 12] L = xnG call 141 F 28 [some (vR 12), some (vR 2)] [vI 0, vR 12] L := rfl
set_option maxRecDepth 100000 in
theorem bk0_141_12 (call : QC FA) (y : Int32) (ls : List (Option PV)) (z : Nat → Int32) (f : Nat → FA) (F : Nat) : xnG call 141 (F + 1) 28 ls [vI y, vR 12] (LW W z f) = xnG call 141 F 29 ls [] (LW W (uZ z 122 y) f) := rfl
set_option maxRecDepth 100000 in
theorem bk0_141_13 (call : QC FA) (z : Nat → Int32) (f : Nat → FA) (F : Nat) : xnG call 141 (F + 6) 29 [some (vR 12), some (vR 2)] [] (LW W z f) = xnG call 141 F 35 [some (vR 12), some (vR 2)] [vI 6, vI ((z 123) + 1), vR 12] (LW W z f) := rfl
set_option maxRecDepth 100000 in
theorem bk0_141_14 (call : QC FA) (x y : Int32) (ls : List (Option PV)) (L : QH FA) (F : Nat) : xnG call 141 (F + 1) 35 ls [vI y, vI x, vR 12] L = bif pcmp 2 y x then xnG call 141 F 36 ls [vI y, vR 12] L else xnG call 141 F 36 ls [vI x, vR 12] L := pmn (xnG call 141 F) 36 x y ls [vR 12] L rfl
set_option maxRecDepth 100000 in
theorem bk0_141_15 (call : QC FA) (y : Int32) (ls : List (Option PV)) (z : Nat → Int32) (f : Nat → FA) (F : Nat) : xnG call 141 (F + 1) 36 ls [vI y, vR 12] (LW W z f) = xnG call 141 F 37 ls [] (LW W (uZ z 123 y) f) := rfl
set_option maxRecDepth 100000 in
theorem bk0_141_16 (call : QC FA) (ls : List (Option PV)) (L : QH FA) (F : Nat) : xnG call 141 (F + 1) 37 ls [] L = some (none, L) := rfl
set_option maxRecDepth 100000 in
theorem bk0_141_17 (call : QC FA) (z : Nat → Int32) (f : Nat → FA) (F : Nat) : xnG call 141 (F + 5) 22 [some (vR 12), some (vR 2)] [vR 12] (LW W z f) = xnG call 141 F 28 [some (vR 12), some (vR 2)] [vI ((z 122) + 1), vR 12] (LW W z f) := rfl
theorem vck0_141_0 (call : QC FA) (z : Nat → Int32) (f : Nat → FA) (res : Option PV × QH FA) (H : (∃ (z1 : Nat → Int32) (f1 : Nat → FA), call 90 [vR 14, vR 2] (LW W (uZ z 122 0) f) = some (none, LW W z1 f1) ∧ ((6 ≤ I ((z1 122) + 1) → ((6 < I ((z1 123) + 1) → res = (none, LW W (uZ (uZ z1 122 0) 123 6) f1)) ∧ (I ((z1 123) + 1) ≤ 6 → res = (none, LW W (uZ (uZ z1 122 0) 123 ((z1 123) + 1)) f1)))) ∧ (I ((z1 122) + 1) < 6 → ((6 < I ((z1 123) + 1) → res = (none, LW W (uZ (uZ z1 122 ((z1 122) + 1)) 123 6) f1)) ∧ (I ((z1 123) + 1) ≤ 6 → res = (none, LW W (uZ (uZ z1 122 ((z1 122) + 1)) 123 ((z1 123) + 1)) f1))))))) : XC call (mP 141) 0 [some (vR 12), some (vR 2)] [] (LW W (uZ z 122 0) f) res := by
  refine xc_b (i' := 2) (ls' := [some (vR 12), some (vR 2)]) (st' := [vI 0]) (L' := LW W (uZ z 122 0) f) 2 (bk0_141_1 call (uZ z 122 0) f) ?_
  refine xc_f (it := 7) (ie := 3) (ls' := [some (vR 12), some (vR 2)]) (st' := []) (bk0_141_2 call 0 _ _) (by decide) ?_
  refine xc_b (i' := 6) (ls' := [some (vR 12), some (vR 2)]) (st' := [vI 6, vI 0]) (L' := LW W (uZ z 122 0) f) 3 (bk0_141_3 call (uZ z 122 0) f) ?_
  refine xc_t (it := 8) (ie := 7) (ls' := [some (vR 12), some (vR 2)]) (st' := []) (bk0_141_4 call 0 6 _ _) (by decide) ?_
  refine xc_b (i' := 12) (ls' := [some (vR 12), some (vR 2)]) (st' := [vI 0, vR 13]) (L' := LW W (uZ z 122 0) f) 4 (bk0_141_5 call (uZ z 122 0) f) ?_
  refine xc_g (i' := 13) (ls' := [some (vR 12), some (vR 2)]) (st' := [.inr (.inl (rgW (ix 0)))]) (L' := LW W (uZ z 122 0) f) (bk0_141_6 call _ (uZ z 122 0) f) (by decide) ?_
  show XC call (mP 141) 13 [some (vR 12), some (vR 2)] [vR 14] (LW W (uZ z 122 0) f) res
  refine xc_b (i' := 14) (ls' := [some (vR 12), some (vR 2)]) (st' := [vR 2, vR 14]) (L' := LW W (uZ z 122 0) f) 1 (bk0_141_7 call _) ?_
  obtain ⟨z1, f1, hc, H⟩ := H
  refine xc_call (t := 15) (ls' := [some (vR 12), some (vR 2)]) (st' := []) (bk0_141_8 call _ (uZ z 122 0) f) hc ?_
  show XC call (mP 141) 15 [some (vR 12), some (vR 2)] [] (LW W z1 f1) res
  refine xc_b (i' := 21) (ls' := [some (vR 12), some (vR 2)]) (st' := [vI 6, vI ((z1 122) + 1), vR 12]) (L' := LW W z1 f1) 6 (bk0_141_9 call z1 f1) ?_
  refine xc_if (it := 27) (ie := 22) (ls' := [some (vR 12), some (vR 2)]) (st' := [vR 12]) (bk0_141_10 call ((z1 122) + 1) 6 _ _) (fun q1 => ?_) (fun q1 => ?_)
  · have H := H.1 (cI3t q1 rfl rfl)
    refine xc_b (i' := 28) (ls' := [some (vR 12), some (vR 2)]) (st' := [vI 0, vR 12]) (L' := LW W z1 f1) 1 (bk0_141_11 call _) ?_
    refine xc_b (i' := 29) (ls' := [some (vR 12), some (vR 2)]) (st' := []) (L' := LW W (uZ z1 122 0) f1) 1 (bk0_141_12 call 0 _ z1 f1) ?_
    refine xc_b (i' := 35) (ls' := [some (vR 12), some (vR 2)]) (st' := [vI 6, vI ((z1 123) + 1), vR 12]) (L' := LW W (uZ z1 122 0) f1) 6 (bk0_141_13 call (uZ z1 122 0) f1) ?_
    refine xc_if2 (it := 36) (ie := 36) (ls' := [some (vR 12), some (vR 2)]) (st1 := [vI 6, vR 12]) (st2 := [vI ((z1 123) + 1), vR 12]) (bk0_141_14 call ((z1 123) + 1) 6 _ _) (fun q2 => ?_) (fun q2 => ?_)
    · have H := H.1 (cI2t q2 rfl rfl)
      refine xc_b (i' := 37) (ls' := [some (vR 12), some (vR 2)]) (st' := []) (L' := LW W (uZ (uZ z1 122 0) 123 6) f1) 1 (bk0_141_15 call 6 _ (uZ z1 122 0) f1) ?_
      subst H
      exact xc_ret (bk0_141_16 call _ _)
    · have H := H.2 (cI2f q2 rfl rfl)
      refine xc_b (i' := 37) (ls' := [some (vR 12), some (vR 2)]) (st' := []) (L' := LW W (uZ (uZ z1 122 0) 123 ((z1 123) + 1)) f1) 1 (bk0_141_15 call ((z1 123) + 1) _ (uZ z1 122 0) f1) ?_
      subst H
      exact xc_ret (bk0_141_16 call _ _)
  · have H := H.2 (cI3f q1 rfl rfl)
    refine xc_b (i' := 28) (ls' := [some (vR 12), some (vR 2)]) (st' := [vI ((z1 122) + 1), vR 12]) (L' := LW W z1 f1) 5 (bk0_141_17 call z1 f1) ?_
    refine xc_b (i' := 29) (ls' := [some (vR 12), some (vR 2)]) (st' := []) (L' := LW W (uZ z1 122 ((z1 122) + 1)) f1) 1 (bk0_141_12 call ((z1 122) + 1) _ z1 f1) ?_
    refine xc_b (i' := 35) (ls' := [some (vR 12), some (vR 2)]) (st' := [vI 6, vI ((z1 123) + 1), vR 12]) (L' := LW W (uZ z1 122 ((z1 122) + 1)) f1) 6 (bk0_141_13 call (uZ z1 122 ((z1 122) + 1)) f1) ?_
    refine xc_if2 (it := 36) (ie := 36) (ls' := [some (vR 12), some (vR 2)]) (st1 := [vI 6, vR 12]) (st2 := [vI ((z1 123) + 1), vR 12]) (bk0_141_14 call ((z1 123) + 1) 6 _ _) (fun q3 => ?_) (fun q3 => ?_)
    · have H := H.1 (cI2t q3 rfl rfl)
      refine xc_b (i' := 37) (ls' := [some (vR 12), some (vR 2)]) (st' := []) (L' := LW W (uZ (uZ z1 122 ((z1 122) + 1)) 123 6) f1) 1 (bk0_141_15 call 6 _ (uZ z1 122 ((z1 122) + 1)) f1) ?_
      subst H
      exact xc_ret (bk0_141_16 call _ _)
    · have H := H.2 (cI2f q3 rfl rfl)
      refine xc_b (i' := 37) (ls' := [some (vR 12), some (vR 2)]) (st' := []) (L' := LW W (uZ (uZ z1 122 ((z1 122) + 1)) 123 ((z1 123) + 1)) f1) 1 (bk0_141_15 call ((z1 123) + 1) _ (uZ z1 122 ((z1 122) + 1)) f1) ?_
      subst H
      exact xc_ret (bk0_141_16 call _ _)
set_option maxRecDepth 100000 in
theorem bb0_140_1 (call : QC FA) (z : Nat → Int32) (f : Nat → FA) (F : Nat) : xnG call 140 (F + 2) 0 [some (vR 12), some (vR 2)] [] (LW W z f) = xnG call 140 F 2 [some (vR 12), some (vR 2)] [vI (z 123)] (LW W z f) := rfl
set_option maxRecDepth 100000 in
theorem bb0_140_2 (call : QC FA) (x : Int32) (ls : List (Option PV)) (L : QH FA) (F : Nat) : xnG call 140 (F + 1) 2 ls [vI x] L = bif pcmp 0 x 0 then xnG call 140 F 10 ls [] L else xnG call 140 F 3 ls [] L := rfl
set_option maxRecDepth 100000 in
theorem bb0_140_3 (call : QC FA) (L : QH FA) (F : Nat) : xnG call 140 (F + 1) 10 [some (vR 12), some (vR 2)] [] L = xnG call 140 F 11 [some (vR 12), some (vR 2)] [vI 0] L := rfl
set_option maxRecDepth 100000 in
theorem bb0_140_4 (call : QC FA) (ls : List (Option PV)) (L : QH FA) (F : Nat) : xnG call 140 (F + 1) 11 ls [vI 0] L = some (some (vI 0), L) := rfl
set_option maxRecDepth 100000 in
theorem bb0_140_5 (call : QC FA) (z : Nat → Int32) (f : Nat → FA) (F : Nat) : xnG call 140 (F + 2) 3 [some (vR 12), some (vR 2)] [] (LW W z f) = xnG call 140 F 5 [some (vR 12), some (vR 2)] [vI (z 122)] (LW W z f) := rfl
set_option maxRecDepth 100000 in
theorem bb0_140_6 (call : QC FA) (x : Int32) (ls : List (Option PV)) (L : QH FA) (F : Nat) : xnG call 140 (F + 1) 5 ls [vI x] L = bif pcmp 2 x 0 then xnG call 140 F 10 ls [] L else xnG call 140 F 6 ls [] L := rfl
set_option maxRecDepth 100000 in
theorem bb0_140_7 (call : QC FA) (z : Nat → Int32) (f : Nat → FA) (F : Nat) : xnG call 140 (F + 3) 6 [some (vR 12), some (vR 2)] [] (LW W z f) = xnG call 140 F 9 [some (vR 12), some (vR 2)] [vI 6, vI (z 122)] (LW W z f) := rfl
set_option maxRecDepth 100000 in
theorem bb0_140_8 (call : QC FA) (x y : Int32) (ls : List (Option PV)) (L : QH FA) (F : Nat) : xnG call 140 (F + 1) 9 ls [vI y, vI x] L = bif pcmp 2 x y then xnG call 140 F 12 ls [] L else xnG call 140 F 10 ls [] L := rfl
set_option maxRecDepth 100000 in
theorem bb0_140_9 (call : QC FA) (z : Nat → Int32) (f : Nat → FA) (F : Nat) : xnG call 140 (F + 3) 12 [some (vR 12), some (vR 2)] [] (LW W z f) = xnG call 140 F 15 [some (vR 12), some (vR 2)] [vI (z 122), vR 12] (LW W z f) := rfl
set_option maxRecDepth 100000 in
theorem bb0_140_10 (call : QC FA) (x : Int32) (ls : List (Option PV)) (L : QH FA) (F : Nat) : xnG call 140 (F + 1) 15 ls [vI x, vR 12] L = bif pcmp 5 x 0 then xnG call 140 F 21 ls [vR 12] L else xnG call 140 F 16 ls [vR 12] L := rfl
set_option maxRecDepth 100000 in
theorem bb0_140_11 (call : QC FA) (L : QH FA) (F : Nat) : xnG call 140 (F + 1) 21 [some (vR 12), some (vR 2)] [vR 12] L = xnG call 140 F 22 [some (vR 12), some (vR 2)] [vI 5, vR 12] L := rfl
set_option maxRecDepth 100000 in
theorem bb0_140_12 (call : QC FA) (y : Int32) (ls : List (Option PV)) (z : Nat → Int32) (f : Nat → FA) (F : Nat) : xnG call 140 (F + 1) 22 ls [vI y, vR 12] (LW W z f) = xnG call 140 F 23 ls [] (LW W (uZ z 122 y) f) := rfl
set_option maxRecDepth 100000 in
theorem bb0_140_13 (call : QC FA) (z : Nat → Int32) (f : Nat → FA) (F : Nat) : xnG call 140 (F + 5) 23 [some (vR 12), some (vR 2)] [] (LW W z f) = xnG call 140 F 28 [some (vR 12), some (vR 2)] [vI ((z 123) - 1), vR 12] (LW W z f) := rfl
set_option maxRecDepth 100000 in
theorem bb0_140_14 (call : QC FA) (y : Int32) (ls : List (Option PV)) (z : Nat → Int32) (f : Nat → FA) (F : Nat) : xnG call 140 (F + 1) 28 ls [vI y, vR 12] (LW W z f) = xnG call 140 F 29 ls [] (LW W (uZ z 123 y) f) := rfl
set_option maxRecDepth 100000 in
theorem bb0_140_15 (call : QC FA) (z : Nat → Int32) (f : Nat → FA) (F : Nat) : xnG call 140 (F + 5) 29 [some (vR 12), some (vR 2)] [] (LW W z f) = xnG call 140 F 34 [some (vR 12), some (vR 2)] [vI (z 122), vR 13, vR 2] (LW W z f) := rfl
set_option maxRecDepth 100000 in
theorem bb0_140_16 (call : QC FA) (ls : List (Option PV)) (z : Nat → Int32) (f : Nat → FA) (F : Nat) : xnG call 140 (F + 1) 34 ls [vI 5, vR 13, vR 2] (LW W z f) = bif ((Nat.beq 1 1 || (Nat.beq 1 2 || Nat.beq 1 3)) && pin 5 6) then xnG call 140 F 35 ls [.inr (.inl (rgW (ix 5))), vR 2] (LW W z f) else none := rfl
set_option maxRecDepth 100000 in
theorem bb0_140_17 (call : QC FA) (ls : List (Option PV)) (z : Nat → Int32) (f : Nat → FA) (F : Nat) : xnG call 140 (F + 1) 35 ls [vR 29, vR 2] (LW W z f) = cbd (call 90 [vR 2, vR 29] (LW W z f)) (fun r L' => xnG call 140 F 36 ls (r.toList ++ []) L') := pcY (ih := xnG call 140 F) (call := call) (a := 90) (b := 1) (v := 0) (t := 36) (x := 2) (ls := ls) (As := [vR 29]) (st' := []) (L := LW W z f) rfl rfl rfl
set_option maxRecDepth 100000 in
theorem bb0_140_18 (call : QC FA) (L : QH FA) (F : Nat) : xnG call 140 (F + 1) 36 [some (vR 12), some (vR 2)] [] L = xnG call 140 F 37 [some (vR 12), some (vR 2)] [vI 1] L := rfl
set_option maxRecDepth 100000 in
theorem bb0_140_19 (call : QC FA) (ls : List (Option PV)) (L : QH FA) (F : Nat) : xnG call 140 (F + 1) 37 ls [vI 1] L = some (some (vI 1), L) := rfl
theorem vcb0_140_0 (call : QC FA) (z : Nat → Int32) (f : Nat → FA) (res : Option PV × QH FA) (H : ((z 123 = 0 → res = (some (vI 0), LW W (uZ z 122 0) f)) ∧ (¬ z 123 = 0 → (∃ (z1 : Nat → Int32) (f1 : Nat → FA), call 90 [vR 2, vR 29] (LW W (uZ (uZ (uZ z 122 0) 122 5) 123 ((z 123) - 1)) f) = some (none, LW W z1 f1) ∧ res = (some (vI 1), LW W z1 f1))))) : XC call (mP 140) 0 [some (vR 12), some (vR 2)] [] (LW W (uZ z 122 0) f) res := by
  refine xc_b (i' := 2) (ls' := [some (vR 12), some (vR 2)]) (st' := [vI (z 123)]) (L' := LW W (uZ z 122 0) f) 2 (bb0_140_1 call (uZ z 122 0) f) ?_
  refine xc_if (it := 10) (ie := 3) (ls' := [some (vR 12), some (vR 2)]) (st' := []) (bb0_140_2 call (z 123) _ _) (fun q1 => ?_) (fun q1 => ?_)
  · have H := H.1 (cI0t q1)
    refine xc_b (i' := 11) (ls' := [some (vR 12), some (vR 2)]) (st' := [vI 0]) (L' := LW W (uZ z 122 0) f) 1 (bb0_140_3 call _) ?_
    subst H
    exact xc_ret (bb0_140_4 call _ _)
  · have H := H.2 (cI0f q1)
    refine xc_b (i' := 5) (ls' := [some (vR 12), some (vR 2)]) (st' := [vI 0]) (L' := LW W (uZ z 122 0) f) 2 (bb0_140_5 call (uZ z 122 0) f) ?_
    refine xc_f (it := 10) (ie := 6) (ls' := [some (vR 12), some (vR 2)]) (st' := []) (bb0_140_6 call 0 _ _) (by decide) ?_
    refine xc_b (i' := 9) (ls' := [some (vR 12), some (vR 2)]) (st' := [vI 6, vI 0]) (L' := LW W (uZ z 122 0) f) 3 (bb0_140_7 call (uZ z 122 0) f) ?_
    refine xc_t (it := 12) (ie := 10) (ls' := [some (vR 12), some (vR 2)]) (st' := []) (bb0_140_8 call 0 6 _ _) (by decide) ?_
    refine xc_b (i' := 15) (ls' := [some (vR 12), some (vR 2)]) (st' := [vI 0, vR 12]) (L' := LW W (uZ z 122 0) f) 3 (bb0_140_9 call (uZ z 122 0) f) ?_
    refine xc_t (it := 21) (ie := 16) (ls' := [some (vR 12), some (vR 2)]) (st' := [vR 12]) (bb0_140_10 call 0 _ _) (by decide) ?_
    refine xc_b (i' := 22) (ls' := [some (vR 12), some (vR 2)]) (st' := [vI 5, vR 12]) (L' := LW W (uZ z 122 0) f) 1 (bb0_140_11 call _) ?_
    refine xc_b (i' := 23) (ls' := [some (vR 12), some (vR 2)]) (st' := []) (L' := LW W (uZ (uZ z 122 0) 122 5) f) 1 (bb0_140_12 call 5 _ (uZ z 122 0) f) ?_
    refine xc_b (i' := 28) (ls' := [some (vR 12), some (vR 2)]) (st' := [vI ((z 123) - 1), vR 12]) (L' := LW W (uZ (uZ z 122 0) 122 5) f) 5 (bb0_140_13 call (uZ (uZ z 122 0) 122 5) f) ?_
    refine xc_b (i' := 29) (ls' := [some (vR 12), some (vR 2)]) (st' := []) (L' := LW W (uZ (uZ (uZ z 122 0) 122 5) 123 ((z 123) - 1)) f) 1 (bb0_140_14 call ((z 123) - 1) _ (uZ (uZ z 122 0) 122 5) f) ?_
    refine xc_b (i' := 34) (ls' := [some (vR 12), some (vR 2)]) (st' := [vI 5, vR 13, vR 2]) (L' := LW W (uZ (uZ (uZ z 122 0) 122 5) 123 ((z 123) - 1)) f) 5 (bb0_140_15 call (uZ (uZ (uZ z 122 0) 122 5) 123 ((z 123) - 1)) f) ?_
    refine xc_g (i' := 35) (ls' := [some (vR 12), some (vR 2)]) (st' := [.inr (.inl (rgW (ix 5))), vR 2]) (L' := LW W (uZ (uZ (uZ z 122 0) 122 5) 123 ((z 123) - 1)) f) (bb0_140_16 call _ (uZ (uZ (uZ z 122 0) 122 5) 123 ((z 123) - 1)) f) (by decide) ?_
    show XC call (mP 140) 35 [some (vR 12), some (vR 2)] [vR 29, vR 2] (LW W (uZ (uZ (uZ z 122 0) 122 5) 123 ((z 123) - 1)) f) res
    obtain ⟨z1, f1, hc, H⟩ := H
    refine xc_call (t := 36) (ls' := [some (vR 12), some (vR 2)]) (st' := []) (bb0_140_17 call _ (uZ (uZ (uZ z 122 0) 122 5) 123 ((z 123) - 1)) f) hc ?_
    show XC call (mP 140) 36 [some (vR 12), some (vR 2)] [] (LW W z1 f1) res
    refine xc_b (i' := 37) (ls' := [some (vR 12), some (vR 2)]) (st' := [vI 1]) (L' := LW W z1 f1) 1 (bb0_140_18 call _) ?_
    subst H
    exact xc_ret (bb0_140_19 call _ _)
set_option maxRecDepth 100000 in
theorem bt1_90_1 (call : QC FA) (z : Nat → Int32) (f : Nat → FA) (F : Nat) : xnG call 90 (F + 7) 0 [some (vR 17), some (vR 2)] [] (LW W z f) = xnG call 90 F 7 [some (vR 17), some (vR 2)] [vI 120, vI 0, vR 18, vI 0, vR 3] (LW W z f) := rfl
set_option maxRecDepth 100000 in
theorem bt1_90_2 (call : QC FA) (ls : List (Option PV)) (z : Nat → Int32) (f : Nat → FA) (F : Nat) : xnG call 90 (F + 1) 7 ls [vI 120, vI 0, vR 18, vI 0, vR 3] (LW W z f) = bif (Nat.beq 0 0 && (Nat.beq 0 0 && (pcmp 3 0 0 && (pcmp 3 0 0 && (pcmp 3 120 0 && (Nat.ble (ix 0 + ix 120) 120 && (Nat.ble (ix 0 + ix 120) 120 && Nat.ble 0 8))))))) then xnG call 90 F 8 ls [] (LW W z (uA f 18 (va_cpy (f 3) (f 18) (ix 0) (ix 0) (ix 120)))) else none := rfl
set_option maxRecDepth 100000 in
theorem bt1_90_3 (call : QC FA) (z : Nat → Int32) (f : Nat → FA) (F : Nat) : xnG call 90 (F + 7) 8 [some (vR 17), some (vR 2)] [] (LW W z f) = xnG call 90 F 15 [some (vR 17), some (vR 2)] [vI 144, vI 0, vR 19, vI 0, vR 4] (LW W z f) := rfl
set_option maxRecDepth 100000 in
theorem bt1_90_4 (call : QC FA) (ls : List (Option PV)) (z : Nat → Int32) (f : Nat → FA) (F : Nat) : xnG call 90 (F + 1) 15 ls [vI 144, vI 0, vR 19, vI 0, vR 4] (LW W z f) = bif (Nat.beq 0 0 && (Nat.beq 0 0 && (pcmp 3 0 0 && (pcmp 3 0 0 && (pcmp 3 144 0 && (Nat.ble (ix 0 + ix 144) 144 && (Nat.ble (ix 0 + ix 144) 144 && Nat.ble 0 8))))))) then xnG call 90 F 16 ls [] (LW W z (uA f 19 (va_cpy (f 4) (f 19) (ix 0) (ix 0) (ix 144)))) else none := rfl
set_option maxRecDepth 100000 in
theorem bt1_90_5 (call : QC FA) (z : Nat → Int32) (f : Nat → FA) (F : Nat) : xnG call 90 (F + 3) 16 [some (vR 17), some (vR 2)] [] (LW W z f) = xnG call 90 F 19 [some (vR 17), some (vR 2)] [vI (z 22), vR 17] (LW W z f) := rfl
set_option maxRecDepth 100000 in
theorem bt1_90_6 (call : QC FA) (y : Int32) (ls : List (Option PV)) (z : Nat → Int32) (f : Nat → FA) (F : Nat) : xnG call 90 (F + 1) 19 ls [vI y, vR 17] (LW W z f) = xnG call 90 F 20 ls [] (LW W (uZ z 172 y) f) := rfl
set_option maxRecDepth 100000 in
theorem bt1_90_7 (call : QC FA) (z : Nat → Int32) (f : Nat → FA) (F : Nat) : xnG call 90 (F + 3) 20 [some (vR 17), some (vR 2)] [] (LW W z f) = xnG call 90 F 23 [some (vR 17), some (vR 2)] [vI (z 23), vR 17] (LW W z f) := rfl
set_option maxRecDepth 100000 in
theorem bt1_90_8 (call : QC FA) (y : Int32) (ls : List (Option PV)) (z : Nat → Int32) (f : Nat → FA) (F : Nat) : xnG call 90 (F + 1) 23 ls [vI y, vR 17] (LW W z f) = xnG call 90 F 24 ls [] (LW W (uZ z 173 y) f) := rfl
set_option maxRecDepth 100000 in
theorem bt1_90_9 (call : QC FA) (z : Nat → Int32) (f : Nat → FA) (F : Nat) : xnG call 90 (F + 3) 24 [some (vR 17), some (vR 2)] [] (LW W z f) = xnG call 90 F 27 [some (vR 17), some (vR 2)] [vI (z 24), vR 17] (LW W z f) := rfl
set_option maxRecDepth 100000 in
theorem bt1_90_10 (call : QC FA) (y : Int32) (ls : List (Option PV)) (z : Nat → Int32) (f : Nat → FA) (F : Nat) : xnG call 90 (F + 1) 27 ls [vI y, vR 17] (LW W z f) = xnG call 90 F 28 ls [] (LW W (uZ z 174 y) f) := rfl
set_option maxRecDepth 100000 in
theorem bt1_90_11 (call : QC FA) (z : Nat → Int32) (f : Nat → FA) (F : Nat) : xnG call 90 (F + 3) 28 [some (vR 17), some (vR 2)] [] (LW W z f) = xnG call 90 F 31 [some (vR 17), some (vR 2)] [vI (z 25), vR 17] (LW W z f) := rfl
set_option maxRecDepth 100000 in
theorem bt1_90_12 (call : QC FA) (y : Int32) (ls : List (Option PV)) (z : Nat → Int32) (f : Nat → FA) (F : Nat) : xnG call 90 (F + 1) 31 ls [vI y, vR 17] (LW W z f) = xnG call 90 F 32 ls [] (LW W (uZ z 175 y) f) := rfl
set_option maxRecDepth 100000 in
theorem bt1_90_13 (call : QC FA) (z : Nat → Int32) (f : Nat → FA) (F : Nat) : xnG call 90 (F + 3) 32 [some (vR 17), some (vR 2)] [] (LW W z f) = xnG call 90 F 35 [some (vR 17), some (vR 2)] [vI (z 26), vR 17] (LW W z f) := rfl
set_option maxRecDepth 100000 in
theorem bt1_90_14 (call : QC FA) (y : Int32) (ls : List (Option PV)) (z : Nat → Int32) (f : Nat → FA) (F : Nat) : xnG call 90 (F + 1) 35 ls [vI y, vR 17] (LW W z f) = xnG call 90 F 36 ls [] (LW W (uZ z 176 y) f) := rfl
set_option maxRecDepth 100000 in
theorem bt1_90_15 (call : QC FA) (z : Nat → Int32) (f : Nat → FA) (F : Nat) : xnG call 90 (F + 3) 36 [some (vR 17), some (vR 2)] [] (LW W z f) = xnG call 90 F 39 [some (vR 17), some (vR 2)] [vI (z 27), vR 17] (LW W z f) := rfl
set_option maxRecDepth 100000 in
theorem bt1_90_16 (call : QC FA) (y : Int32) (ls : List (Option PV)) (z : Nat → Int32) (f : Nat → FA) (F : Nat) : xnG call 90 (F + 1) 39 ls [vI y, vR 17] (LW W z f) = xnG call 90 F 40 ls [] (LW W (uZ z 177 y) f) := rfl
set_option maxRecDepth 100000 in
theorem bt1_90_17 (call : QC FA) (z : Nat → Int32) (f : Nat → FA) (F : Nat) : xnG call 90 (F + 3) 40 [some (vR 17), some (vR 2)] [] (LW W z f) = xnG call 90 F 43 [some (vR 17), some (vR 2)] [vI (z 28), vR 17] (LW W z f) := rfl
set_option maxRecDepth 100000 in
theorem bt1_90_18 (call : QC FA) (y : Int32) (ls : List (Option PV)) (z : Nat → Int32) (f : Nat → FA) (F : Nat) : xnG call 90 (F + 1) 43 ls [vI y, vR 17] (LW W z f) = xnG call 90 F 44 ls [] (LW W (uZ z 178 y) f) := rfl
set_option maxRecDepth 100000 in
theorem bt1_90_19 (call : QC FA) (z : Nat → Int32) (f : Nat → FA) (F : Nat) : xnG call 90 (F + 3) 44 [some (vR 17), some (vR 2)] [] (LW W z f) = xnG call 90 F 47 [some (vR 17), some (vR 2)] [vI (z 29), vR 17] (LW W z f) := rfl
set_option maxRecDepth 100000 in
theorem bt1_90_20 (call : QC FA) (y : Int32) (ls : List (Option PV)) (z : Nat → Int32) (f : Nat → FA) (F : Nat) : xnG call 90 (F + 1) 47 ls [vI y, vR 17] (LW W z f) = xnG call 90 F 48 ls [] (LW W (uZ z 179 y) f) := rfl
set_option maxRecDepth 100000 in
theorem bt1_90_21 (call : QC FA) (ls : List (Option PV)) (L : QH FA) (F : Nat) : xnG call 90 (F + 1) 48 ls [] L = some (none, L) := rfl
theorem vct1_90_0 (call : QC FA) (z : Nat → Int32) (f : Nat → FA) (res : Option PV × QH FA) (H : res = (none, LW W (uZ (uZ (uZ (uZ (uZ (uZ (uZ (uZ z 172 (z 22)) 173 (z 23)) 174 (z 24)) 175 (z 25)) 176 (z 26)) 177 (z 27)) 178 (z 28)) 179 (z 29)) (uA (uA f 18 (cpW (f 3) (f 18) 120)) 19 (cpW (f 4) (f 19) 144)))) : XC call (mP 90) 0 [some (vR 17), some (vR 2)] [] (LW W z f) res := by
  refine xc_b (i' := 7) (ls' := [some (vR 17), some (vR 2)]) (st' := [vI 120, vI 0, vR 18, vI 0, vR 3]) (L' := LW W z f) 7 (bt1_90_1 call z f) ?_
  refine xc_g (i' := 8) (ls' := [some (vR 17), some (vR 2)]) (st' := []) (L' := LW W z (uA f 18 (va_cpy (f 3) (f 18) (ix 0) (ix 0) (ix 120)))) (bt1_90_2 call _ z f) (by decide) ?_
  rw [cpW_e (f := f 3) (g := f 18) (a := 0) (b := 0) (n := 120) (N := 120) (by decide) (by decide) (by decide)]
  show XC call (mP 90) 8 [some (vR 17), some (vR 2)] [] (LW W z (uA f 18 (cpW (f 3) (f 18) 120))) res
  refine xc_b (i' := 15) (ls' := [some (vR 17), some (vR 2)]) (st' := [vI 144, vI 0, vR 19, vI 0, vR 4]) (L' := LW W z (uA f 18 (cpW (f 3) (f 18) 120))) 7 (bt1_90_3 call z (uA f 18 (cpW (f 3) (f 18) 120))) ?_
  refine xc_g (i' := 16) (ls' := [some (vR 17), some (vR 2)]) (st' := []) (L' := LW W z (uA (uA f 18 (cpW (f 3) (f 18) 120)) 19 (va_cpy ((uA f 18 (cpW (f 3) (f 18) 120)) 4) ((uA f 18 (cpW (f 3) (f 18) 120)) 19) (ix 0) (ix 0) (ix 144)))) (bt1_90_4 call _ z (uA f 18 (cpW (f 3) (f 18) 120))) (by decide) ?_
  rw [cpW_e (f := (uA f 18 (cpW (f 3) (f 18) 120)) 4) (g := (uA f 18 (cpW (f 3) (f 18) 120)) 19) (a := 0) (b := 0) (n := 144) (N := 144) (by decide) (by decide) (by decide)]
  show XC call (mP 90) 16 [some (vR 17), some (vR 2)] [] (LW W z (uA (uA f 18 (cpW (f 3) (f 18) 120)) 19 (cpW (f 4) (f 19) 144))) res
  refine xc_b (i' := 19) (ls' := [some (vR 17), some (vR 2)]) (st' := [vI (z 22), vR 17]) (L' := LW W z (uA (uA f 18 (cpW (f 3) (f 18) 120)) 19 (cpW (f 4) (f 19) 144))) 3 (bt1_90_5 call z (uA (uA f 18 (cpW (f 3) (f 18) 120)) 19 (cpW (f 4) (f 19) 144))) ?_
  refine xc_b (i' := 20) (ls' := [some (vR 17), some (vR 2)]) (st' := []) (L' := LW W (uZ z 172 (z 22)) (uA (uA f 18 (cpW (f 3) (f 18) 120)) 19 (cpW (f 4) (f 19) 144))) 1 (bt1_90_6 call (z 22) _ z (uA (uA f 18 (cpW (f 3) (f 18) 120)) 19 (cpW (f 4) (f 19) 144))) ?_
  refine xc_b (i' := 23) (ls' := [some (vR 17), some (vR 2)]) (st' := [vI (z 23), vR 17]) (L' := LW W (uZ z 172 (z 22)) (uA (uA f 18 (cpW (f 3) (f 18) 120)) 19 (cpW (f 4) (f 19) 144))) 3 (bt1_90_7 call (uZ z 172 (z 22)) (uA (uA f 18 (cpW (f 3) (f 18) 120)) 19 (cpW (f 4) (f 19) 144))) ?_
  refine xc_b (i' := 24) (ls' := [some (vR 17), some (vR 2)]) (st' := []) (L' := LW W (uZ (uZ z 172 (z 22)) 173 (z 23)) (uA (uA f 18 (cpW (f 3) (f 18) 120)) 19 (cpW (f 4) (f 19) 144))) 1 (bt1_90_8 call (z 23) _ (uZ z 172 (z 22)) (uA (uA f 18 (cpW (f 3) (f 18) 120)) 19 (cpW (f 4) (f 19) 144))) ?_
  refine xc_b (i' := 27) (ls' := [some (vR 17), some (vR 2)]) (st' := [vI (z 24), vR 17]) (L' := LW W (uZ (uZ z 172 (z 22)) 173 (z 23)) (uA (uA f 18 (cpW (f 3) (f 18) 120)) 19 (cpW (f 4) (f 19) 144))) 3 (bt1_90_9 call (uZ (uZ z 172 (z 22)) 173 (z 23)) (uA (uA f 18 (cpW (f 3) (f 18) 120)) 19 (cpW (f 4) (f 19) 144))) ?_
  refine xc_b (i' := 28) (ls' := [some (vR 17), some (vR 2)]) (st' := []) (L' := LW W (uZ (uZ (uZ z 172 (z 22)) 173 (z 23)) 174 (z 24)) (uA (uA f 18 (cpW (f 3) (f 18) 120)) 19 (cpW (f 4) (f 19) 144))) 1 (bt1_90_10 call (z 24) _ (uZ (uZ z 172 (z 22)) 173 (z 23)) (uA (uA f 18 (cpW (f 3) (f 18) 120)) 19 (cpW (f 4) (f 19) 144))) ?_
  refine xc_b (i' := 31) (ls' := [some (vR 17), some (vR 2)]) (st' := [vI (z 25), vR 17]) (L' := LW W (uZ (uZ (uZ z 172 (z 22)) 173 (z 23)) 174 (z 24)) (uA (uA f 18 (cpW (f 3) (f 18) 120)) 19 (cpW (f 4) (f 19) 144))) 3 (bt1_90_11 call (uZ (uZ (uZ z 172 (z 22)) 173 (z 23)) 174 (z 24)) (uA (uA f 18 (cpW (f 3) (f 18) 120)) 19 (cpW (f 4) (f 19) 144))) ?_
  refine xc_b (i' := 32) (ls' := [some (vR 17), some (vR 2)]) (st' := []) (L' := LW W (uZ (uZ (uZ (uZ z 172 (z 22)) 173 (z 23)) 174 (z 24)) 175 (z 25)) (uA (uA f 18 (cpW (f 3) (f 18) 120)) 19 (cpW (f 4) (f 19) 144))) 1 (bt1_90_12 call (z 25) _ (uZ (uZ (uZ z 172 (z 22)) 173 (z 23)) 174 (z 24)) (uA (uA f 18 (cpW (f 3) (f 18) 120)) 19 (cpW (f 4) (f 19) 144))) ?_
  refine xc_b (i' := 35) (ls' := [some (vR 17), some (vR 2)]) (st' := [vI (z 26), vR 17]) (L' := LW W (uZ (uZ (uZ (uZ z 172 (z 22)) 173 (z 23)) 174 (z 24)) 175 (z 25)) (uA (uA f 18 (cpW (f 3) (f 18) 120)) 19 (cpW (f 4) (f 19) 144))) 3 (bt1_90_13 call (uZ (uZ (uZ (uZ z 172 (z 22)) 173 (z 23)) 174 (z 24)) 175 (z 25)) (uA (uA f 18 (cpW (f 3) (f 18) 120)) 19 (cpW (f 4) (f 19) 144))) ?_
  refine xc_b (i' := 36) (ls' := [some (vR 17), some (vR 2)]) (st' := []) (L' := LW W (uZ (uZ (uZ (uZ (uZ z 172 (z 22)) 173 (z 23)) 174 (z 24)) 175 (z 25)) 176 (z 26)) (uA (uA f 18 (cpW (f 3) (f 18) 120)) 19 (cpW (f 4) (f 19) 144))) 1 (bt1_90_14 call (z 26) _ (uZ (uZ (uZ (uZ z 172 (z 22)) 173 (z 23)) 174 (z 24)) 175 (z 25)) (uA (uA f 18 (cpW (f 3) (f 18) 120)) 19 (cpW (f 4) (f 19) 144))) ?_
  refine xc_b (i' := 39) (ls' := [some (vR 17), some (vR 2)]) (st' := [vI (z 27), vR 17]) (L' := LW W (uZ (uZ (uZ (uZ (uZ z 172 (z 22)) 173 (z 23)) 174 (z 24)) 175 (z 25)) 176 (z 26)) (uA (uA f 18 (cpW (f 3) (f 18) 120)) 19 (cpW (f 4) (f 19) 144))) 3 (bt1_90_15 call (uZ (uZ (uZ (uZ (uZ z 172 (z 22)) 173 (z 23)) 174 (z 24)) 175 (z 25)) 176 (z 26)) (uA (uA f 18 (cpW (f 3) (f 18) 120)) 19 (cpW (f 4) (f 19) 144))) ?_
  refine xc_b (i' := 40) (ls' := [some (vR 17), some (vR 2)]) (st' := []) (L' := LW W (uZ (uZ (uZ (uZ (uZ (uZ z 172 (z 22)) 173 (z 23)) 174 (z 24)) 175 (z 25)) 176 (z 26)) 177 (z 27)) (uA (uA f 18 (cpW (f 3) (f 18) 120)) 19 (cpW (f 4) (f 19) 144))) 1 (bt1_90_16 call (z 27) _ (uZ (uZ (uZ (uZ (uZ z 172 (z 22)) 173 (z 23)) 174 (z 24)) 175 (z 25)) 176 (z 26)) (uA (uA f 18 (cpW (f 3) (f 18) 120)) 19 (cpW (f 4) (f 19) 144))) ?_
  refine xc_b (i' := 43) (ls' := [some (vR 17), some (vR 2)]) (st' := [vI (z 28), vR 17]) (L' := LW W (uZ (uZ (uZ (uZ (uZ (uZ z 172 (z 22)) 173 (z 23)) 174 (z 24)) 175 (z 25)) 176 (z 26)) 177 (z 27)) (uA (uA f 18 (cpW (f 3) (f 18) 120)) 19 (cpW (f 4) (f 19) 144))) 3 (bt1_90_17 call (uZ (uZ (uZ (uZ (uZ (uZ z 172 (z 22)) 173 (z 23)) 174 (z 24)) 175 (z 25)) 176 (z 26)) 177 (z 27)) (uA (uA f 18 (cpW (f 3) (f 18) 120)) 19 (cpW (f 4) (f 19) 144))) ?_
  refine xc_b (i' := 44) (ls' := [some (vR 17), some (vR 2)]) (st' := []) (L' := LW W (uZ (uZ (uZ (uZ (uZ (uZ (uZ z 172 (z 22)) 173 (z 23)) 174 (z 24)) 175 (z 25)) 176 (z 26)) 177 (z 27)) 178 (z 28)) (uA (uA f 18 (cpW (f 3) (f 18) 120)) 19 (cpW (f 4) (f 19) 144))) 1 (bt1_90_18 call (z 28) _ (uZ (uZ (uZ (uZ (uZ (uZ z 172 (z 22)) 173 (z 23)) 174 (z 24)) 175 (z 25)) 176 (z 26)) 177 (z 27)) (uA (uA f 18 (cpW (f 3) (f 18) 120)) 19 (cpW (f 4) (f 19) 144))) ?_
  refine xc_b (i' := 47) (ls' := [some (vR 17), some (vR 2)]) (st' := [vI (z 29), vR 17]) (L' := LW W (uZ (uZ (uZ (uZ (uZ (uZ (uZ z 172 (z 22)) 173 (z 23)) 174 (z 24)) 175 (z 25)) 176 (z 26)) 177 (z 27)) 178 (z 28)) (uA (uA f 18 (cpW (f 3) (f 18) 120)) 19 (cpW (f 4) (f 19) 144))) 3 (bt1_90_19 call (uZ (uZ (uZ (uZ (uZ (uZ (uZ z 172 (z 22)) 173 (z 23)) 174 (z 24)) 175 (z 25)) 176 (z 26)) 177 (z 27)) 178 (z 28)) (uA (uA f 18 (cpW (f 3) (f 18) 120)) 19 (cpW (f 4) (f 19) 144))) ?_
  refine xc_b (i' := 48) (ls' := [some (vR 17), some (vR 2)]) (st' := []) (L' := LW W (uZ (uZ (uZ (uZ (uZ (uZ (uZ (uZ z 172 (z 22)) 173 (z 23)) 174 (z 24)) 175 (z 25)) 176 (z 26)) 177 (z 27)) 178 (z 28)) 179 (z 29)) (uA (uA f 18 (cpW (f 3) (f 18) 120)) 19 (cpW (f 4) (f 19) 144))) 1 (bt1_90_20 call (z 29) _ (uZ (uZ (uZ (uZ (uZ (uZ (uZ z 172 (z 22)) 173 (z 23)) 174 (z 24)) 175 (z 25)) 176 (z 26)) 177 (z 27)) 178 (z 28)) (uA (uA f 18 (cpW (f 3) (f 18) 120)) 19 (cpW (f 4) (f 19) 144))) ?_
  subst H
  exact xc_ret (bt1_90_21 call _ _)
set_option maxRecDepth 100000 in
theorem br1_90_1 (call : QC FA) (z : Nat → Int32) (f : Nat → FA) (F : Nat) : xnG call 90 (F + 7) 0 [some (vR 2), some (vR 17)] [] (LW W z f) = xnG call 90 F 7 [some (vR 2), some (vR 17)] [vI 120, vI 0, vR 3, vI 0, vR 18] (LW W z f) := rfl
set_option maxRecDepth 100000 in
theorem br1_90_2 (call : QC FA) (ls : List (Option PV)) (z : Nat → Int32) (f : Nat → FA) (F : Nat) : xnG call 90 (F + 1) 7 ls [vI 120, vI 0, vR 3, vI 0, vR 18] (LW W z f) = bif (Nat.beq 0 0 && (Nat.beq 0 0 && (pcmp 3 0 0 && (pcmp 3 0 0 && (pcmp 3 120 0 && (Nat.ble (ix 0 + ix 120) 120 && (Nat.ble (ix 0 + ix 120) 120 && Nat.ble 0 8))))))) then xnG call 90 F 8 ls [] (LW W z (uA f 3 (va_cpy (f 18) (f 3) (ix 0) (ix 0) (ix 120)))) else none := rfl
set_option maxRecDepth 100000 in
theorem br1_90_3 (call : QC FA) (z : Nat → Int32) (f : Nat → FA) (F : Nat) : xnG call 90 (F + 7) 8 [some (vR 2), some (vR 17)] [] (LW W z f) = xnG call 90 F 15 [some (vR 2), some (vR 17)] [vI 144, vI 0, vR 4, vI 0, vR 19] (LW W z f) := rfl
set_option maxRecDepth 100000 in
theorem br1_90_4 (call : QC FA) (ls : List (Option PV)) (z : Nat → Int32) (f : Nat → FA) (F : Nat) : xnG call 90 (F + 1) 15 ls [vI 144, vI 0, vR 4, vI 0, vR 19] (LW W z f) = bif (Nat.beq 0 0 && (Nat.beq 0 0 && (pcmp 3 0 0 && (pcmp 3 0 0 && (pcmp 3 144 0 && (Nat.ble (ix 0 + ix 144) 144 && (Nat.ble (ix 0 + ix 144) 144 && Nat.ble 0 8))))))) then xnG call 90 F 16 ls [] (LW W z (uA f 4 (va_cpy (f 19) (f 4) (ix 0) (ix 0) (ix 144)))) else none := rfl
set_option maxRecDepth 100000 in
theorem br1_90_5 (call : QC FA) (z : Nat → Int32) (f : Nat → FA) (F : Nat) : xnG call 90 (F + 3) 16 [some (vR 2), some (vR 17)] [] (LW W z f) = xnG call 90 F 19 [some (vR 2), some (vR 17)] [vI (z 172), vR 2] (LW W z f) := rfl
set_option maxRecDepth 100000 in
theorem br1_90_6 (call : QC FA) (y : Int32) (ls : List (Option PV)) (z : Nat → Int32) (f : Nat → FA) (F : Nat) : xnG call 90 (F + 1) 19 ls [vI y, vR 2] (LW W z f) = xnG call 90 F 20 ls [] (LW W (uZ z 22 y) f) := rfl
set_option maxRecDepth 100000 in
theorem br1_90_7 (call : QC FA) (z : Nat → Int32) (f : Nat → FA) (F : Nat) : xnG call 90 (F + 3) 20 [some (vR 2), some (vR 17)] [] (LW W z f) = xnG call 90 F 23 [some (vR 2), some (vR 17)] [vI (z 173), vR 2] (LW W z f) := rfl
set_option maxRecDepth 100000 in
theorem br1_90_8 (call : QC FA) (y : Int32) (ls : List (Option PV)) (z : Nat → Int32) (f : Nat → FA) (F : Nat) : xnG call 90 (F + 1) 23 ls [vI y, vR 2] (LW W z f) = xnG call 90 F 24 ls [] (LW W (uZ z 23 y) f) := rfl
set_option maxRecDepth 100000 in
theorem br1_90_9 (call : QC FA) (z : Nat → Int32) (f : Nat → FA) (F : Nat) : xnG call 90 (F + 3) 24 [some (vR 2), some (vR 17)] [] (LW W z f) = xnG call 90 F 27 [some (vR 2), some (vR 17)] [vI (z 174), vR 2] (LW W z f) := rfl
set_option maxRecDepth 100000 in
theorem br1_90_10 (call : QC FA) (y : Int32) (ls : List (Option PV)) (z : Nat → Int32) (f : Nat → FA) (F : Nat) : xnG call 90 (F + 1) 27 ls [vI y, vR 2] (LW W z f) = xnG call 90 F 28 ls [] (LW W (uZ z 24 y) f) := rfl
set_option maxRecDepth 100000 in
theorem br1_90_11 (call : QC FA) (z : Nat → Int32) (f : Nat → FA) (F : Nat) : xnG call 90 (F + 3) 28 [some (vR 2), some (vR 17)] [] (LW W z f) = xnG call 90 F 31 [some (vR 2), some (vR 17)] [vI (z 175), vR 2] (LW W z f) := rfl
set_option maxRecDepth 100000 in
theorem br1_90_12 (call : QC FA) (y : Int32) (ls : List (Option PV)) (z : Nat → Int32) (f : Nat → FA) (F : Nat) : xnG call 90 (F + 1) 31 ls [vI y, vR 2] (LW W z f) = xnG call 90 F 32 ls [] (LW W (uZ z 25 y) f) := rfl
set_option maxRecDepth 100000 in
theorem br1_90_13 (call : QC FA) (z : Nat → Int32) (f : Nat → FA) (F : Nat) : xnG call 90 (F + 3) 32 [some (vR 2), some (vR 17)] [] (LW W z f) = xnG call 90 F 35 [some (vR 2), some (vR 17)] [vI (z 176), vR 2] (LW W z f) := rfl
set_option maxRecDepth 100000 in
theorem br1_90_14 (call : QC FA) (y : Int32) (ls : List (Option PV)) (z : Nat → Int32) (f : Nat → FA) (F : Nat) : xnG call 90 (F + 1) 35 ls [vI y, vR 2] (LW W z f) = xnG call 90 F 36 ls [] (LW W (uZ z 26 y) f) := rfl
set_option maxRecDepth 100000 in
theorem br1_90_15 (call : QC FA) (z : Nat → Int32) (f : Nat → FA) (F : Nat) : xnG call 90 (F + 3) 36 [some (vR 2), some (vR 17)] [] (LW W z f) = xnG call 90 F 39 [some (vR 2), some (vR 17)] [vI (z 177), vR 2] (LW W z f) := rfl
set_option maxRecDepth 100000 in
theorem br1_90_16 (call : QC FA) (y : Int32) (ls : List (Option PV)) (z : Nat → Int32) (f : Nat → FA) (F : Nat) : xnG call 90 (F + 1) 39 ls [vI y, vR 2] (LW W z f) = xnG call 90 F 40 ls [] (LW W (uZ z 27 y) f) := rfl
set_option maxRecDepth 100000 in
theorem br1_90_17 (call : QC FA) (z : Nat → Int32) (f : Nat → FA) (F : Nat) : xnG call 90 (F + 3) 40 [some (vR 2), some (vR 17)] [] (LW W z f) = xnG call 90 F 43 [some (vR 2), some (vR 17)] [vI (z 178), vR 2] (LW W z f) := rfl
set_option maxRecDepth 100000 in
theorem br1_90_18 (call : QC FA) (y : Int32) (ls : List (Option PV)) (z : Nat → Int32) (f : Nat → FA) (F : Nat) : xnG call 90 (F + 1) 43 ls [vI y, vR 2] (LW W z f) = xnG call 90 F 44 ls [] (LW W (uZ z 28 y) f) := rfl
set_option maxRecDepth 100000 in
theorem br1_90_19 (call : QC FA) (z : Nat → Int32) (f : Nat → FA) (F : Nat) : xnG call 90 (F + 3) 44 [some (vR 2), some (vR 17)] [] (LW W z f) = xnG call 90 F 47 [some (vR 2), some (vR 17)] [vI (z 179), vR 2] (LW W z f) := rfl
set_option maxRecDepth 100000 in
theorem br1_90_20 (call : QC FA) (y : Int32) (ls : List (Option PV)) (z : Nat → Int32) (f : Nat → FA) (F : Nat) : xnG call 90 (F + 1) 47 ls [vI y, vR 2] (LW W z f) = xnG call 90 F 48 ls [] (LW W (uZ z 29 y) f) := rfl
set_option maxRecDepth 100000 in
theorem br1_90_21 (call : QC FA) (ls : List (Option PV)) (L : QH FA) (F : Nat) : xnG call 90 (F + 1) 48 ls [] L = some (none, L) := rfl
theorem vcr1_90_0 (call : QC FA) (z : Nat → Int32) (f : Nat → FA) (res : Option PV × QH FA) (H : res = (none, LW W (uZ (uZ (uZ (uZ (uZ (uZ (uZ (uZ z 22 (z 172)) 23 (z 173)) 24 (z 174)) 25 (z 175)) 26 (z 176)) 27 (z 177)) 28 (z 178)) 29 (z 179)) (uA (uA f 3 (cpW (f 18) (f 3) 120)) 4 (cpW (f 19) (f 4) 144)))) : XC call (mP 90) 0 [some (vR 2), some (vR 17)] [] (LW W z f) res := by
  refine xc_b (i' := 7) (ls' := [some (vR 2), some (vR 17)]) (st' := [vI 120, vI 0, vR 3, vI 0, vR 18]) (L' := LW W z f) 7 (br1_90_1 call z f) ?_
  refine xc_g (i' := 8) (ls' := [some (vR 2), some (vR 17)]) (st' := []) (L' := LW W z (uA f 3 (va_cpy (f 18) (f 3) (ix 0) (ix 0) (ix 120)))) (br1_90_2 call _ z f) (by decide) ?_
  rw [cpW_e (f := f 18) (g := f 3) (a := 0) (b := 0) (n := 120) (N := 120) (by decide) (by decide) (by decide)]
  show XC call (mP 90) 8 [some (vR 2), some (vR 17)] [] (LW W z (uA f 3 (cpW (f 18) (f 3) 120))) res
  refine xc_b (i' := 15) (ls' := [some (vR 2), some (vR 17)]) (st' := [vI 144, vI 0, vR 4, vI 0, vR 19]) (L' := LW W z (uA f 3 (cpW (f 18) (f 3) 120))) 7 (br1_90_3 call z (uA f 3 (cpW (f 18) (f 3) 120))) ?_
  refine xc_g (i' := 16) (ls' := [some (vR 2), some (vR 17)]) (st' := []) (L' := LW W z (uA (uA f 3 (cpW (f 18) (f 3) 120)) 4 (va_cpy ((uA f 3 (cpW (f 18) (f 3) 120)) 19) ((uA f 3 (cpW (f 18) (f 3) 120)) 4) (ix 0) (ix 0) (ix 144)))) (br1_90_4 call _ z (uA f 3 (cpW (f 18) (f 3) 120))) (by decide) ?_
  rw [cpW_e (f := (uA f 3 (cpW (f 18) (f 3) 120)) 19) (g := (uA f 3 (cpW (f 18) (f 3) 120)) 4) (a := 0) (b := 0) (n := 144) (N := 144) (by decide) (by decide) (by decide)]
  show XC call (mP 90) 16 [some (vR 2), some (vR 17)] [] (LW W z (uA (uA f 3 (cpW (f 18) (f 3) 120)) 4 (cpW (f 19) (f 4) 144))) res
  refine xc_b (i' := 19) (ls' := [some (vR 2), some (vR 17)]) (st' := [vI (z 172), vR 2]) (L' := LW W z (uA (uA f 3 (cpW (f 18) (f 3) 120)) 4 (cpW (f 19) (f 4) 144))) 3 (br1_90_5 call z (uA (uA f 3 (cpW (f 18) (f 3) 120)) 4 (cpW (f 19) (f 4) 144))) ?_
  refine xc_b (i' := 20) (ls' := [some (vR 2), some (vR 17)]) (st' := []) (L' := LW W (uZ z 22 (z 172)) (uA (uA f 3 (cpW (f 18) (f 3) 120)) 4 (cpW (f 19) (f 4) 144))) 1 (br1_90_6 call (z 172) _ z (uA (uA f 3 (cpW (f 18) (f 3) 120)) 4 (cpW (f 19) (f 4) 144))) ?_
  refine xc_b (i' := 23) (ls' := [some (vR 2), some (vR 17)]) (st' := [vI (z 173), vR 2]) (L' := LW W (uZ z 22 (z 172)) (uA (uA f 3 (cpW (f 18) (f 3) 120)) 4 (cpW (f 19) (f 4) 144))) 3 (br1_90_7 call (uZ z 22 (z 172)) (uA (uA f 3 (cpW (f 18) (f 3) 120)) 4 (cpW (f 19) (f 4) 144))) ?_
  refine xc_b (i' := 24) (ls' := [some (vR 2), some (vR 17)]) (st' := []) (L' := LW W (uZ (uZ z 22 (z 172)) 23 (z 173)) (uA (uA f 3 (cpW (f 18) (f 3) 120)) 4 (cpW (f 19) (f 4) 144))) 1 (br1_90_8 call (z 173) _ (uZ z 22 (z 172)) (uA (uA f 3 (cpW (f 18) (f 3) 120)) 4 (cpW (f 19) (f 4) 144))) ?_
  refine xc_b (i' := 27) (ls' := [some (vR 2), some (vR 17)]) (st' := [vI (z 174), vR 2]) (L' := LW W (uZ (uZ z 22 (z 172)) 23 (z 173)) (uA (uA f 3 (cpW (f 18) (f 3) 120)) 4 (cpW (f 19) (f 4) 144))) 3 (br1_90_9 call (uZ (uZ z 22 (z 172)) 23 (z 173)) (uA (uA f 3 (cpW (f 18) (f 3) 120)) 4 (cpW (f 19) (f 4) 144))) ?_
  refine xc_b (i' := 28) (ls' := [some (vR 2), some (vR 17)]) (st' := []) (L' := LW W (uZ (uZ (uZ z 22 (z 172)) 23 (z 173)) 24 (z 174)) (uA (uA f 3 (cpW (f 18) (f 3) 120)) 4 (cpW (f 19) (f 4) 144))) 1 (br1_90_10 call (z 174) _ (uZ (uZ z 22 (z 172)) 23 (z 173)) (uA (uA f 3 (cpW (f 18) (f 3) 120)) 4 (cpW (f 19) (f 4) 144))) ?_
  refine xc_b (i' := 31) (ls' := [some (vR 2), some (vR 17)]) (st' := [vI (z 175), vR 2]) (L' := LW W (uZ (uZ (uZ z 22 (z 172)) 23 (z 173)) 24 (z 174)) (uA (uA f 3 (cpW (f 18) (f 3) 120)) 4 (cpW (f 19) (f 4) 144))) 3 (br1_90_11 call (uZ (uZ (uZ z 22 (z 172)) 23 (z 173)) 24 (z 174)) (uA (uA f 3 (cpW (f 18) (f 3) 120)) 4 (cpW (f 19) (f 4) 144))) ?_
  refine xc_b (i' := 32) (ls' := [some (vR 2), some (vR 17)]) (st' := []) (L' := LW W (uZ (uZ (uZ (uZ z 22 (z 172)) 23 (z 173)) 24 (z 174)) 25 (z 175)) (uA (uA f 3 (cpW (f 18) (f 3) 120)) 4 (cpW (f 19) (f 4) 144))) 1 (br1_90_12 call (z 175) _ (uZ (uZ (uZ z 22 (z 172)) 23 (z 173)) 24 (z 174)) (uA (uA f 3 (cpW (f 18) (f 3) 120)) 4 (cpW (f 19) (f 4) 144))) ?_
  refine xc_b (i' := 35) (ls' := [some (vR 2), some (vR 17)]) (st' := [vI (z 176), vR 2]) (L' := LW W (uZ (uZ (uZ (uZ z 22 (z 172)) 23 (z 173)) 24 (z 174)) 25 (z 175)) (uA (uA f 3 (cpW (f 18) (f 3) 120)) 4 (cpW (f 19) (f 4) 144))) 3 (br1_90_13 call (uZ (uZ (uZ (uZ z 22 (z 172)) 23 (z 173)) 24 (z 174)) 25 (z 175)) (uA (uA f 3 (cpW (f 18) (f 3) 120)) 4 (cpW (f 19) (f 4) 144))) ?_
  refine xc_b (i' := 36) (ls' := [some (vR 2), some (vR 17)]) (st' := []) (L' := LW W (uZ (uZ (uZ (uZ (uZ z 22 (z 172)) 23 (z 173)) 24 (z 174)) 25 (z 175)) 26 (z 176)) (uA (uA f 3 (cpW (f 18) (f 3) 120)) 4 (cpW (f 19) (f 4) 144))) 1 (br1_90_14 call (z 176) _ (uZ (uZ (uZ (uZ z 22 (z 172)) 23 (z 173)) 24 (z 174)) 25 (z 175)) (uA (uA f 3 (cpW (f 18) (f 3) 120)) 4 (cpW (f 19) (f 4) 144))) ?_
  refine xc_b (i' := 39) (ls' := [some (vR 2), some (vR 17)]) (st' := [vI (z 177), vR 2]) (L' := LW W (uZ (uZ (uZ (uZ (uZ z 22 (z 172)) 23 (z 173)) 24 (z 174)) 25 (z 175)) 26 (z 176)) (uA (uA f 3 (cpW (f 18) (f 3) 120)) 4 (cpW (f 19) (f 4) 144))) 3 (br1_90_15 call (uZ (uZ (uZ (uZ (uZ z 22 (z 172)) 23 (z 173)) 24 (z 174)) 25 (z 175)) 26 (z 176)) (uA (uA f 3 (cpW (f 18) (f 3) 120)) 4 (cpW (f 19) (f 4) 144))) ?_
  refine xc_b (i' := 40) (ls' := [some (vR 2), some (vR 17)]) (st' := []) (L' := LW W (uZ (uZ (uZ (uZ (uZ (uZ z 22 (z 172)) 23 (z 173)) 24 (z 174)) 25 (z 175)) 26 (z 176)) 27 (z 177)) (uA (uA f 3 (cpW (f 18) (f 3) 120)) 4 (cpW (f 19) (f 4) 144))) 1 (br1_90_16 call (z 177) _ (uZ (uZ (uZ (uZ (uZ z 22 (z 172)) 23 (z 173)) 24 (z 174)) 25 (z 175)) 26 (z 176)) (uA (uA f 3 (cpW (f 18) (f 3) 120)) 4 (cpW (f 19) (f 4) 144))) ?_
  refine xc_b (i' := 43) (ls' := [some (vR 2), some (vR 17)]) (st' := [vI (z 178), vR 2]) (L' := LW W (uZ (uZ (uZ (uZ (uZ (uZ z 22 (z 172)) 23 (z 173)) 24 (z 174)) 25 (z 175)) 26 (z 176)) 27 (z 177)) (uA (uA f 3 (cpW (f 18) (f 3) 120)) 4 (cpW (f 19) (f 4) 144))) 3 (br1_90_17 call (uZ (uZ (uZ (uZ (uZ (uZ z 22 (z 172)) 23 (z 173)) 24 (z 174)) 25 (z 175)) 26 (z 176)) 27 (z 177)) (uA (uA f 3 (cpW (f 18) (f 3) 120)) 4 (cpW (f 19) (f 4) 144))) ?_
  refine xc_b (i' := 44) (ls' := [some (vR 2), some (vR 17)]) (st' := []) (L' := LW W (uZ (uZ (uZ (uZ (uZ (uZ (uZ z 22 (z 172)) 23 (z 173)) 24 (z 174)) 25 (z 175)) 26 (z 176)) 27 (z 177)) 28 (z 178)) (uA (uA f 3 (cpW (f 18) (f 3) 120)) 4 (cpW (f 19) (f 4) 144))) 1 (br1_90_18 call (z 178) _ (uZ (uZ (uZ (uZ (uZ (uZ z 22 (z 172)) 23 (z 173)) 24 (z 174)) 25 (z 175)) 26 (z 176)) 27 (z 177)) (uA (uA f 3 (cpW (f 18) (f 3) 120)) 4 (cpW (f 19) (f 4) 144))) ?_
  refine xc_b (i' := 47) (ls' := [some (vR 2), some (vR 17)]) (st' := [vI (z 179), vR 2]) (L' := LW W (uZ (uZ (uZ (uZ (uZ (uZ (uZ z 22 (z 172)) 23 (z 173)) 24 (z 174)) 25 (z 175)) 26 (z 176)) 27 (z 177)) 28 (z 178)) (uA (uA f 3 (cpW (f 18) (f 3) 120)) 4 (cpW (f 19) (f 4) 144))) 3 (br1_90_19 call (uZ (uZ (uZ (uZ (uZ (uZ (uZ z 22 (z 172)) 23 (z 173)) 24 (z 174)) 25 (z 175)) 26 (z 176)) 27 (z 177)) 28 (z 178)) (uA (uA f 3 (cpW (f 18) (f 3) 120)) 4 (cpW (f 19) (f 4) 144))) ?_
  refine xc_b (i' := 48) (ls' := [some (vR 2), some (vR 17)]) (st' := []) (L' := LW W (uZ (uZ (uZ (uZ (uZ (uZ (uZ (uZ z 22 (z 172)) 23 (z 173)) 24 (z 174)) 25 (z 175)) 26 (z 176)) 27 (z 177)) 28 (z 178)) 29 (z 179)) (uA (uA f 3 (cpW (f 18) (f 3) 120)) 4 (cpW (f 19) (f 4) 144))) 1 (br1_90_20 call (z 179) _ (uZ (uZ (uZ (uZ (uZ (uZ (uZ z 22 (z 172)) 23 (z 173)) 24 (z 174)) 25 (z 175)) 26 (z 176)) 27 (z 177)) 28 (z 178)) (uA (uA f 3 (cpW (f 18) (f 3) 120)) 4 (cpW (f 19) (f 4) 144))) ?_
  subst H
  exact xc_ret (br1_90_21 call _ _)
set_option maxRecDepth 100000 in
theorem bk1_141_1 (call : QC FA) (z : Nat → Int32) (f : Nat → FA) (F : Nat) : xnG call 141 (F + 2) 0 [some (vR 12), some (vR 2)] [] (LW W z f) = xnG call 141 F 2 [some (vR 12), some (vR 2)] [vI (z 122)] (LW W z f) := rfl
set_option maxRecDepth 100000 in
theorem bk1_141_2 (call : QC FA) (x : Int32) (ls : List (Option PV)) (L : QH FA) (F : Nat) : xnG call 141 (F + 1) 2 ls [vI x] L = bif pcmp 2 x 0 then xnG call 141 F 7 ls [] L else xnG call 141 F 3 ls [] L := rfl
set_option maxRecDepth 100000 in
theorem bk1_141_3 (call : QC FA) (z : Nat → Int32) (f : Nat → FA) (F : Nat) : xnG call 141 (F + 3) 3 [some (vR 12), some (vR 2)] [] (LW W z f) = xnG call 141 F 6 [some (vR 12), some (vR 2)] [vI 6, vI (z 122)] (LW W z f) := rfl
set_option maxRecDepth 100000 in
theorem bk1_141_4 (call : QC FA) (x y : Int32) (ls : List (Option PV)) (L : QH FA) (F : Nat) : xnG call 141 (F + 1) 6 ls [vI y, vI x] L = bif pcmp 2 x y then xnG call 141 F 8 ls [] L else xnG call 141 F 7 ls [] L := rfl
set_option maxRecDepth 100000 in
theorem bk1_141_5 (call : QC FA) (z : Nat → Int32) (f : Nat → FA) (F : Nat) : xnG call 141 (F + 4) 8 [some (vR 12), some (vR 2)] [] (LW W z f) = xnG call 141 F 12 [some (vR 12), some (vR 2)] [vI (z 122), vR 13] (LW W z f) := rfl
set_option maxRecDepth 100000 in
theorem bk1_141_6 (call : QC FA) (ls : List (Option PV)) (z : Nat → Int32) (f : Nat → FA) (F : Nat) : xnG call 141 (F + 1) 12 ls [vI 1, vR 13] (LW W z f) = bif ((Nat.beq 1 1 || (Nat.beq 1 2 || Nat.beq 1 3)) && pin 1 6) then xnG call 141 F 13 ls [.inr (.inl (rgW (ix 1)))] (LW W z f) else none := rfl
set_option maxRecDepth 100000 in
theorem bk1_141_7 (call : QC FA) (L : QH FA) (F : Nat) : xnG call 141 (F + 1) 13 [some (vR 12), some (vR 2)] [vR 17] L = xnG call 141 F 14 [some (vR 12), some (vR 2)] [vR 2, vR 17] L := rfl
set_option maxRecDepth 100000 in
theorem bk1_141_8 (call : QC FA) (ls : List (Option PV)) (z : Nat → Int32) (f : Nat → FA) (F : Nat) : xnG call 141 (F + 1) 14 ls [vR 2, vR 17] (LW W z f) = cbd (call 90 [vR 17, vR 2] (LW W z f)) (fun r L' => xnG call 141 F 15 ls (r.toList ++ []) L') := pcY (ih := xnG call 141 F) (call := call) (a := 90) (b := 1) (v := 0) (t := 15) (x := 17) (ls := ls) (As := [vR 2]) (st' := []) (L := LW W z f) rfl rfl rfl
set_option maxRecDepth 100000 in
theorem bk1_141_9 (call : QC FA) (z : Nat → Int32) (f : Nat → FA) (F : Nat) : xnG call 141 (F + 6) 15 [some (vR 12), some (vR 2)] [] (LW W z f) = xnG call 141 F 21 [some (vR 12), some (vR 2)] [vI 6, vI ((z 122) + 1), vR 12] (LW W z f) := rfl
set_option maxRecDepth 100000 in
theorem bk1_141_10 (call : QC FA) (x y : Int32) (ls : List (Option PV)) (L : QH FA) (F : Nat) : xnG call 141 (F + 1) 21 ls [vI y, vI x, vR 12] L = bif pcmp 3 x y then xnG call 141 F 27 ls [vR 12] L else xnG call 141 F 22 ls [vR 12] L := rfl
set_option maxRecDepth 100000 in
theorem bk1_141_11 (call : QC FA) (L : QH FA) (F : Nat) : xnG call 141 (F + 1) 27 [some (vR 12), some (vR 2)] [vR 12] L = xnG call 141 F 28 [some (vR 12), some (vR 2)] [vI 0, vR 12] L := rfl
set_option maxRecDepth 100000 in
theorem bk1_141_12 (call : QC FA) (y : Int32) (ls : List (Option PV)) (z : Nat → Int32) (f : Nat → FA) (F : Nat) : xnG call 141 (F + 1) 28 ls [vI y, vR 12] (LW W z f) = xnG call 141 F 29 ls [] (LW W (uZ z 122 y) f) := rfl
set_option maxRecDepth 100000 in
theorem bk1_141_13 (call : QC FA) (z : Nat → Int32) (f : Nat → FA) (F : Nat) : xnG call 141 (F + 6) 29 [some (vR 12), some (vR 2)] [] (LW W z f) = xnG call 141 F 35 [some (vR 12), some (vR 2)] [vI 6, vI ((z 123) + 1), vR 12] (LW W z f) := rfl
set_option maxRecDepth 100000 in
theorem bk1_141_14 (call : QC FA) (x y : Int32) (ls : List (Option PV)) (L : QH FA) (F : Nat) : xnG call 141 (F + 1) 35 ls [vI y, vI x, vR 12] L = bif pcmp 2 y x then xnG call 141 F 36 ls [vI y, vR 12] L else xnG call 141 F 36 ls [vI x, vR 12] L := pmn (xnG call 141 F) 36 x y ls [vR 12] L rfl
set_option maxRecDepth 100000 in
theorem bk1_141_15 (call : QC FA) (y : Int32) (ls : List (Option PV)) (z : Nat → Int32) (f : Nat → FA) (F : Nat) : xnG call 141 (F + 1) 36 ls [vI y, vR 12] (LW W z f) = xnG call 141 F 37 ls [] (LW W (uZ z 123 y) f) := rfl
set_option maxRecDepth 100000 in
theorem bk1_141_16 (call : QC FA) (ls : List (Option PV)) (L : QH FA) (F : Nat) : xnG call 141 (F + 1) 37 ls [] L = some (none, L) := rfl
set_option maxRecDepth 100000 in
theorem bk1_141_17 (call : QC FA) (z : Nat → Int32) (f : Nat → FA) (F : Nat) : xnG call 141 (F + 5) 22 [some (vR 12), some (vR 2)] [vR 12] (LW W z f) = xnG call 141 F 28 [some (vR 12), some (vR 2)] [vI ((z 122) + 1), vR 12] (LW W z f) := rfl
theorem vck1_141_0 (call : QC FA) (z : Nat → Int32) (f : Nat → FA) (res : Option PV × QH FA) (H : (∃ (z1 : Nat → Int32) (f1 : Nat → FA), call 90 [vR 17, vR 2] (LW W (uZ z 122 1) f) = some (none, LW W z1 f1) ∧ ((6 ≤ I ((z1 122) + 1) → ((6 < I ((z1 123) + 1) → res = (none, LW W (uZ (uZ z1 122 0) 123 6) f1)) ∧ (I ((z1 123) + 1) ≤ 6 → res = (none, LW W (uZ (uZ z1 122 0) 123 ((z1 123) + 1)) f1)))) ∧ (I ((z1 122) + 1) < 6 → ((6 < I ((z1 123) + 1) → res = (none, LW W (uZ (uZ z1 122 ((z1 122) + 1)) 123 6) f1)) ∧ (I ((z1 123) + 1) ≤ 6 → res = (none, LW W (uZ (uZ z1 122 ((z1 122) + 1)) 123 ((z1 123) + 1)) f1))))))) : XC call (mP 141) 0 [some (vR 12), some (vR 2)] [] (LW W (uZ z 122 1) f) res := by
  refine xc_b (i' := 2) (ls' := [some (vR 12), some (vR 2)]) (st' := [vI 1]) (L' := LW W (uZ z 122 1) f) 2 (bk1_141_1 call (uZ z 122 1) f) ?_
  refine xc_f (it := 7) (ie := 3) (ls' := [some (vR 12), some (vR 2)]) (st' := []) (bk1_141_2 call 1 _ _) (by decide) ?_
  refine xc_b (i' := 6) (ls' := [some (vR 12), some (vR 2)]) (st' := [vI 6, vI 1]) (L' := LW W (uZ z 122 1) f) 3 (bk1_141_3 call (uZ z 122 1) f) ?_
  refine xc_t (it := 8) (ie := 7) (ls' := [some (vR 12), some (vR 2)]) (st' := []) (bk1_141_4 call 1 6 _ _) (by decide) ?_
  refine xc_b (i' := 12) (ls' := [some (vR 12), some (vR 2)]) (st' := [vI 1, vR 13]) (L' := LW W (uZ z 122 1) f) 4 (bk1_141_5 call (uZ z 122 1) f) ?_
  refine xc_g (i' := 13) (ls' := [some (vR 12), some (vR 2)]) (st' := [.inr (.inl (rgW (ix 1)))]) (L' := LW W (uZ z 122 1) f) (bk1_141_6 call _ (uZ z 122 1) f) (by decide) ?_
  show XC call (mP 141) 13 [some (vR 12), some (vR 2)] [vR 17] (LW W (uZ z 122 1) f) res
  refine xc_b (i' := 14) (ls' := [some (vR 12), some (vR 2)]) (st' := [vR 2, vR 17]) (L' := LW W (uZ z 122 1) f) 1 (bk1_141_7 call _) ?_
  obtain ⟨z1, f1, hc, H⟩ := H
  refine xc_call (t := 15) (ls' := [some (vR 12), some (vR 2)]) (st' := []) (bk1_141_8 call _ (uZ z 122 1) f) hc ?_
  show XC call (mP 141) 15 [some (vR 12), some (vR 2)] [] (LW W z1 f1) res
  refine xc_b (i' := 21) (ls' := [some (vR 12), some (vR 2)]) (st' := [vI 6, vI ((z1 122) + 1), vR 12]) (L' := LW W z1 f1) 6 (bk1_141_9 call z1 f1) ?_
  refine xc_if (it := 27) (ie := 22) (ls' := [some (vR 12), some (vR 2)]) (st' := [vR 12]) (bk1_141_10 call ((z1 122) + 1) 6 _ _) (fun q1 => ?_) (fun q1 => ?_)
  · have H := H.1 (cI3t q1 rfl rfl)
    refine xc_b (i' := 28) (ls' := [some (vR 12), some (vR 2)]) (st' := [vI 0, vR 12]) (L' := LW W z1 f1) 1 (bk1_141_11 call _) ?_
    refine xc_b (i' := 29) (ls' := [some (vR 12), some (vR 2)]) (st' := []) (L' := LW W (uZ z1 122 0) f1) 1 (bk1_141_12 call 0 _ z1 f1) ?_
    refine xc_b (i' := 35) (ls' := [some (vR 12), some (vR 2)]) (st' := [vI 6, vI ((z1 123) + 1), vR 12]) (L' := LW W (uZ z1 122 0) f1) 6 (bk1_141_13 call (uZ z1 122 0) f1) ?_
    refine xc_if2 (it := 36) (ie := 36) (ls' := [some (vR 12), some (vR 2)]) (st1 := [vI 6, vR 12]) (st2 := [vI ((z1 123) + 1), vR 12]) (bk1_141_14 call ((z1 123) + 1) 6 _ _) (fun q2 => ?_) (fun q2 => ?_)
    · have H := H.1 (cI2t q2 rfl rfl)
      refine xc_b (i' := 37) (ls' := [some (vR 12), some (vR 2)]) (st' := []) (L' := LW W (uZ (uZ z1 122 0) 123 6) f1) 1 (bk1_141_15 call 6 _ (uZ z1 122 0) f1) ?_
      subst H
      exact xc_ret (bk1_141_16 call _ _)
    · have H := H.2 (cI2f q2 rfl rfl)
      refine xc_b (i' := 37) (ls' := [some (vR 12), some (vR 2)]) (st' := []) (L' := LW W (uZ (uZ z1 122 0) 123 ((z1 123) + 1)) f1) 1 (bk1_141_15 call ((z1 123) + 1) _ (uZ z1 122 0) f1) ?_
      subst H
      exact xc_ret (bk1_141_16 call _ _)
  · have H := H.2 (cI3f q1 rfl rfl)
    refine xc_b (i' := 28) (ls' := [some (vR 12), some (vR 2)]) (st' := [vI ((z1 122) + 1), vR 12]) (L' := LW W z1 f1) 5 (bk1_141_17 call z1 f1) ?_
    refine xc_b (i' := 29) (ls' := [some (vR 12), some (vR 2)]) (st' := []) (L' := LW W (uZ z1 122 ((z1 122) + 1)) f1) 1 (bk1_141_12 call ((z1 122) + 1) _ z1 f1) ?_
    refine xc_b (i' := 35) (ls' := [some (vR 12), some (vR 2)]) (st' := [vI 6, vI ((z1 123) + 1), vR 12]) (L' := LW W (uZ z1 122 ((z1 122) + 1)) f1) 6 (bk1_141_13 call (uZ z1 122 ((z1 122) + 1)) f1) ?_
    refine xc_if2 (it := 36) (ie := 36) (ls' := [some (vR 12), some (vR 2)]) (st1 := [vI 6, vR 12]) (st2 := [vI ((z1 123) + 1), vR 12]) (bk1_141_14 call ((z1 123) + 1) 6 _ _) (fun q3 => ?_) (fun q3 => ?_)
    · have H := H.1 (cI2t q3 rfl rfl)
      refine xc_b (i' := 37) (ls' := [some (vR 12), some (vR 2)]) (st' := []) (L' := LW W (uZ (uZ z1 122 ((z1 122) + 1)) 123 6) f1) 1 (bk1_141_15 call 6 _ (uZ z1 122 ((z1 122) + 1)) f1) ?_
      subst H
      exact xc_ret (bk1_141_16 call _ _)
    · have H := H.2 (cI2f q3 rfl rfl)
      refine xc_b (i' := 37) (ls' := [some (vR 12), some (vR 2)]) (st' := []) (L' := LW W (uZ (uZ z1 122 ((z1 122) + 1)) 123 ((z1 123) + 1)) f1) 1 (bk1_141_15 call ((z1 123) + 1) _ (uZ z1 122 ((z1 122) + 1)) f1) ?_
      subst H
      exact xc_ret (bk1_141_16 call _ _)
set_option maxRecDepth 100000 in
theorem bb1_140_1 (call : QC FA) (z : Nat → Int32) (f : Nat → FA) (F : Nat) : xnG call 140 (F + 2) 0 [some (vR 12), some (vR 2)] [] (LW W z f) = xnG call 140 F 2 [some (vR 12), some (vR 2)] [vI (z 123)] (LW W z f) := rfl
set_option maxRecDepth 100000 in
theorem bb1_140_2 (call : QC FA) (x : Int32) (ls : List (Option PV)) (L : QH FA) (F : Nat) : xnG call 140 (F + 1) 2 ls [vI x] L = bif pcmp 0 x 0 then xnG call 140 F 10 ls [] L else xnG call 140 F 3 ls [] L := rfl
set_option maxRecDepth 100000 in
theorem bb1_140_3 (call : QC FA) (L : QH FA) (F : Nat) : xnG call 140 (F + 1) 10 [some (vR 12), some (vR 2)] [] L = xnG call 140 F 11 [some (vR 12), some (vR 2)] [vI 0] L := rfl
set_option maxRecDepth 100000 in
theorem bb1_140_4 (call : QC FA) (ls : List (Option PV)) (L : QH FA) (F : Nat) : xnG call 140 (F + 1) 11 ls [vI 0] L = some (some (vI 0), L) := rfl
set_option maxRecDepth 100000 in
theorem bb1_140_5 (call : QC FA) (z : Nat → Int32) (f : Nat → FA) (F : Nat) : xnG call 140 (F + 2) 3 [some (vR 12), some (vR 2)] [] (LW W z f) = xnG call 140 F 5 [some (vR 12), some (vR 2)] [vI (z 122)] (LW W z f) := rfl
set_option maxRecDepth 100000 in
theorem bb1_140_6 (call : QC FA) (x : Int32) (ls : List (Option PV)) (L : QH FA) (F : Nat) : xnG call 140 (F + 1) 5 ls [vI x] L = bif pcmp 2 x 0 then xnG call 140 F 10 ls [] L else xnG call 140 F 6 ls [] L := rfl
set_option maxRecDepth 100000 in
theorem bb1_140_7 (call : QC FA) (z : Nat → Int32) (f : Nat → FA) (F : Nat) : xnG call 140 (F + 3) 6 [some (vR 12), some (vR 2)] [] (LW W z f) = xnG call 140 F 9 [some (vR 12), some (vR 2)] [vI 6, vI (z 122)] (LW W z f) := rfl
set_option maxRecDepth 100000 in
theorem bb1_140_8 (call : QC FA) (x y : Int32) (ls : List (Option PV)) (L : QH FA) (F : Nat) : xnG call 140 (F + 1) 9 ls [vI y, vI x] L = bif pcmp 2 x y then xnG call 140 F 12 ls [] L else xnG call 140 F 10 ls [] L := rfl
set_option maxRecDepth 100000 in
theorem bb1_140_9 (call : QC FA) (z : Nat → Int32) (f : Nat → FA) (F : Nat) : xnG call 140 (F + 3) 12 [some (vR 12), some (vR 2)] [] (LW W z f) = xnG call 140 F 15 [some (vR 12), some (vR 2)] [vI (z 122), vR 12] (LW W z f) := rfl
set_option maxRecDepth 100000 in
theorem bb1_140_10 (call : QC FA) (x : Int32) (ls : List (Option PV)) (L : QH FA) (F : Nat) : xnG call 140 (F + 1) 15 ls [vI x, vR 12] L = bif pcmp 5 x 0 then xnG call 140 F 21 ls [vR 12] L else xnG call 140 F 16 ls [vR 12] L := rfl
set_option maxRecDepth 100000 in
theorem bb1_140_11 (call : QC FA) (z : Nat → Int32) (f : Nat → FA) (F : Nat) : xnG call 140 (F + 5) 16 [some (vR 12), some (vR 2)] [vR 12] (LW W z f) = xnG call 140 F 22 [some (vR 12), some (vR 2)] [vI ((z 122) - 1), vR 12] (LW W z f) := rfl
set_option maxRecDepth 100000 in
theorem bb1_140_12 (call : QC FA) (y : Int32) (ls : List (Option PV)) (z : Nat → Int32) (f : Nat → FA) (F : Nat) : xnG call 140 (F + 1) 22 ls [vI y, vR 12] (LW W z f) = xnG call 140 F 23 ls [] (LW W (uZ z 122 y) f) := rfl
set_option maxRecDepth 100000 in
theorem bb1_140_13 (call : QC FA) (z : Nat → Int32) (f : Nat → FA) (F : Nat) : xnG call 140 (F + 5) 23 [some (vR 12), some (vR 2)] [] (LW W z f) = xnG call 140 F 28 [some (vR 12), some (vR 2)] [vI ((z 123) - 1), vR 12] (LW W z f) := rfl
set_option maxRecDepth 100000 in
theorem bb1_140_14 (call : QC FA) (y : Int32) (ls : List (Option PV)) (z : Nat → Int32) (f : Nat → FA) (F : Nat) : xnG call 140 (F + 1) 28 ls [vI y, vR 12] (LW W z f) = xnG call 140 F 29 ls [] (LW W (uZ z 123 y) f) := rfl
set_option maxRecDepth 100000 in
theorem bb1_140_15 (call : QC FA) (z : Nat → Int32) (f : Nat → FA) (F : Nat) : xnG call 140 (F + 5) 29 [some (vR 12), some (vR 2)] [] (LW W z f) = xnG call 140 F 34 [some (vR 12), some (vR 2)] [vI (z 122), vR 13, vR 2] (LW W z f) := rfl
set_option maxRecDepth 100000 in
theorem bb1_140_16 (call : QC FA) (ls : List (Option PV)) (z : Nat → Int32) (f : Nat → FA) (F : Nat) : xnG call 140 (F + 1) 34 ls [vI 0, vR 13, vR 2] (LW W z f) = bif ((Nat.beq 1 1 || (Nat.beq 1 2 || Nat.beq 1 3)) && pin 0 6) then xnG call 140 F 35 ls [.inr (.inl (rgW (ix 0))), vR 2] (LW W z f) else none := rfl
set_option maxRecDepth 100000 in
theorem bb1_140_17 (call : QC FA) (ls : List (Option PV)) (z : Nat → Int32) (f : Nat → FA) (F : Nat) : xnG call 140 (F + 1) 35 ls [vR 14, vR 2] (LW W z f) = cbd (call 90 [vR 2, vR 14] (LW W z f)) (fun r L' => xnG call 140 F 36 ls (r.toList ++ []) L') := pcY (ih := xnG call 140 F) (call := call) (a := 90) (b := 1) (v := 0) (t := 36) (x := 2) (ls := ls) (As := [vR 14]) (st' := []) (L := LW W z f) rfl rfl rfl
set_option maxRecDepth 100000 in
theorem bb1_140_18 (call : QC FA) (L : QH FA) (F : Nat) : xnG call 140 (F + 1) 36 [some (vR 12), some (vR 2)] [] L = xnG call 140 F 37 [some (vR 12), some (vR 2)] [vI 1] L := rfl
set_option maxRecDepth 100000 in
theorem bb1_140_19 (call : QC FA) (ls : List (Option PV)) (L : QH FA) (F : Nat) : xnG call 140 (F + 1) 37 ls [vI 1] L = some (some (vI 1), L) := rfl
theorem vcb1_140_0 (call : QC FA) (z : Nat → Int32) (f : Nat → FA) (res : Option PV × QH FA) (H : ((z 123 = 0 → res = (some (vI 0), LW W (uZ z 122 1) f)) ∧ (¬ z 123 = 0 → (∃ (z1 : Nat → Int32) (f1 : Nat → FA), call 90 [vR 2, vR 14] (LW W (uZ (uZ (uZ z 122 1) 122 0) 123 ((z 123) - 1)) f) = some (none, LW W z1 f1) ∧ res = (some (vI 1), LW W z1 f1))))) : XC call (mP 140) 0 [some (vR 12), some (vR 2)] [] (LW W (uZ z 122 1) f) res := by
  refine xc_b (i' := 2) (ls' := [some (vR 12), some (vR 2)]) (st' := [vI (z 123)]) (L' := LW W (uZ z 122 1) f) 2 (bb1_140_1 call (uZ z 122 1) f) ?_
  refine xc_if (it := 10) (ie := 3) (ls' := [some (vR 12), some (vR 2)]) (st' := []) (bb1_140_2 call (z 123) _ _) (fun q1 => ?_) (fun q1 => ?_)
  · have H := H.1 (cI0t q1)
    refine xc_b (i' := 11) (ls' := [some (vR 12), some (vR 2)]) (st' := [vI 0]) (L' := LW W (uZ z 122 1) f) 1 (bb1_140_3 call _) ?_
    subst H
    exact xc_ret (bb1_140_4 call _ _)
  · have H := H.2 (cI0f q1)
    refine xc_b (i' := 5) (ls' := [some (vR 12), some (vR 2)]) (st' := [vI 1]) (L' := LW W (uZ z 122 1) f) 2 (bb1_140_5 call (uZ z 122 1) f) ?_
    refine xc_f (it := 10) (ie := 6) (ls' := [some (vR 12), some (vR 2)]) (st' := []) (bb1_140_6 call 1 _ _) (by decide) ?_
    refine xc_b (i' := 9) (ls' := [some (vR 12), some (vR 2)]) (st' := [vI 6, vI 1]) (L' := LW W (uZ z 122 1) f) 3 (bb1_140_7 call (uZ z 122 1) f) ?_
    refine xc_t (it := 12) (ie := 10) (ls' := [some (vR 12), some (vR 2)]) (st' := []) (bb1_140_8 call 1 6 _ _) (by decide) ?_
    refine xc_b (i' := 15) (ls' := [some (vR 12), some (vR 2)]) (st' := [vI 1, vR 12]) (L' := LW W (uZ z 122 1) f) 3 (bb1_140_9 call (uZ z 122 1) f) ?_
    refine xc_f (it := 21) (ie := 16) (ls' := [some (vR 12), some (vR 2)]) (st' := [vR 12]) (bb1_140_10 call 1 _ _) (by decide) ?_
    refine xc_b (i' := 22) (ls' := [some (vR 12), some (vR 2)]) (st' := [vI (1 - 1), vR 12]) (L' := LW W (uZ z 122 1) f) 5 (bb1_140_11 call (uZ z 122 1) f) ?_
    rw [show ((1 : Int32) - 1 : Int32) = 0 from by decide]
    refine xc_b (i' := 23) (ls' := [some (vR 12), some (vR 2)]) (st' := []) (L' := LW W (uZ (uZ z 122 1) 122 0) f) 1 (bb1_140_12 call 0 _ (uZ z 122 1) f) ?_
    refine xc_b (i' := 28) (ls' := [some (vR 12), some (vR 2)]) (st' := [vI ((z 123) - 1), vR 12]) (L' := LW W (uZ (uZ z 122 1) 122 0) f) 5 (bb1_140_13 call (uZ (uZ z 122 1) 122 0) f) ?_
    refine xc_b (i' := 29) (ls' := [some (vR 12), some (vR 2)]) (st' := []) (L' := LW W (uZ (uZ (uZ z 122 1) 122 0) 123 ((z 123) - 1)) f) 1 (bb1_140_14 call ((z 123) - 1) _ (uZ (uZ z 122 1) 122 0) f) ?_
    refine xc_b (i' := 34) (ls' := [some (vR 12), some (vR 2)]) (st' := [vI 0, vR 13, vR 2]) (L' := LW W (uZ (uZ (uZ z 122 1) 122 0) 123 ((z 123) - 1)) f) 5 (bb1_140_15 call (uZ (uZ (uZ z 122 1) 122 0) 123 ((z 123) - 1)) f) ?_
    refine xc_g (i' := 35) (ls' := [some (vR 12), some (vR 2)]) (st' := [.inr (.inl (rgW (ix 0))), vR 2]) (L' := LW W (uZ (uZ (uZ z 122 1) 122 0) 123 ((z 123) - 1)) f) (bb1_140_16 call _ (uZ (uZ (uZ z 122 1) 122 0) 123 ((z 123) - 1)) f) (by decide) ?_
    show XC call (mP 140) 35 [some (vR 12), some (vR 2)] [vR 14, vR 2] (LW W (uZ (uZ (uZ z 122 1) 122 0) 123 ((z 123) - 1)) f) res
    obtain ⟨z1, f1, hc, H⟩ := H
    refine xc_call (t := 36) (ls' := [some (vR 12), some (vR 2)]) (st' := []) (bb1_140_17 call _ (uZ (uZ (uZ z 122 1) 122 0) 123 ((z 123) - 1)) f) hc ?_
    show XC call (mP 140) 36 [some (vR 12), some (vR 2)] [] (LW W z1 f1) res
    refine xc_b (i' := 37) (ls' := [some (vR 12), some (vR 2)]) (st' := [vI 1]) (L' := LW W z1 f1) 1 (bb1_140_18 call _) ?_
    subst H
    exact xc_ret (bb1_140_19 call _ _)
set_option maxRecDepth 100000 in
theorem bt2_90_1 (call : QC FA) (z : Nat → Int32) (f : Nat → FA) (F : Nat) : xnG call 90 (F + 7) 0 [some (vR 20), some (vR 2)] [] (LW W z f) = xnG call 90 F 7 [some (vR 20), some (vR 2)] [vI 120, vI 0, vR 21, vI 0, vR 3] (LW W z f) := rfl
set_option maxRecDepth 100000 in
theorem bt2_90_2 (call : QC FA) (ls : List (Option PV)) (z : Nat → Int32) (f : Nat → FA) (F : Nat) : xnG call 90 (F + 1) 7 ls [vI 120, vI 0, vR 21, vI 0, vR 3] (LW W z f) = bif (Nat.beq 0 0 && (Nat.beq 0 0 && (pcmp 3 0 0 && (pcmp 3 0 0 && (pcmp 3 120 0 && (Nat.ble (ix 0 + ix 120) 120 && (Nat.ble (ix 0 + ix 120) 120 && Nat.ble 0 8))))))) then xnG call 90 F 8 ls [] (LW W z (uA f 21 (va_cpy (f 3) (f 21) (ix 0) (ix 0) (ix 120)))) else none := rfl
set_option maxRecDepth 100000 in
theorem bt2_90_3 (call : QC FA) (z : Nat → Int32) (f : Nat → FA) (F : Nat) : xnG call 90 (F + 7) 8 [some (vR 20), some (vR 2)] [] (LW W z f) = xnG call 90 F 15 [some (vR 20), some (vR 2)] [vI 144, vI 0, vR 22, vI 0, vR 4] (LW W z f) := rfl
set_option maxRecDepth 100000 in
theorem bt2_90_4 (call : QC FA) (ls : List (Option PV)) (z : Nat → Int32) (f : Nat → FA) (F : Nat) : xnG call 90 (F + 1) 15 ls [vI 144, vI 0, vR 22, vI 0, vR 4] (LW W z f) = bif (Nat.beq 0 0 && (Nat.beq 0 0 && (pcmp 3 0 0 && (pcmp 3 0 0 && (pcmp 3 144 0 && (Nat.ble (ix 0 + ix 144) 144 && (Nat.ble (ix 0 + ix 144) 144 && Nat.ble 0 8))))))) then xnG call 90 F 16 ls [] (LW W z (uA f 22 (va_cpy (f 4) (f 22) (ix 0) (ix 0) (ix 144)))) else none := rfl
set_option maxRecDepth 100000 in
theorem bt2_90_5 (call : QC FA) (z : Nat → Int32) (f : Nat → FA) (F : Nat) : xnG call 90 (F + 3) 16 [some (vR 20), some (vR 2)] [] (LW W z f) = xnG call 90 F 19 [some (vR 20), some (vR 2)] [vI (z 22), vR 20] (LW W z f) := rfl
set_option maxRecDepth 100000 in
theorem bt2_90_6 (call : QC FA) (y : Int32) (ls : List (Option PV)) (z : Nat → Int32) (f : Nat → FA) (F : Nat) : xnG call 90 (F + 1) 19 ls [vI y, vR 20] (LW W z f) = xnG call 90 F 20 ls [] (LW W (uZ z 202 y) f) := rfl
set_option maxRecDepth 100000 in
theorem bt2_90_7 (call : QC FA) (z : Nat → Int32) (f : Nat → FA) (F : Nat) : xnG call 90 (F + 3) 20 [some (vR 20), some (vR 2)] [] (LW W z f) = xnG call 90 F 23 [some (vR 20), some (vR 2)] [vI (z 23), vR 20] (LW W z f) := rfl
set_option maxRecDepth 100000 in
theorem bt2_90_8 (call : QC FA) (y : Int32) (ls : List (Option PV)) (z : Nat → Int32) (f : Nat → FA) (F : Nat) : xnG call 90 (F + 1) 23 ls [vI y, vR 20] (LW W z f) = xnG call 90 F 24 ls [] (LW W (uZ z 203 y) f) := rfl
set_option maxRecDepth 100000 in
theorem bt2_90_9 (call : QC FA) (z : Nat → Int32) (f : Nat → FA) (F : Nat) : xnG call 90 (F + 3) 24 [some (vR 20), some (vR 2)] [] (LW W z f) = xnG call 90 F 27 [some (vR 20), some (vR 2)] [vI (z 24), vR 20] (LW W z f) := rfl
set_option maxRecDepth 100000 in
theorem bt2_90_10 (call : QC FA) (y : Int32) (ls : List (Option PV)) (z : Nat → Int32) (f : Nat → FA) (F : Nat) : xnG call 90 (F + 1) 27 ls [vI y, vR 20] (LW W z f) = xnG call 90 F 28 ls [] (LW W (uZ z 204 y) f) := rfl
set_option maxRecDepth 100000 in
theorem bt2_90_11 (call : QC FA) (z : Nat → Int32) (f : Nat → FA) (F : Nat) : xnG call 90 (F + 3) 28 [some (vR 20), some (vR 2)] [] (LW W z f) = xnG call 90 F 31 [some (vR 20), some (vR 2)] [vI (z 25), vR 20] (LW W z f) := rfl
set_option maxRecDepth 100000 in
theorem bt2_90_12 (call : QC FA) (y : Int32) (ls : List (Option PV)) (z : Nat → Int32) (f : Nat → FA) (F : Nat) : xnG call 90 (F + 1) 31 ls [vI y, vR 20] (LW W z f) = xnG call 90 F 32 ls [] (LW W (uZ z 205 y) f) := rfl
set_option maxRecDepth 100000 in
theorem bt2_90_13 (call : QC FA) (z : Nat → Int32) (f : Nat → FA) (F : Nat) : xnG call 90 (F + 3) 32 [some (vR 20), some (vR 2)] [] (LW W z f) = xnG call 90 F 35 [some (vR 20), some (vR 2)] [vI (z 26), vR 20] (LW W z f) := rfl
set_option maxRecDepth 100000 in
theorem bt2_90_14 (call : QC FA) (y : Int32) (ls : List (Option PV)) (z : Nat → Int32) (f : Nat → FA) (F : Nat) : xnG call 90 (F + 1) 35 ls [vI y, vR 20] (LW W z f) = xnG call 90 F 36 ls [] (LW W (uZ z 206 y) f) := rfl
set_option maxRecDepth 100000 in
theorem bt2_90_15 (call : QC FA) (z : Nat → Int32) (f : Nat → FA) (F : Nat) : xnG call 90 (F + 3) 36 [some (vR 20), some (vR 2)] [] (LW W z f) = xnG call 90 F 39 [some (vR 20), some (vR 2)] [vI (z 27), vR 20] (LW W z f) := rfl
set_option maxRecDepth 100000 in
theorem bt2_90_16 (call : QC FA) (y : Int32) (ls : List (Option PV)) (z : Nat → Int32) (f : Nat → FA) (F : Nat) : xnG call 90 (F + 1) 39 ls [vI y, vR 20] (LW W z f) = xnG call 90 F 40 ls [] (LW W (uZ z 207 y) f) := rfl
set_option maxRecDepth 100000 in
theorem bt2_90_17 (call : QC FA) (z : Nat → Int32) (f : Nat → FA) (F : Nat) : xnG call 90 (F + 3) 40 [some (vR 20), some (vR 2)] [] (LW W z f) = xnG call 90 F 43 [some (vR 20), some (vR 2)] [vI (z 28), vR 20] (LW W z f) := rfl
set_option maxRecDepth 100000 in
theorem bt2_90_18 (call : QC FA) (y : Int32) (ls : List (Option PV)) (z : Nat → Int32) (f : Nat → FA) (F : Nat) : xnG call 90 (F + 1) 43 ls [vI y, vR 20] (LW W z f) = xnG call 90 F 44 ls [] (LW W (uZ z 208 y) f) := rfl
set_option maxRecDepth 100000 in
theorem bt2_90_19 (call : QC FA) (z : Nat → Int32) (f : Nat → FA) (F : Nat) : xnG call 90 (F + 3) 44 [some (vR 20), some (vR 2)] [] (LW W z f) = xnG call 90 F 47 [some (vR 20), some (vR 2)] [vI (z 29), vR 20] (LW W z f) := rfl
set_option maxRecDepth 100000 in
theorem bt2_90_20 (call : QC FA) (y : Int32) (ls : List (Option PV)) (z : Nat → Int32) (f : Nat → FA) (F : Nat) : xnG call 90 (F + 1) 47 ls [vI y, vR 20] (LW W z f) = xnG call 90 F 48 ls [] (LW W (uZ z 209 y) f) := rfl
set_option maxRecDepth 100000 in
theorem bt2_90_21 (call : QC FA) (ls : List (Option PV)) (L : QH FA) (F : Nat) : xnG call 90 (F + 1) 48 ls [] L = some (none, L) := rfl
theorem vct2_90_0 (call : QC FA) (z : Nat → Int32) (f : Nat → FA) (res : Option PV × QH FA) (H : res = (none, LW W (uZ (uZ (uZ (uZ (uZ (uZ (uZ (uZ z 202 (z 22)) 203 (z 23)) 204 (z 24)) 205 (z 25)) 206 (z 26)) 207 (z 27)) 208 (z 28)) 209 (z 29)) (uA (uA f 21 (cpW (f 3) (f 21) 120)) 22 (cpW (f 4) (f 22) 144)))) : XC call (mP 90) 0 [some (vR 20), some (vR 2)] [] (LW W z f) res := by
  refine xc_b (i' := 7) (ls' := [some (vR 20), some (vR 2)]) (st' := [vI 120, vI 0, vR 21, vI 0, vR 3]) (L' := LW W z f) 7 (bt2_90_1 call z f) ?_
  refine xc_g (i' := 8) (ls' := [some (vR 20), some (vR 2)]) (st' := []) (L' := LW W z (uA f 21 (va_cpy (f 3) (f 21) (ix 0) (ix 0) (ix 120)))) (bt2_90_2 call _ z f) (by decide) ?_
  rw [cpW_e (f := f 3) (g := f 21) (a := 0) (b := 0) (n := 120) (N := 120) (by decide) (by decide) (by decide)]
  show XC call (mP 90) 8 [some (vR 20), some (vR 2)] [] (LW W z (uA f 21 (cpW (f 3) (f 21) 120))) res
  refine xc_b (i' := 15) (ls' := [some (vR 20), some (vR 2)]) (st' := [vI 144, vI 0, vR 22, vI 0, vR 4]) (L' := LW W z (uA f 21 (cpW (f 3) (f 21) 120))) 7 (bt2_90_3 call z (uA f 21 (cpW (f 3) (f 21) 120))) ?_
  refine xc_g (i' := 16) (ls' := [some (vR 20), some (vR 2)]) (st' := []) (L' := LW W z (uA (uA f 21 (cpW (f 3) (f 21) 120)) 22 (va_cpy ((uA f 21 (cpW (f 3) (f 21) 120)) 4) ((uA f 21 (cpW (f 3) (f 21) 120)) 22) (ix 0) (ix 0) (ix 144)))) (bt2_90_4 call _ z (uA f 21 (cpW (f 3) (f 21) 120))) (by decide) ?_
  rw [cpW_e (f := (uA f 21 (cpW (f 3) (f 21) 120)) 4) (g := (uA f 21 (cpW (f 3) (f 21) 120)) 22) (a := 0) (b := 0) (n := 144) (N := 144) (by decide) (by decide) (by decide)]
  show XC call (mP 90) 16 [some (vR 20), some (vR 2)] [] (LW W z (uA (uA f 21 (cpW (f 3) (f 21) 120)) 22 (cpW (f 4) (f 22) 144))) res
  refine xc_b (i' := 19) (ls' := [some (vR 20), some (vR 2)]) (st' := [vI (z 22), vR 20]) (L' := LW W z (uA (uA f 21 (cpW (f 3) (f 21) 120)) 22 (cpW (f 4) (f 22) 144))) 3 (bt2_90_5 call z (uA (uA f 21 (cpW (f 3) (f 21) 120)) 22 (cpW (f 4) (f 22) 144))) ?_
  refine xc_b (i' := 20) (ls' := [some (vR 20), some (vR 2)]) (st' := []) (L' := LW W (uZ z 202 (z 22)) (uA (uA f 21 (cpW (f 3) (f 21) 120)) 22 (cpW (f 4) (f 22) 144))) 1 (bt2_90_6 call (z 22) _ z (uA (uA f 21 (cpW (f 3) (f 21) 120)) 22 (cpW (f 4) (f 22) 144))) ?_
  refine xc_b (i' := 23) (ls' := [some (vR 20), some (vR 2)]) (st' := [vI (z 23), vR 20]) (L' := LW W (uZ z 202 (z 22)) (uA (uA f 21 (cpW (f 3) (f 21) 120)) 22 (cpW (f 4) (f 22) 144))) 3 (bt2_90_7 call (uZ z 202 (z 22)) (uA (uA f 21 (cpW (f 3) (f 21) 120)) 22 (cpW (f 4) (f 22) 144))) ?_
  refine xc_b (i' := 24) (ls' := [some (vR 20), some (vR 2)]) (st' := []) (L' := LW W (uZ (uZ z 202 (z 22)) 203 (z 23)) (uA (uA f 21 (cpW (f 3) (f 21) 120)) 22 (cpW (f 4) (f 22) 144))) 1 (bt2_90_8 call (z 23) _ (uZ z 202 (z 22)) (uA (uA f 21 (cpW (f 3) (f 21) 120)) 22 (cpW (f 4) (f 22) 144))) ?_
  refine xc_b (i' := 27) (ls' := [some (vR 20), some (vR 2)]) (st' := [vI (z 24), vR 20]) (L' := LW W (uZ (uZ z 202 (z 22)) 203 (z 23)) (uA (uA f 21 (cpW (f 3) (f 21) 120)) 22 (cpW (f 4) (f 22) 144))) 3 (bt2_90_9 call (uZ (uZ z 202 (z 22)) 203 (z 23)) (uA (uA f 21 (cpW (f 3) (f 21) 120)) 22 (cpW (f 4) (f 22) 144))) ?_
  refine xc_b (i' := 28) (ls' := [some (vR 20), some (vR 2)]) (st' := []) (L' := LW W (uZ (uZ (uZ z 202 (z 22)) 203 (z 23)) 204 (z 24)) (uA (uA f 21 (cpW (f 3) (f 21) 120)) 22 (cpW (f 4) (f 22) 144))) 1 (bt2_90_10 call (z 24) _ (uZ (uZ z 202 (z 22)) 203 (z 23)) (uA (uA f 21 (cpW (f 3) (f 21) 120)) 22 (cpW (f 4) (f 22) 144))) ?_
  refine xc_b (i' := 31) (ls' := [some (vR 20), some (vR 2)]) (st' := [vI (z 25), vR 20]) (L' := LW W (uZ (uZ (uZ z 202 (z 22)) 203 (z 23)) 204 (z 24)) (uA (uA f 21 (cpW (f 3) (f 21) 120)) 22 (cpW (f 4) (f 22) 144))) 3 (bt2_90_11 call (uZ (uZ (uZ z 202 (z 22)) 203 (z 23)) 204 (z 24)) (uA (uA f 21 (cpW (f 3) (f 21) 120)) 22 (cpW (f 4) (f 22) 144))) ?_
  refine xc_b (i' := 32) (ls' := [some (vR 20), some (vR 2)]) (st' := []) (L' := LW W (uZ (uZ (uZ (uZ z 202 (z 22)) 203 (z 23)) 204 (z 24)) 205 (z 25)) (uA (uA f 21 (cpW (f 3) (f 21) 120)) 22 (cpW (f 4) (f 22) 144))) 1 (bt2_90_12 call (z 25) _ (uZ (uZ (uZ z 202 (z 22)) 203 (z 23)) 204 (z 24)) (uA (uA f 21 (cpW (f 3) (f 21) 120)) 22 (cpW (f 4) (f 22) 144))) ?_
  refine xc_b (i' := 35) (ls' := [some (vR 20), some (vR 2)]) (st' := [vI (z 26), vR 20]) (L' := LW W (uZ (uZ (uZ (uZ z 202 (z 22)) 203 (z 23)) 204 (z 24)) 205 (z 25)) (uA (uA f 21 (cpW (f 3) (f 21) 120)) 22 (cpW (f 4) (f 22) 144))) 3 (bt2_90_13 call (uZ (uZ (uZ (uZ z 202 (z 22)) 203 (z 23)) 204 (z 24)) 205 (z 25)) (uA (uA f 21 (cpW (f 3) (f 21) 120)) 22 (cpW (f 4) (f 22) 144))) ?_
  refine xc_b (i' := 36) (ls' := [some (vR 20), some (vR 2)]) (st' := []) (L' := LW W (uZ (uZ (uZ (uZ (uZ z 202 (z 22)) 203 (z 23)) 204 (z 24)) 205 (z 25)) 206 (z 26)) (uA (uA f 21 (cpW (f 3) (f 21) 120)) 22 (cpW (f 4) (f 22) 144))) 1 (bt2_90_14 call (z 26) _ (uZ (uZ (uZ (uZ z 202 (z 22)) 203 (z 23)) 204 (z 24)) 205 (z 25)) (uA (uA f 21 (cpW (f 3) (f 21) 120)) 22 (cpW (f 4) (f 22) 144))) ?_
  refine xc_b (i' := 39) (ls' := [some (vR 20), some (vR 2)]) (st' := [vI (z 27), vR 20]) (L' := LW W (uZ (uZ (uZ (uZ (uZ z 202 (z 22)) 203 (z 23)) 204 (z 24)) 205 (z 25)) 206 (z 26)) (uA (uA f 21 (cpW (f 3) (f 21) 120)) 22 (cpW (f 4) (f 22) 144))) 3 (bt2_90_15 call (uZ (uZ (uZ (uZ (uZ z 202 (z 22)) 203 (z 23)) 204 (z 24)) 205 (z 25)) 206 (z 26)) (uA (uA f 21 (cpW (f 3) (f 21) 120)) 22 (cpW (f 4) (f 22) 144))) ?_
  refine xc_b (i' := 40) (ls' := [some (vR 20), some (vR 2)]) (st' := []) (L' := LW W (uZ (uZ (uZ (uZ (uZ (uZ z 202 (z 22)) 203 (z 23)) 204 (z 24)) 205 (z 25)) 206 (z 26)) 207 (z 27)) (uA (uA f 21 (cpW (f 3) (f 21) 120)) 22 (cpW (f 4) (f 22) 144))) 1 (bt2_90_16 call (z 27) _ (uZ (uZ (uZ (uZ (uZ z 202 (z 22)) 203 (z 23)) 204 (z 24)) 205 (z 25)) 206 (z 26)) (uA (uA f 21 (cpW (f 3) (f 21) 120)) 22 (cpW (f 4) (f 22) 144))) ?_
  refine xc_b (i' := 43) (ls' := [some (vR 20), some (vR 2)]) (st' := [vI (z 28), vR 20]) (L' := LW W (uZ (uZ (uZ (uZ (uZ (uZ z 202 (z 22)) 203 (z 23)) 204 (z 24)) 205 (z 25)) 206 (z 26)) 207 (z 27)) (uA (uA f 21 (cpW (f 3) (f 21) 120)) 22 (cpW (f 4) (f 22) 144))) 3 (bt2_90_17 call (uZ (uZ (uZ (uZ (uZ (uZ z 202 (z 22)) 203 (z 23)) 204 (z 24)) 205 (z 25)) 206 (z 26)) 207 (z 27)) (uA (uA f 21 (cpW (f 3) (f 21) 120)) 22 (cpW (f 4) (f 22) 144))) ?_
  refine xc_b (i' := 44) (ls' := [some (vR 20), some (vR 2)]) (st' := []) (L' := LW W (uZ (uZ (uZ (uZ (uZ (uZ (uZ z 202 (z 22)) 203 (z 23)) 204 (z 24)) 205 (z 25)) 206 (z 26)) 207 (z 27)) 208 (z 28)) (uA (uA f 21 (cpW (f 3) (f 21) 120)) 22 (cpW (f 4) (f 22) 144))) 1 (bt2_90_18 call (z 28) _ (uZ (uZ (uZ (uZ (uZ (uZ z 202 (z 22)) 203 (z 23)) 204 (z 24)) 205 (z 25)) 206 (z 26)) 207 (z 27)) (uA (uA f 21 (cpW (f 3) (f 21) 120)) 22 (cpW (f 4) (f 22) 144))) ?_
  refine xc_b (i' := 47) (ls' := [some (vR 20), some (vR 2)]) (st' := [vI (z 29), vR 20]) (L' := LW W (uZ (uZ (uZ (uZ (uZ (uZ (uZ z 202 (z 22)) 203 (z 23)) 204 (z 24)) 205 (z 25)) 206 (z 26)) 207 (z 27)) 208 (z 28)) (uA (uA f 21 (cpW (f 3) (f 21) 120)) 22 (cpW (f 4) (f 22) 144))) 3 (bt2_90_19 call (uZ (uZ (uZ (uZ (uZ (uZ (uZ z 202 (z 22)) 203 (z 23)) 204 (z 24)) 205 (z 25)) 206 (z 26)) 207 (z 27)) 208 (z 28)) (uA (uA f 21 (cpW (f 3) (f 21) 120)) 22 (cpW (f 4) (f 22) 144))) ?_
  refine xc_b (i' := 48) (ls' := [some (vR 20), some (vR 2)]) (st' := []) (L' := LW W (uZ (uZ (uZ (uZ (uZ (uZ (uZ (uZ z 202 (z 22)) 203 (z 23)) 204 (z 24)) 205 (z 25)) 206 (z 26)) 207 (z 27)) 208 (z 28)) 209 (z 29)) (uA (uA f 21 (cpW (f 3) (f 21) 120)) 22 (cpW (f 4) (f 22) 144))) 1 (bt2_90_20 call (z 29) _ (uZ (uZ (uZ (uZ (uZ (uZ (uZ z 202 (z 22)) 203 (z 23)) 204 (z 24)) 205 (z 25)) 206 (z 26)) 207 (z 27)) 208 (z 28)) (uA (uA f 21 (cpW (f 3) (f 21) 120)) 22 (cpW (f 4) (f 22) 144))) ?_
  subst H
  exact xc_ret (bt2_90_21 call _ _)
set_option maxRecDepth 100000 in
theorem br2_90_1 (call : QC FA) (z : Nat → Int32) (f : Nat → FA) (F : Nat) : xnG call 90 (F + 7) 0 [some (vR 2), some (vR 20)] [] (LW W z f) = xnG call 90 F 7 [some (vR 2), some (vR 20)] [vI 120, vI 0, vR 3, vI 0, vR 21] (LW W z f) := rfl
set_option maxRecDepth 100000 in
theorem br2_90_2 (call : QC FA) (ls : List (Option PV)) (z : Nat → Int32) (f : Nat → FA) (F : Nat) : xnG call 90 (F + 1) 7 ls [vI 120, vI 0, vR 3, vI 0, vR 21] (LW W z f) = bif (Nat.beq 0 0 && (Nat.beq 0 0 && (pcmp 3 0 0 && (pcmp 3 0 0 && (pcmp 3 120 0 && (Nat.ble (ix 0 + ix 120) 120 && (Nat.ble (ix 0 + ix 120) 120 && Nat.ble 0 8))))))) then xnG call 90 F 8 ls [] (LW W z (uA f 3 (va_cpy (f 21) (f 3) (ix 0) (ix 0) (ix 120)))) else none := rfl
set_option maxRecDepth 100000 in
theorem br2_90_3 (call : QC FA) (z : Nat → Int32) (f : Nat → FA) (F : Nat) : xnG call 90 (F + 7) 8 [some (vR 2), some (vR 20)] [] (LW W z f) = xnG call 90 F 15 [some (vR 2), some (vR 20)] [vI 144, vI 0, vR 4, vI 0, vR 22] (LW W z f) := rfl
set_option maxRecDepth 100000 in
theorem br2_90_4 (call : QC FA) (ls : List (Option PV)) (z : Nat → Int32) (f : Nat → FA) (F : Nat) : xnG call 90 (F + 1) 15 ls [vI 144, vI 0, vR 4, vI 0, vR 22] (LW W z f) = bif (Nat.beq 0 0 && (Nat.beq 0 0 && (pcmp 3 0 0 && (pcmp 3 0 0 && (pcmp 3 144 0 && (Nat.ble (ix 0 + ix 144) 144 && (Nat.ble (ix 0 + ix 144) 144 && Nat.ble 0 8))))))) then xnG call 90 F 16 ls [] (LW W z (uA f 4 (va_cpy (f 22) (f 4) (ix 0) (ix 0) (ix 144)))) else none := rfl
set_option maxRecDepth 100000 in
theorem br2_90_5 (call : QC FA) (z : Nat → Int32) (f : Nat → FA) (F : Nat) : xnG call 90 (F + 3) 16 [some (vR 2), some (vR 20)] [] (LW W z f) = xnG call 90 F 19 [some (vR 2), some (vR 20)] [vI (z 202), vR 2] (LW W z f) := rfl
set_option maxRecDepth 100000 in
theorem br2_90_6 (call : QC FA) (y : Int32) (ls : List (Option PV)) (z : Nat → Int32) (f : Nat → FA) (F : Nat) : xnG call 90 (F + 1) 19 ls [vI y, vR 2] (LW W z f) = xnG call 90 F 20 ls [] (LW W (uZ z 22 y) f) := rfl
set_option maxRecDepth 100000 in
theorem br2_90_7 (call : QC FA) (z : Nat → Int32) (f : Nat → FA) (F : Nat) : xnG call 90 (F + 3) 20 [some (vR 2), some (vR 20)] [] (LW W z f) = xnG call 90 F 23 [some (vR 2), some (vR 20)] [vI (z 203), vR 2] (LW W z f) := rfl
set_option maxRecDepth 100000 in
theorem br2_90_8 (call : QC FA) (y : Int32) (ls : List (Option PV)) (z : Nat → Int32) (f : Nat → FA) (F : Nat) : xnG call 90 (F + 1) 23 ls [vI y, vR 2] (LW W z f) = xnG call 90 F 24 ls [] (LW W (uZ z 23 y) f) := rfl
set_option maxRecDepth 100000 in
theorem br2_90_9 (call : QC FA) (z : Nat → Int32) (f : Nat → FA) (F : Nat) : xnG call 90 (F + 3) 24 [some (vR 2), some (vR 20)] [] (LW W z f) = xnG call 90 F 27 [some (vR 2), some (vR 20)] [vI (z 204), vR 2] (LW W z f) := rfl
set_option maxRecDepth 100000 in
theorem br2_90_10 (call : QC FA) (y : Int32) (ls : List (Option PV)) (z : Nat → Int32) (f : Nat → FA) (F : Nat) : xnG call 90 (F + 1) 27 ls [vI y, vR 2] (LW W z f) = xnG call 90 F 28 ls [] (LW W (uZ z 24 y) f) := rfl
set_option maxRecDepth 100000 in
theorem br2_90_11 (call : QC FA) (z : Nat → Int32) (f : Nat → FA) (F : Nat) : xnG call 90 (F + 3) 28 [some (vR 2), some (vR 20)] [] (LW W z f) = xnG call 90 F 31 [some (vR 2), some (vR 20)] [vI (z 205), vR 2] (LW W z f) := rfl
set_option maxRecDepth 100000 in
theorem br2_90_12 (call : QC FA) (y : Int32) (ls : List (Option PV)) (z : Nat → Int32) (f : Nat → FA) (F : Nat) : xnG call 90 (F + 1) 31 ls [vI y, vR 2] (LW W z f) = xnG call 90 F 32 ls [] (LW W (uZ z 25 y) f) := rfl
set_option maxRecDepth 100000 in
theorem br2_90_13 (call : QC FA) (z : Nat → Int32) (f : Nat → FA) (F : Nat) : xnG call 90 (F + 3) 32 [some (vR 2), some (vR 20)] [] (LW W z f) = xnG call 90 F 35 [some (vR 2), some (vR 20)] [vI (z 206), vR 2] (LW W z f) := rfl
set_option maxRecDepth 100000 in
theorem br2_90_14 (call : QC FA) (y : Int32) (ls : List (Option PV)) (z : Nat → Int32) (f : Nat → FA) (F : Nat) : xnG call 90 (F + 1) 35 ls [vI y, vR 2] (LW W z f) = xnG call 90 F 36 ls [] (LW W (uZ z 26 y) f) := rfl
set_option maxRecDepth 100000 in
theorem br2_90_15 (call : QC FA) (z : Nat → Int32) (f : Nat → FA) (F : Nat) : xnG call 90 (F + 3) 36 [some (vR 2), some (vR 20)] [] (LW W z f) = xnG call 90 F 39 [some (vR 2), some (vR 20)] [vI (z 207), vR 2] (LW W z f) := rfl
set_option maxRecDepth 100000 in
theorem br2_90_16 (call : QC FA) (y : Int32) (ls : List (Option PV)) (z : Nat → Int32) (f : Nat → FA) (F : Nat) : xnG call 90 (F + 1) 39 ls [vI y, vR 2] (LW W z f) = xnG call 90 F 40 ls [] (LW W (uZ z 27 y) f) := rfl
set_option maxRecDepth 100000 in
theorem br2_90_17 (call : QC FA) (z : Nat → Int32) (f : Nat → FA) (F : Nat) : xnG call 90 (F + 3) 40 [some (vR 2), some (vR 20)] [] (LW W z f) = xnG call 90 F 43 [some (vR 2), some (vR 20)] [vI (z 208), vR 2] (LW W z f) := rfl
set_option maxRecDepth 100000 in
theorem br2_90_18 (call : QC FA) (y : Int32) (ls : List (Option PV)) (z : Nat → Int32) (f : Nat → FA) (F : Nat) : xnG call 90 (F + 1) 43 ls [vI y, vR 2] (LW W z f) = xnG call 90 F 44 ls [] (LW W (uZ z 28 y) f) := rfl
set_option maxRecDepth 100000 in
theorem br2_90_19 (call : QC FA) (z : Nat → Int32) (f : Nat → FA) (F : Nat) : xnG call 90 (F + 3) 44 [some (vR 2), some (vR 20)] [] (LW W z f) = xnG call 90 F 47 [some (vR 2), some (vR 20)] [vI (z 209), vR 2] (LW W z f) := rfl
set_option maxRecDepth 100000 in
theorem br2_90_20 (call : QC FA) (y : Int32) (ls : List (Option PV)) (z : Nat → Int32) (f : Nat → FA) (F : Nat) : xnG call 90 (F + 1) 47 ls [vI y, vR 2] (LW W z f) = xnG call 90 F 48 ls [] (LW W (uZ z 29 y) f) := rfl
set_option maxRecDepth 100000 in
theorem br2_90_21 (call : QC FA) (ls : List (Option PV)) (L : QH FA) (F : Nat) : xnG call 90 (F + 1) 48 ls [] L = some (none, L) := rfl
theorem vcr2_90_0 (call : QC FA) (z : Nat → Int32) (f : Nat → FA) (res : Option PV × QH FA) (H : res = (none, LW W (uZ (uZ (uZ (uZ (uZ (uZ (uZ (uZ z 22 (z 202)) 23 (z 203)) 24 (z 204)) 25 (z 205)) 26 (z 206)) 27 (z 207)) 28 (z 208)) 29 (z 209)) (uA (uA f 3 (cpW (f 21) (f 3) 120)) 4 (cpW (f 22) (f 4) 144)))) : XC call (mP 90) 0 [some (vR 2), some (vR 20)] [] (LW W z f) res := by
  refine xc_b (i' := 7) (ls' := [some (vR 2), some (vR 20)]) (st' := [vI 120, vI 0, vR 3, vI 0, vR 21]) (L' := LW W z f) 7 (br2_90_1 call z f) ?_
  refine xc_g (i' := 8) (ls' := [some (vR 2), some (vR 20)]) (st' := []) (L' := LW W z (uA f 3 (va_cpy (f 21) (f 3) (ix 0) (ix 0) (ix 120)))) (br2_90_2 call _ z f) (by decide) ?_
  rw [cpW_e (f := f 21) (g := f 3) (a := 0) (b := 0) (n := 120) (N := 120) (by decide) (by decide) (by decide)]
  show XC call (mP 90) 8 [some (vR 2), some (vR 20)] [] (LW W z (uA f 3 (cpW (f 21) (f 3) 120))) res
  refine xc_b (i' := 15) (ls' := [some (vR 2), some (vR 20)]) (st' := [vI 144, vI 0, vR 4, vI 0, vR 22]) (L' := LW W z (uA f 3 (cpW (f 21) (f 3) 120))) 7 (br2_90_3 call z (uA f 3 (cpW (f 21) (f 3) 120))) ?_
  refine xc_g (i' := 16) (ls' := [some (vR 2), some (vR 20)]) (st' := []) (L' := LW W z (uA (uA f 3 (cpW (f 21) (f 3) 120)) 4 (va_cpy ((uA f 3 (cpW (f 21) (f 3) 120)) 22) ((uA f 3 (cpW (f 21) (f 3) 120)) 4) (ix 0) (ix 0) (ix 144)))) (br2_90_4 call _ z (uA f 3 (cpW (f 21) (f 3) 120))) (by decide) ?_
  rw [cpW_e (f := (uA f 3 (cpW (f 21) (f 3) 120)) 22) (g := (uA f 3 (cpW (f 21) (f 3) 120)) 4) (a := 0) (b := 0) (n := 144) (N := 144) (by decide) (by decide) (by decide)]
  show XC call (mP 90) 16 [some (vR 2), some (vR 20)] [] (LW W z (uA (uA f 3 (cpW (f 21) (f 3) 120)) 4 (cpW (f 22) (f 4) 144))) res
  refine xc_b (i' := 19) (ls' := [some (vR 2), some (vR 20)]) (st' := [vI (z 202), vR 2]) (L' := LW W z (uA (uA f 3 (cpW (f 21) (f 3) 120)) 4 (cpW (f 22) (f 4) 144))) 3 (br2_90_5 call z (uA (uA f 3 (cpW (f 21) (f 3) 120)) 4 (cpW (f 22) (f 4) 144))) ?_
  refine xc_b (i' := 20) (ls' := [some (vR 2), some (vR 20)]) (st' := []) (L' := LW W (uZ z 22 (z 202)) (uA (uA f 3 (cpW (f 21) (f 3) 120)) 4 (cpW (f 22) (f 4) 144))) 1 (br2_90_6 call (z 202) _ z (uA (uA f 3 (cpW (f 21) (f 3) 120)) 4 (cpW (f 22) (f 4) 144))) ?_
  refine xc_b (i' := 23) (ls' := [some (vR 2), some (vR 20)]) (st' := [vI (z 203), vR 2]) (L' := LW W (uZ z 22 (z 202)) (uA (uA f 3 (cpW (f 21) (f 3) 120)) 4 (cpW (f 22) (f 4) 144))) 3 (br2_90_7 call (uZ z 22 (z 202)) (uA (uA f 3 (cpW (f 21) (f 3) 120)) 4 (cpW (f 22) (f 4) 144))) ?_
  refine xc_b (i' := 24) (ls' := [some (vR 2), some (vR 20)]) (st' := []) (L' := LW W (uZ (uZ z 22 (z 202)) 23 (z 203)) (uA (uA f 3 (cpW (f 21) (f 3) 120)) 4 (cpW (f 22) (f 4) 144))) 1 (br2_90_8 call (z 203) _ (uZ z 22 (z 202)) (uA (uA f 3 (cpW (f 21) (f 3) 120)) 4 (cpW (f 22) (f 4) 144))) ?_
  refine xc_b (i' := 27) (ls' := [some (vR 2), some (vR 20)]) (st' := [vI (z 204), vR 2]) (L' := LW W (uZ (uZ z 22 (z 202)) 23 (z 203)) (uA (uA f 3 (cpW (f 21) (f 3) 120)) 4 (cpW (f 22) (f 4) 144))) 3 (br2_90_9 call (uZ (uZ z 22 (z 202)) 23 (z 203)) (uA (uA f 3 (cpW (f 21) (f 3) 120)) 4 (cpW (f 22) (f 4) 144))) ?_
  refine xc_b (i' := 28) (ls' := [some (vR 2), some (vR 20)]) (st' := []) (L' := LW W (uZ (uZ (uZ z 22 (z 202)) 23 (z 203)) 24 (z 204)) (uA (uA f 3 (cpW (f 21) (f 3) 120)) 4 (cpW (f 22) (f 4) 144))) 1 (br2_90_10 call (z 204) _ (uZ (uZ z 22 (z 202)) 23 (z 203)) (uA (uA f 3 (cpW (f 21) (f 3) 120)) 4 (cpW (f 22) (f 4) 144))) ?_
  refine xc_b (i' := 31) (ls' := [some (vR 2), some (vR 20)]) (st' := [vI (z 205), vR 2]) (L' := LW W (uZ (uZ (uZ z 22 (z 202)) 23 (z 203)) 24 (z 204)) (uA (uA f 3 (cpW (f 21) (f 3) 120)) 4 (cpW (f 22) (f 4) 144))) 3 (br2_90_11 call (uZ (uZ (uZ z 22 (z 202)) 23 (z 203)) 24 (z 204)) (uA (uA f 3 (cpW (f 21) (f 3) 120)) 4 (cpW (f 22) (f 4) 144))) ?_
  refine xc_b (i' := 32) (ls' := [some (vR 2), some (vR 20)]) (st' := []) (L' := LW W (uZ (uZ (uZ (uZ z 22 (z 202)) 23 (z 203)) 24 (z 204)) 25 (z 205)) (uA (uA f 3 (cpW (f 21) (f 3) 120)) 4 (cpW (f 22) (f 4) 144))) 1 (br2_90_12 call (z 205) _ (uZ (uZ (uZ z 22 (z 202)) 23 (z 203)) 24 (z 204)) (uA (uA f 3 (cpW (f 21) (f 3) 120)) 4 (cpW (f 22) (f 4) 144))) ?_
  refine xc_b (i' := 35) (ls' := [some (vR 2), some (vR 20)]) (st' := [vI (z 206), vR 2]) (L' := LW W (uZ (uZ (uZ (uZ z 22 (z 202)) 23 (z 203)) 24 (z 204)) 25 (z 205)) (uA (uA f 3 (cpW (f 21) (f 3) 120)) 4 (cpW (f 22) (f 4) 144))) 3 (br2_90_13 call (uZ (uZ (uZ (uZ z 22 (z 202)) 23 (z 203)) 24 (z 204)) 25 (z 205)) (uA (uA f 3 (cpW (f 21) (f 3) 120)) 4 (cpW (f 22) (f 4) 144))) ?_
  refine xc_b (i' := 36) (ls' := [some (vR 2), some (vR 20)]) (st' := []) (L' := LW W (uZ (uZ (uZ (uZ (uZ z 22 (z 202)) 23 (z 203)) 24 (z 204)) 25 (z 205)) 26 (z 206)) (uA (uA f 3 (cpW (f 21) (f 3) 120)) 4 (cpW (f 22) (f 4) 144))) 1 (br2_90_14 call (z 206) _ (uZ (uZ (uZ (uZ z 22 (z 202)) 23 (z 203)) 24 (z 204)) 25 (z 205)) (uA (uA f 3 (cpW (f 21) (f 3) 120)) 4 (cpW (f 22) (f 4) 144))) ?_
  refine xc_b (i' := 39) (ls' := [some (vR 2), some (vR 20)]) (st' := [vI (z 207), vR 2]) (L' := LW W (uZ (uZ (uZ (uZ (uZ z 22 (z 202)) 23 (z 203)) 24 (z 204)) 25 (z 205)) 26 (z 206)) (uA (uA f 3 (cpW (f 21) (f 3) 120)) 4 (cpW (f 22) (f 4) 144))) 3 (br2_90_15 call (uZ (uZ (uZ (uZ (uZ z 22 (z 202)) 23 (z 203)) 24 (z 204)) 25 (z 205)) 26 (z 206)) (uA (uA f 3 (cpW (f 21) (f 3) 120)) 4 (cpW (f 22) (f 4) 144))) ?_
  refine xc_b (i' := 40) (ls' := [some (vR 2), some (vR 20)]) (st' := []) (L' := LW W (uZ (uZ (uZ (uZ (uZ (uZ z 22 (z 202)) 23 (z 203)) 24 (z 204)) 25 (z 205)) 26 (z 206)) 27 (z 207)) (uA (uA f 3 (cpW (f 21) (f 3) 120)) 4 (cpW (f 22) (f 4) 144))) 1 (br2_90_16 call (z 207) _ (uZ (uZ (uZ (uZ (uZ z 22 (z 202)) 23 (z 203)) 24 (z 204)) 25 (z 205)) 26 (z 206)) (uA (uA f 3 (cpW (f 21) (f 3) 120)) 4 (cpW (f 22) (f 4) 144))) ?_
  refine xc_b (i' := 43) (ls' := [some (vR 2), some (vR 20)]) (st' := [vI (z 208), vR 2]) (L' := LW W (uZ (uZ (uZ (uZ (uZ (uZ z 22 (z 202)) 23 (z 203)) 24 (z 204)) 25 (z 205)) 26 (z 206)) 27 (z 207)) (uA (uA f 3 (cpW (f 21) (f 3) 120)) 4 (cpW (f 22) (f 4) 144))) 3 (br2_90_17 call (uZ (uZ (uZ (uZ (uZ (uZ z 22 (z 202)) 23 (z 203)) 24 (z 204)) 25 (z 205)) 26 (z 206)) 27 (z 207)) (uA (uA f 3 (cpW (f 21) (f 3) 120)) 4 (cpW (f 22) (f 4) 144))) ?_
  refine xc_b (i' := 44) (ls' := [some (vR 2), some (vR 20)]) (st' := []) (L' := LW W (uZ (uZ (uZ (uZ (uZ (uZ (uZ z 22 (z 202)) 23 (z 203)) 24 (z 204)) 25 (z 205)) 26 (z 206)) 27 (z 207)) 28 (z 208)) (uA (uA f 3 (cpW (f 21) (f 3) 120)) 4 (cpW (f 22) (f 4) 144))) 1 (br2_90_18 call (z 208) _ (uZ (uZ (uZ (uZ (uZ (uZ z 22 (z 202)) 23 (z 203)) 24 (z 204)) 25 (z 205)) 26 (z 206)) 27 (z 207)) (uA (uA f 3 (cpW (f 21) (f 3) 120)) 4 (cpW (f 22) (f 4) 144))) ?_
  refine xc_b (i' := 47) (ls' := [some (vR 2), some (vR 20)]) (st' := [vI (z 209), vR 2]) (L' := LW W (uZ (uZ (uZ (uZ (uZ (uZ (uZ z 22 (z 202)) 23 (z 203)) 24 (z 204)) 25 (z 205)) 26 (z 206)) 27 (z 207)) 28 (z 208)) (uA (uA f 3 (cpW (f 21) (f 3) 120)) 4 (cpW (f 22) (f 4) 144))) 3 (br2_90_19 call (uZ (uZ (uZ (uZ (uZ (uZ (uZ z 22 (z 202)) 23 (z 203)) 24 (z 204)) 25 (z 205)) 26 (z 206)) 27 (z 207)) 28 (z 208)) (uA (uA f 3 (cpW (f 21) (f 3) 120)) 4 (cpW (f 22) (f 4) 144))) ?_
  refine xc_b (i' := 48) (ls' := [some (vR 2), some (vR 20)]) (st' := []) (L' := LW W (uZ (uZ (uZ (uZ (uZ (uZ (uZ (uZ z 22 (z 202)) 23 (z 203)) 24 (z 204)) 25 (z 205)) 26 (z 206)) 27 (z 207)) 28 (z 208)) 29 (z 209)) (uA (uA f 3 (cpW (f 21) (f 3) 120)) 4 (cpW (f 22) (f 4) 144))) 1 (br2_90_20 call (z 209) _ (uZ (uZ (uZ (uZ (uZ (uZ (uZ z 22 (z 202)) 23 (z 203)) 24 (z 204)) 25 (z 205)) 26 (z 206)) 27 (z 207)) 28 (z 208)) (uA (uA f 3 (cpW (f 21) (f 3) 120)) 4 (cpW (f 22) (f 4) 144))) ?_
  subst H
  exact xc_ret (br2_90_21 call _ _)
set_option maxRecDepth 100000 in
theorem bk2_141_1 (call : QC FA) (z : Nat → Int32) (f : Nat → FA) (F : Nat) : xnG call 141 (F + 2) 0 [some (vR 12), some (vR 2)] [] (LW W z f) = xnG call 141 F 2 [some (vR 12), some (vR 2)] [vI (z 122)] (LW W z f) := rfl
set_option maxRecDepth 100000 in
theorem bk2_141_2 (call : QC FA) (x : Int32) (ls : List (Option PV)) (L : QH FA) (F : Nat) : xnG call 141 (F + 1) 2 ls [vI x] L = bif pcmp 2 x 0 then xnG call 141 F 7 ls [] L else xnG call 141 F 3 ls [] L := rfl
set_option maxRecDepth 100000 in
theorem bk2_141_3 (call : QC FA) (z : Nat → Int32) (f : Nat → FA) (F : Nat) : xnG call 141 (F + 3) 3 [some (vR 12), some (vR 2)] [] (LW W z f) = xnG call 141 F 6 [some (vR 12), some (vR 2)] [vI 6, vI (z 122)] (LW W z f) := rfl
set_option maxRecDepth 100000 in
theorem bk2_141_4 (call : QC FA) (x y : Int32) (ls : List (Option PV)) (L : QH FA) (F : Nat) : xnG call 141 (F + 1) 6 ls [vI y, vI x] L = bif pcmp 2 x y then xnG call 141 F 8 ls [] L else xnG call 141 F 7 ls [] L := rfl
set_option maxRecDepth 100000 in
theorem bk2_141_5 (call : QC FA) (z : Nat → Int32) (f : Nat → FA) (F : Nat) : xnG call 141 (F + 4) 8 [some (vR 12), some (vR 2)] [] (LW W z f) = xnG call 141 F 12 [some (vR 12), some (vR 2)] [vI (z 122), vR 13] (LW W z f) := rfl
set_option maxRecDepth 100000 in
theorem bk2_141_6 (call : QC FA) (ls : List (Option PV)) (z : Nat → Int32) (f : Nat → FA) (F : Nat) : xnG call 141 (F + 1) 12 ls [vI 2, vR 13] (LW W z f) = bif ((Nat.beq 1 1 || (Nat.beq 1 2 || Nat.beq 1 3)) && pin 2 6) then xnG call 141 F 13 ls [.inr (.inl (rgW (ix 2)))] (LW W z f) else none := rfl
set_option maxRecDepth 100000 in
theorem bk2_141_7 (call : QC FA) (L : QH FA) (F : Nat) : xnG call 141 (F + 1) 13 [some (vR 12), some (vR 2)] [vR 20] L = xnG call 141 F 14 [some (vR 12), some (vR 2)] [vR 2, vR 20] L := rfl
set_option maxRecDepth 100000 in
theorem bk2_141_8 (call : QC FA) (ls : List (Option PV)) (z : Nat → Int32) (f : Nat → FA) (F : Nat) : xnG call 141 (F + 1) 14 ls [vR 2, vR 20] (LW W z f) = cbd (call 90 [vR 20, vR 2] (LW W z f)) (fun r L' => xnG call 141 F 15 ls (r.toList ++ []) L') := pcY (ih := xnG call 141 F) (call := call) (a := 90) (b := 1) (v := 0) (t := 15) (x := 20) (ls := ls) (As := [vR 2]) (st' := []) (L := LW W z f) rfl rfl rfl
set_option maxRecDepth 100000 in
theorem bk2_141_9 (call : QC FA) (z : Nat → Int32) (f : Nat → FA) (F : Nat) : xnG call 141 (F + 6) 15 [some (vR 12), some (vR 2)] [] (LW W z f) = xnG call 141 F 21 [some (vR 12), some (vR 2)] [vI 6, vI ((z 122) + 1), vR 12] (LW W z f) := rfl
set_option maxRecDepth 100000 in
theorem bk2_141_10 (call : QC FA) (x y : Int32) (ls : List (Option PV)) (L : QH FA) (F : Nat) : xnG call 141 (F + 1) 21 ls [vI y, vI x, vR 12] L = bif pcmp 3 x y then xnG call 141 F 27 ls [vR 12] L else xnG call 141 F 22 ls [vR 12] L := rfl
set_option maxRecDepth 100000 in
theorem bk2_141_11 (call : QC FA) (L : QH FA) (F : Nat) : xnG call 141 (F + 1) 27 [some (vR 12), some (vR 2)] [vR 12] L = xnG call 141 F 28 [some (vR 12), some (vR 2)] [vI 0, vR 12] L := rfl
set_option maxRecDepth 100000 in
theorem bk2_141_12 (call : QC FA) (y : Int32) (ls : List (Option PV)) (z : Nat → Int32) (f : Nat → FA) (F : Nat) : xnG call 141 (F + 1) 28 ls [vI y, vR 12] (LW W z f) = xnG call 141 F 29 ls [] (LW W (uZ z 122 y) f) := rfl
set_option maxRecDepth 100000 in
theorem bk2_141_13 (call : QC FA) (z : Nat → Int32) (f : Nat → FA) (F : Nat) : xnG call 141 (F + 6) 29 [some (vR 12), some (vR 2)] [] (LW W z f) = xnG call 141 F 35 [some (vR 12), some (vR 2)] [vI 6, vI ((z 123) + 1), vR 12] (LW W z f) := rfl
set_option maxRecDepth 100000 in
theorem bk2_141_14 (call : QC FA) (x y : Int32) (ls : List (Option PV)) (L : QH FA) (F : Nat) : xnG call 141 (F + 1) 35 ls [vI y, vI x, vR 12] L = bif pcmp 2 y x then xnG call 141 F 36 ls [vI y, vR 12] L else xnG call 141 F 36 ls [vI x, vR 12] L := pmn (xnG call 141 F) 36 x y ls [vR 12] L rfl
set_option maxRecDepth 100000 in
theorem bk2_141_15 (call : QC FA) (y : Int32) (ls : List (Option PV)) (z : Nat → Int32) (f : Nat → FA) (F : Nat) : xnG call 141 (F + 1) 36 ls [vI y, vR 12] (LW W z f) = xnG call 141 F 37 ls [] (LW W (uZ z 123 y) f) := rfl
set_option maxRecDepth 100000 in
theorem bk2_141_16 (call : QC FA) (ls : List (Option PV)) (L : QH FA) (F : Nat) : xnG call 141 (F + 1) 37 ls [] L = some (none, L) := rfl
set_option maxRecDepth 100000 in
theorem bk2_141_17 (call : QC FA) (z : Nat → Int32) (f : Nat → FA) (F : Nat) : xnG call 141 (F + 5) 22 [some (vR 12), some (vR 2)] [vR 12] (LW W z f) = xnG call 141 F 28 [some (vR 12), some (vR 2)] [vI ((z 122) + 1), vR 12] (LW W z f) := rfl
theorem vck2_141_0 (call : QC FA) (z : Nat → Int32) (f : Nat → FA) (res : Option PV × QH FA) (H : (∃ (z1 : Nat → Int32) (f1 : Nat → FA), call 90 [vR 20, vR 2] (LW W (uZ z 122 2) f) = some (none, LW W z1 f1) ∧ ((6 ≤ I ((z1 122) + 1) → ((6 < I ((z1 123) + 1) → res = (none, LW W (uZ (uZ z1 122 0) 123 6) f1)) ∧ (I ((z1 123) + 1) ≤ 6 → res = (none, LW W (uZ (uZ z1 122 0) 123 ((z1 123) + 1)) f1)))) ∧ (I ((z1 122) + 1) < 6 → ((6 < I ((z1 123) + 1) → res = (none, LW W (uZ (uZ z1 122 ((z1 122) + 1)) 123 6) f1)) ∧ (I ((z1 123) + 1) ≤ 6 → res = (none, LW W (uZ (uZ z1 122 ((z1 122) + 1)) 123 ((z1 123) + 1)) f1))))))) : XC call (mP 141) 0 [some (vR 12), some (vR 2)] [] (LW W (uZ z 122 2) f) res := by
  refine xc_b (i' := 2) (ls' := [some (vR 12), some (vR 2)]) (st' := [vI 2]) (L' := LW W (uZ z 122 2) f) 2 (bk2_141_1 call (uZ z 122 2) f) ?_
  refine xc_f (it := 7) (ie := 3) (ls' := [some (vR 12), some (vR 2)]) (st' := []) (bk2_141_2 call 2 _ _) (by decide) ?_
  refine xc_b (i' := 6) (ls' := [some (vR 12), some (vR 2)]) (st' := [vI 6, vI 2]) (L' := LW W (uZ z 122 2) f) 3 (bk2_141_3 call (uZ z 122 2) f) ?_
  refine xc_t (it := 8) (ie := 7) (ls' := [some (vR 12), some (vR 2)]) (st' := []) (bk2_141_4 call 2 6 _ _) (by decide) ?_
  refine xc_b (i' := 12) (ls' := [some (vR 12), some (vR 2)]) (st' := [vI 2, vR 13]) (L' := LW W (uZ z 122 2) f) 4 (bk2_141_5 call (uZ z 122 2) f) ?_
  refine xc_g (i' := 13) (ls' := [some (vR 12), some (vR 2)]) (st' := [.inr (.inl (rgW (ix 2)))]) (L' := LW W (uZ z 122 2) f) (bk2_141_6 call _ (uZ z 122 2) f) (by decide) ?_
  show XC call (mP 141) 13 [some (vR 12), some (vR 2)] [vR 20] (LW W (uZ z 122 2) f) res
  refine xc_b (i' := 14) (ls' := [some (vR 12), some (vR 2)]) (st' := [vR 2, vR 20]) (L' := LW W (uZ z 122 2) f) 1 (bk2_141_7 call _) ?_
  obtain ⟨z1, f1, hc, H⟩ := H
  refine xc_call (t := 15) (ls' := [some (vR 12), some (vR 2)]) (st' := []) (bk2_141_8 call _ (uZ z 122 2) f) hc ?_
  show XC call (mP 141) 15 [some (vR 12), some (vR 2)] [] (LW W z1 f1) res
  refine xc_b (i' := 21) (ls' := [some (vR 12), some (vR 2)]) (st' := [vI 6, vI ((z1 122) + 1), vR 12]) (L' := LW W z1 f1) 6 (bk2_141_9 call z1 f1) ?_
  refine xc_if (it := 27) (ie := 22) (ls' := [some (vR 12), some (vR 2)]) (st' := [vR 12]) (bk2_141_10 call ((z1 122) + 1) 6 _ _) (fun q1 => ?_) (fun q1 => ?_)
  · have H := H.1 (cI3t q1 rfl rfl)
    refine xc_b (i' := 28) (ls' := [some (vR 12), some (vR 2)]) (st' := [vI 0, vR 12]) (L' := LW W z1 f1) 1 (bk2_141_11 call _) ?_
    refine xc_b (i' := 29) (ls' := [some (vR 12), some (vR 2)]) (st' := []) (L' := LW W (uZ z1 122 0) f1) 1 (bk2_141_12 call 0 _ z1 f1) ?_
    refine xc_b (i' := 35) (ls' := [some (vR 12), some (vR 2)]) (st' := [vI 6, vI ((z1 123) + 1), vR 12]) (L' := LW W (uZ z1 122 0) f1) 6 (bk2_141_13 call (uZ z1 122 0) f1) ?_
    refine xc_if2 (it := 36) (ie := 36) (ls' := [some (vR 12), some (vR 2)]) (st1 := [vI 6, vR 12]) (st2 := [vI ((z1 123) + 1), vR 12]) (bk2_141_14 call ((z1 123) + 1) 6 _ _) (fun q2 => ?_) (fun q2 => ?_)
    · have H := H.1 (cI2t q2 rfl rfl)
      refine xc_b (i' := 37) (ls' := [some (vR 12), some (vR 2)]) (st' := []) (L' := LW W (uZ (uZ z1 122 0) 123 6) f1) 1 (bk2_141_15 call 6 _ (uZ z1 122 0) f1) ?_
      subst H
      exact xc_ret (bk2_141_16 call _ _)
    · have H := H.2 (cI2f q2 rfl rfl)
      refine xc_b (i' := 37) (ls' := [some (vR 12), some (vR 2)]) (st' := []) (L' := LW W (uZ (uZ z1 122 0) 123 ((z1 123) + 1)) f1) 1 (bk2_141_15 call ((z1 123) + 1) _ (uZ z1 122 0) f1) ?_
      subst H
      exact xc_ret (bk2_141_16 call _ _)
  · have H := H.2 (cI3f q1 rfl rfl)
    refine xc_b (i' := 28) (ls' := [some (vR 12), some (vR 2)]) (st' := [vI ((z1 122) + 1), vR 12]) (L' := LW W z1 f1) 5 (bk2_141_17 call z1 f1) ?_
    refine xc_b (i' := 29) (ls' := [some (vR 12), some (vR 2)]) (st' := []) (L' := LW W (uZ z1 122 ((z1 122) + 1)) f1) 1 (bk2_141_12 call ((z1 122) + 1) _ z1 f1) ?_
    refine xc_b (i' := 35) (ls' := [some (vR 12), some (vR 2)]) (st' := [vI 6, vI ((z1 123) + 1), vR 12]) (L' := LW W (uZ z1 122 ((z1 122) + 1)) f1) 6 (bk2_141_13 call (uZ z1 122 ((z1 122) + 1)) f1) ?_
    refine xc_if2 (it := 36) (ie := 36) (ls' := [some (vR 12), some (vR 2)]) (st1 := [vI 6, vR 12]) (st2 := [vI ((z1 123) + 1), vR 12]) (bk2_141_14 call ((z1 123) + 1) 6 _ _) (fun q3 => ?_) (fun q3 => ?_)
    · have H := H.1 (cI2t q3 rfl rfl)
      refine xc_b (i' := 37) (ls' := [some (vR 12), some (vR 2)]) (st' := []) (L' := LW W (uZ (uZ z1 122 ((z1 122) + 1)) 123 6) f1) 1 (bk2_141_15 call 6 _ (uZ z1 122 ((z1 122) + 1)) f1) ?_
      subst H
      exact xc_ret (bk2_141_16 call _ _)
    · have H := H.2 (cI2f q3 rfl rfl)
      refine xc_b (i' := 37) (ls' := [some (vR 12), some (vR 2)]) (st' := []) (L' := LW W (uZ (uZ z1 122 ((z1 122) + 1)) 123 ((z1 123) + 1)) f1) 1 (bk2_141_15 call ((z1 123) + 1) _ (uZ z1 122 ((z1 122) + 1)) f1) ?_
      subst H
      exact xc_ret (bk2_141_16 call _ _)
set_option maxRecDepth 100000 in
theorem bb2_140_1 (call : QC FA) (z : Nat → Int32) (f : Nat → FA) (F : Nat) : xnG call 140 (F + 2) 0 [some (vR 12), some (vR 2)] [] (LW W z f) = xnG call 140 F 2 [some (vR 12), some (vR 2)] [vI (z 123)] (LW W z f) := rfl
set_option maxRecDepth 100000 in
theorem bb2_140_2 (call : QC FA) (x : Int32) (ls : List (Option PV)) (L : QH FA) (F : Nat) : xnG call 140 (F + 1) 2 ls [vI x] L = bif pcmp 0 x 0 then xnG call 140 F 10 ls [] L else xnG call 140 F 3 ls [] L := rfl
set_option maxRecDepth 100000 in
theorem bb2_140_3 (call : QC FA) (L : QH FA) (F : Nat) : xnG call 140 (F + 1) 10 [some (vR 12), some (vR 2)] [] L = xnG call 140 F 11 [some (vR 12), some (vR 2)] [vI 0] L := rfl
set_option maxRecDepth 100000 in
theorem bb2_140_4 (call : QC FA) (ls : List (Option PV)) (L : QH FA) (F : Nat) : xnG call 140 (F + 1) 11 ls [vI 0] L = some (some (vI 0), L) := rfl
set_option maxRecDepth 100000 in
theorem bb2_140_5 (call : QC FA) (z : Nat → Int32) (f : Nat → FA) (F : Nat) : xnG call 140 (F + 2) 3 [some (vR 12), some (vR 2)] [] (LW W z f) = xnG call 140 F 5 [some (vR 12), some (vR 2)] [vI (z 122)] (LW W z f) := rfl
set_option maxRecDepth 100000 in
theorem bb2_140_6 (call : QC FA) (x : Int32) (ls : List (Option PV)) (L : QH FA) (F : Nat) : xnG call 140 (F + 1) 5 ls [vI x] L = bif pcmp 2 x 0 then xnG call 140 F 10 ls [] L else xnG call 140 F 6 ls [] L := rfl
set_option maxRecDepth 100000 in
theorem bb2_140_7 (call : QC FA) (z : Nat → Int32) (f : Nat → FA) (F : Nat) : xnG call 140 (F + 3) 6 [some (vR 12), some (vR 2)] [] (LW W z f) = xnG call 140 F 9 [some (vR 12), some (vR 2)] [vI 6, vI (z 122)] (LW W z f) := rfl
set_option maxRecDepth 100000 in
theorem bb2_140_8 (call : QC FA) (x y : Int32) (ls : List (Option PV)) (L : QH FA) (F : Nat) : xnG call 140 (F + 1) 9 ls [vI y, vI x] L = bif pcmp 2 x y then xnG call 140 F 12 ls [] L else xnG call 140 F 10 ls [] L := rfl
set_option maxRecDepth 100000 in
theorem bb2_140_9 (call : QC FA) (z : Nat → Int32) (f : Nat → FA) (F : Nat) : xnG call 140 (F + 3) 12 [some (vR 12), some (vR 2)] [] (LW W z f) = xnG call 140 F 15 [some (vR 12), some (vR 2)] [vI (z 122), vR 12] (LW W z f) := rfl
set_option maxRecDepth 100000 in
theorem bb2_140_10 (call : QC FA) (x : Int32) (ls : List (Option PV)) (L : QH FA) (F : Nat) : xnG call 140 (F + 1) 15 ls [vI x, vR 12] L = bif pcmp 5 x 0 then xnG call 140 F 21 ls [vR 12] L else xnG call 140 F 16 ls [vR 12] L := rfl
set_option maxRecDepth 100000 in
theorem bb2_140_11 (call : QC FA) (z : Nat → Int32) (f : Nat → FA) (F : Nat) : xnG call 140 (F + 5) 16 [some (vR 12), some (vR 2)] [vR 12] (LW W z f) = xnG call 140 F 22 [some (vR 12), some (vR 2)] [vI ((z 122) - 1), vR 12] (LW W z f) := rfl
set_option maxRecDepth 100000 in
theorem bb2_140_12 (call : QC FA) (y : Int32) (ls : List (Option PV)) (z : Nat → Int32) (f : Nat → FA) (F : Nat) : xnG call 140 (F + 1) 22 ls [vI y, vR 12] (LW W z f) = xnG call 140 F 23 ls [] (LW W (uZ z 122 y) f) := rfl
set_option maxRecDepth 100000 in
theorem bb2_140_13 (call : QC FA) (z : Nat → Int32) (f : Nat → FA) (F : Nat) : xnG call 140 (F + 5) 23 [some (vR 12), some (vR 2)] [] (LW W z f) = xnG call 140 F 28 [some (vR 12), some (vR 2)] [vI ((z 123) - 1), vR 12] (LW W z f) := rfl
set_option maxRecDepth 100000 in
theorem bb2_140_14 (call : QC FA) (y : Int32) (ls : List (Option PV)) (z : Nat → Int32) (f : Nat → FA) (F : Nat) : xnG call 140 (F + 1) 28 ls [vI y, vR 12] (LW W z f) = xnG call 140 F 29 ls [] (LW W (uZ z 123 y) f) := rfl
set_option maxRecDepth 100000 in
theorem bb2_140_15 (call : QC FA) (z : Nat → Int32) (f : Nat → FA) (F : Nat) : xnG call 140 (F + 5) 29 [some (vR 12), some (vR 2)] [] (LW W z f) = xnG call 140 F 34 [some (vR 12), some (vR 2)] [vI (z 122), vR 13, vR 2] (LW W z f) := rfl
set_option maxRecDepth 100000 in
theorem bb2_140_16 (call : QC FA) (ls : List (Option PV)) (z : Nat → Int32) (f : Nat → FA) (F : Nat) : xnG call 140 (F + 1) 34 ls [vI 1, vR 13, vR 2] (LW W z f) = bif ((Nat.beq 1 1 || (Nat.beq 1 2 || Nat.beq 1 3)) && pin 1 6) then xnG call 140 F 35 ls [.inr (.inl (rgW (ix 1))), vR 2] (LW W z f) else none := rfl
set_option maxRecDepth 100000 in
theorem bb2_140_17 (call : QC FA) (ls : List (Option PV)) (z : Nat → Int32) (f : Nat → FA) (F : Nat) : xnG call 140 (F + 1) 35 ls [vR 17, vR 2] (LW W z f) = cbd (call 90 [vR 2, vR 17] (LW W z f)) (fun r L' => xnG call 140 F 36 ls (r.toList ++ []) L') := pcY (ih := xnG call 140 F) (call := call) (a := 90) (b := 1) (v := 0) (t := 36) (x := 2) (ls := ls) (As := [vR 17]) (st' := []) (L := LW W z f) rfl rfl rfl
set_option maxRecDepth 100000 in
theorem bb2_140_18 (call : QC FA) (L : QH FA) (F : Nat) : xnG call 140 (F + 1) 36 [some (vR 12), some (vR 2)] [] L = xnG call 140 F 37 [some (vR 12), some (vR 2)] [vI 1] L := rfl
set_option maxRecDepth 100000 in
theorem bb2_140_19 (call : QC FA) (ls : List (Option PV)) (L : QH FA) (F : Nat) : xnG call 140 (F + 1) 37 ls [vI 1] L = some (some (vI 1), L) := rfl
theorem vcb2_140_0 (call : QC FA) (z : Nat → Int32) (f : Nat → FA) (res : Option PV × QH FA) (H : ((z 123 = 0 → res = (some (vI 0), LW W (uZ z 122 2) f)) ∧ (¬ z 123 = 0 → (∃ (z1 : Nat → Int32) (f1 : Nat → FA), call 90 [vR 2, vR 17] (LW W (uZ (uZ (uZ z 122 2) 122 1) 123 ((z 123) - 1)) f) = some (none, LW W z1 f1) ∧ res = (some (vI 1), LW W z1 f1))))) : XC call (mP 140) 0 [some (vR 12), some (vR 2)] [] (LW W (uZ z 122 2) f) res := by
  refine xc_b (i' := 2) (ls' := [some (vR 12), some (vR 2)]) (st' := [vI (z 123)]) (L' := LW W (uZ z 122 2) f) 2 (bb2_140_1 call (uZ z 122 2) f) ?_
  refine xc_if (it := 10) (ie := 3) (ls' := [some (vR 12), some (vR 2)]) (st' := []) (bb2_140_2 call (z 123) _ _) (fun q1 => ?_) (fun q1 => ?_)
  · have H := H.1 (cI0t q1)
    refine xc_b (i' := 11) (ls' := [some (vR 12), some (vR 2)]) (st' := [vI 0]) (L' := LW W (uZ z 122 2) f) 1 (bb2_140_3 call _) ?_
    subst H
    exact xc_ret (bb2_140_4 call _ _)
  · have H := H.2 (cI0f q1)
    refine xc_b (i' := 5) (ls' := [some (vR 12), some (vR 2)]) (st' := [vI 2]) (L' := LW W (uZ z 122 2) f) 2 (bb2_140_5 call (uZ z 122 2) f) ?_
    refine xc_f (it := 10) (ie := 6) (ls' := [some (vR 12), some (vR 2)]) (st' := []) (bb2_140_6 call 2 _ _) (by decide) ?_
    refine xc_b (i' := 9) (ls' := [some (vR 12), some (vR 2)]) (st' := [vI 6, vI 2]) (L' := LW W (uZ z 122 2) f) 3 (bb2_140_7 call (uZ z 122 2) f) ?_
    refine xc_t (it := 12) (ie := 10) (ls' := [some (vR 12), some (vR 2)]) (st' := []) (bb2_140_8 call 2 6 _ _) (by decide) ?_
    refine xc_b (i' := 15) (ls' := [some (vR 12), some (vR 2)]) (st' := [vI 2, vR 12]) (L' := LW W (uZ z 122 2) f) 3 (bb2_140_9 call (uZ z 122 2) f) ?_
    refine xc_f (it := 21) (ie := 16) (ls' := [some (vR 12), some (vR 2)]) (st' := [vR 12]) (bb2_140_10 call 2 _ _) (by decide) ?_
    refine xc_b (i' := 22) (ls' := [some (vR 12), some (vR 2)]) (st' := [vI (2 - 1), vR 12]) (L' := LW W (uZ z 122 2) f) 5 (bb2_140_11 call (uZ z 122 2) f) ?_
    rw [show ((2 : Int32) - 1 : Int32) = 1 from by decide]
    refine xc_b (i' := 23) (ls' := [some (vR 12), some (vR 2)]) (st' := []) (L' := LW W (uZ (uZ z 122 2) 122 1) f) 1 (bb2_140_12 call 1 _ (uZ z 122 2) f) ?_
    refine xc_b (i' := 28) (ls' := [some (vR 12), some (vR 2)]) (st' := [vI ((z 123) - 1), vR 12]) (L' := LW W (uZ (uZ z 122 2) 122 1) f) 5 (bb2_140_13 call (uZ (uZ z 122 2) 122 1) f) ?_
    refine xc_b (i' := 29) (ls' := [some (vR 12), some (vR 2)]) (st' := []) (L' := LW W (uZ (uZ (uZ z 122 2) 122 1) 123 ((z 123) - 1)) f) 1 (bb2_140_14 call ((z 123) - 1) _ (uZ (uZ z 122 2) 122 1) f) ?_
    refine xc_b (i' := 34) (ls' := [some (vR 12), some (vR 2)]) (st' := [vI 1, vR 13, vR 2]) (L' := LW W (uZ (uZ (uZ z 122 2) 122 1) 123 ((z 123) - 1)) f) 5 (bb2_140_15 call (uZ (uZ (uZ z 122 2) 122 1) 123 ((z 123) - 1)) f) ?_
    refine xc_g (i' := 35) (ls' := [some (vR 12), some (vR 2)]) (st' := [.inr (.inl (rgW (ix 1))), vR 2]) (L' := LW W (uZ (uZ (uZ z 122 2) 122 1) 123 ((z 123) - 1)) f) (bb2_140_16 call _ (uZ (uZ (uZ z 122 2) 122 1) 123 ((z 123) - 1)) f) (by decide) ?_
    show XC call (mP 140) 35 [some (vR 12), some (vR 2)] [vR 17, vR 2] (LW W (uZ (uZ (uZ z 122 2) 122 1) 123 ((z 123) - 1)) f) res
    obtain ⟨z1, f1, hc, H⟩ := H
    refine xc_call (t := 36) (ls' := [some (vR 12), some (vR 2)]) (st' := []) (bb2_140_17 call _ (uZ (uZ (uZ z 122 2) 122 1) 123 ((z 123) - 1)) f) hc ?_
    show XC call (mP 140) 36 [some (vR 12), some (vR 2)] [] (LW W z1 f1) res
    refine xc_b (i' := 37) (ls' := [some (vR 12), some (vR 2)]) (st' := [vI 1]) (L' := LW W z1 f1) 1 (bb2_140_18 call _) ?_
    subst H
    exact xc_ret (bb2_140_19 call _ _)
set_option maxRecDepth 100000 in
theorem bt3_90_1 (call : QC FA) (z : Nat → Int32) (f : Nat → FA) (F : Nat) : xnG call 90 (F + 7) 0 [some (vR 23), some (vR 2)] [] (LW W z f) = xnG call 90 F 7 [some (vR 23), some (vR 2)] [vI 120, vI 0, vR 24, vI 0, vR 3] (LW W z f) := rfl
set_option maxRecDepth 100000 in
theorem bt3_90_2 (call : QC FA) (ls : List (Option PV)) (z : Nat → Int32) (f : Nat → FA) (F : Nat) : xnG call 90 (F + 1) 7 ls [vI 120, vI 0, vR 24, vI 0, vR 3] (LW W z f) = bif (Nat.beq 0 0 && (Nat.beq 0 0 && (pcmp 3 0 0 && (pcmp 3 0 0 && (pcmp 3 120 0 && (Nat.ble (ix 0 + ix 120) 120 && (Nat.ble (ix 0 + ix 120) 120 && Nat.ble 0 8))))))) then xnG call 90 F 8 ls [] (LW W z (uA f 24 (va_cpy (f 3) (f 24) (ix 0) (ix 0) (ix 120)))) else none := rfl
set_option maxRecDepth 100000 in
theorem bt3_90_3 (call : QC FA) (z : Nat → Int32) (f : Nat → FA) (F : Nat) : xnG call 90 (F + 7) 8 [some (vR 23), some (vR 2)] [] (LW W z f) = xnG call 90 F 15 [some (vR 23), some (vR 2)] [vI 144, vI 0, vR 25, vI 0, vR 4] (LW W z f) := rfl
set_option maxRecDepth 100000 in
theorem bt3_90_4 (call : QC FA) (ls : List (Option PV)) (z : Nat → Int32) (f : Nat → FA) (F : Nat) : xnG call 90 (F + 1) 15 ls [vI 144, vI 0, vR 25, vI 0, vR 4] (LW W z f) = bif (Nat.beq 0 0 && (Nat.beq 0 0 && (pcmp 3 0 0 && (pcmp 3 0 0 && (pcmp 3 144 0 && (Nat.ble (ix 0 + ix 144) 144 && (Nat.ble (ix 0 + ix 144) 144 && Nat.ble 0 8))))))) then xnG call 90 F 16 ls [] (LW W z (uA f 25 (va_cpy (f 4) (f 25) (ix 0) (ix 0) (ix 144)))) else none := rfl
set_option maxRecDepth 100000 in
theorem bt3_90_5 (call : QC FA) (z : Nat → Int32) (f : Nat → FA) (F : Nat) : xnG call 90 (F + 3) 16 [some (vR 23), some (vR 2)] [] (LW W z f) = xnG call 90 F 19 [some (vR 23), some (vR 2)] [vI (z 22), vR 23] (LW W z f) := rfl
set_option maxRecDepth 100000 in
theorem bt3_90_6 (call : QC FA) (y : Int32) (ls : List (Option PV)) (z : Nat → Int32) (f : Nat → FA) (F : Nat) : xnG call 90 (F + 1) 19 ls [vI y, vR 23] (LW W z f) = xnG call 90 F 20 ls [] (LW W (uZ z 232 y) f) := rfl
set_option maxRecDepth 100000 in
theorem bt3_90_7 (call : QC FA) (z : Nat → Int32) (f : Nat → FA) (F : Nat) : xnG call 90 (F + 3) 20 [some (vR 23), some (vR 2)] [] (LW W z f) = xnG call 90 F 23 [some (vR 23), some (vR 2)] [vI (z 23), vR 23] (LW W z f) := rfl
set_option maxRecDepth 100000 in
theorem bt3_90_8 (call : QC FA) (y : Int32) (ls : List (Option PV)) (z : Nat → Int32) (f : Nat → FA) (F : Nat) : xnG call 90 (F + 1) 23 ls [vI y, vR 23] (LW W z f) = xnG call 90 F 24 ls [] (LW W (uZ z 233 y) f) := rfl
set_option maxRecDepth 100000 in
theorem bt3_90_9 (call : QC FA) (z : Nat → Int32) (f : Nat → FA) (F : Nat) : xnG call 90 (F + 3) 24 [some (vR 23), some (vR 2)] [] (LW W z f) = xnG call 90 F 27 [some (vR 23), some (vR 2)] [vI (z 24), vR 23] (LW W z f) := rfl
set_option maxRecDepth 100000 in
theorem bt3_90_10 (call : QC FA) (y : Int32) (ls : List (Option PV)) (z : Nat → Int32) (f : Nat → FA) (F : Nat) : xnG call 90 (F + 1) 27 ls [vI y, vR 23] (LW W z f) = xnG call 90 F 28 ls [] (LW W (uZ z 234 y) f) := rfl
set_option maxRecDepth 100000 in
theorem bt3_90_11 (call : QC FA) (z : Nat → Int32) (f : Nat → FA) (F : Nat) : xnG call 90 (F + 3) 28 [some (vR 23), some (vR 2)] [] (LW W z f) = xnG call 90 F 31 [some (vR 23), some (vR 2)] [vI (z 25), vR 23] (LW W z f) := rfl
set_option maxRecDepth 100000 in
theorem bt3_90_12 (call : QC FA) (y : Int32) (ls : List (Option PV)) (z : Nat → Int32) (f : Nat → FA) (F : Nat) : xnG call 90 (F + 1) 31 ls [vI y, vR 23] (LW W z f) = xnG call 90 F 32 ls [] (LW W (uZ z 235 y) f) := rfl
set_option maxRecDepth 100000 in
theorem bt3_90_13 (call : QC FA) (z : Nat → Int32) (f : Nat → FA) (F : Nat) : xnG call 90 (F + 3) 32 [some (vR 23), some (vR 2)] [] (LW W z f) = xnG call 90 F 35 [some (vR 23), some (vR 2)] [vI (z 26), vR 23] (LW W z f) := rfl
set_option maxRecDepth 100000 in
theorem bt3_90_14 (call : QC FA) (y : Int32) (ls : List (Option PV)) (z : Nat → Int32) (f : Nat → FA) (F : Nat) : xnG call 90 (F + 1) 35 ls [vI y, vR 23] (LW W z f) = xnG call 90 F 36 ls [] (LW W (uZ z 236 y) f) := rfl
set_option maxRecDepth 100000 in
theorem bt3_90_15 (call : QC FA) (z : Nat → Int32) (f : Nat → FA) (F : Nat) : xnG call 90 (F + 3) 36 [some (vR 23), some (vR 2)] [] (LW W z f) = xnG call 90 F 39 [some (vR 23), some (vR 2)] [vI (z 27), vR 23] (LW W z f) := rfl
set_option maxRecDepth 100000 in
theorem bt3_90_16 (call : QC FA) (y : Int32) (ls : List (Option PV)) (z : Nat → Int32) (f : Nat → FA) (F : Nat) : xnG call 90 (F + 1) 39 ls [vI y, vR 23] (LW W z f) = xnG call 90 F 40 ls [] (LW W (uZ z 237 y) f) := rfl
set_option maxRecDepth 100000 in
theorem bt3_90_17 (call : QC FA) (z : Nat → Int32) (f : Nat → FA) (F : Nat) : xnG call 90 (F + 3) 40 [some (vR 23), some (vR 2)] [] (LW W z f) = xnG call 90 F 43 [some (vR 23), some (vR 2)] [vI (z 28), vR 23] (LW W z f) := rfl
set_option maxRecDepth 100000 in
theorem bt3_90_18 (call : QC FA) (y : Int32) (ls : List (Option PV)) (z : Nat → Int32) (f : Nat → FA) (F : Nat) : xnG call 90 (F + 1) 43 ls [vI y, vR 23] (LW W z f) = xnG call 90 F 44 ls [] (LW W (uZ z 238 y) f) := rfl
set_option maxRecDepth 100000 in
theorem bt3_90_19 (call : QC FA) (z : Nat → Int32) (f : Nat → FA) (F : Nat) : xnG call 90 (F + 3) 44 [some (vR 23), some (vR 2)] [] (LW W z f) = xnG call 90 F 47 [some (vR 23), some (vR 2)] [vI (z 29), vR 23] (LW W z f) := rfl
set_option maxRecDepth 100000 in
theorem bt3_90_20 (call : QC FA) (y : Int32) (ls : List (Option PV)) (z : Nat → Int32) (f : Nat → FA) (F : Nat) : xnG call 90 (F + 1) 47 ls [vI y, vR 23] (LW W z f) = xnG call 90 F 48 ls [] (LW W (uZ z 239 y) f) := rfl
set_option maxRecDepth 100000 in
theorem bt3_90_21 (call : QC FA) (ls : List (Option PV)) (L : QH FA) (F : Nat) : xnG call 90 (F + 1) 48 ls [] L = some (none, L) := rfl
theorem vct3_90_0 (call : QC FA) (z : Nat → Int32) (f : Nat → FA) (res : Option PV × QH FA) (H : res = (none, LW W (uZ (uZ (uZ (uZ (uZ (uZ (uZ (uZ z 232 (z 22)) 233 (z 23)) 234 (z 24)) 235 (z 25)) 236 (z 26)) 237 (z 27)) 238 (z 28)) 239 (z 29)) (uA (uA f 24 (cpW (f 3) (f 24) 120)) 25 (cpW (f 4) (f 25) 144)))) : XC call (mP 90) 0 [some (vR 23), some (vR 2)] [] (LW W z f) res := by
  refine xc_b (i' := 7) (ls' := [some (vR 23), some (vR 2)]) (st' := [vI 120, vI 0, vR 24, vI 0, vR 3]) (L' := LW W z f) 7 (bt3_90_1 call z f) ?_
  refine xc_g (i' := 8) (ls' := [some (vR 23), some (vR 2)]) (st' := []) (L' := LW W z (uA f 24 (va_cpy (f 3) (f 24) (ix 0) (ix 0) (ix 120)))) (bt3_90_2 call _ z f) (by decide) ?_
  rw [cpW_e (f := f 3) (g := f 24) (a := 0) (b := 0) (n := 120) (N := 120) (by decide) (by decide) (by decide)]
  show XC call (mP 90) 8 [some (vR 23), some (vR 2)] [] (LW W z (uA f 24 (cpW (f 3) (f 24) 120))) res
  refine xc_b (i' := 15) (ls' := [some (vR 23), some (vR 2)]) (st' := [vI 144, vI 0, vR 25, vI 0, vR 4]) (L' := LW W z (uA f 24 (cpW (f 3) (f 24) 120))) 7 (bt3_90_3 call z (uA f 24 (cpW (f 3) (f 24) 120))) ?_
  refine xc_g (i' := 16) (ls' := [some (vR 23), some (vR 2)]) (st' := []) (L' := LW W z (uA (uA f 24 (cpW (f 3) (f 24) 120)) 25 (va_cpy ((uA f 24 (cpW (f 3) (f 24) 120)) 4) ((uA f 24 (cpW (f 3) (f 24) 120)) 25) (ix 0) (ix 0) (ix 144)))) (bt3_90_4 call _ z (uA f 24 (cpW (f 3) (f 24) 120))) (by decide) ?_
  rw [cpW_e (f := (uA f 24 (cpW (f 3) (f 24) 120)) 4) (g := (uA f 24 (cpW (f 3) (f 24) 120)) 25) (a := 0) (b := 0) (n := 144) (N := 144) (by decide) (by decide) (by decide)]
  show XC call (mP 90) 16 [some (vR 23), some (vR 2)] [] (LW W z (uA (uA f 24 (cpW (f 3) (f 24) 120)) 25 (cpW (f 4) (f 25) 144))) res
  refine xc_b (i' := 19) (ls' := [some (vR 23), some (vR 2)]) (st' := [vI (z 22), vR 23]) (L' := LW W z (uA (uA f 24 (cpW (f 3) (f 24) 120)) 25 (cpW (f 4) (f 25) 144))) 3 (bt3_90_5 call z (uA (uA f 24 (cpW (f 3) (f 24) 120)) 25 (cpW (f 4) (f 25) 144))) ?_
  refine xc_b (i' := 20) (ls' := [some (vR 23), some (vR 2)]) (st' := []) (L' := LW W (uZ z 232 (z 22)) (uA (uA f 24 (cpW (f 3) (f 24) 120)) 25 (cpW (f 4) (f 25) 144))) 1 (bt3_90_6 call (z 22) _ z (uA (uA f 24 (cpW (f 3) (f 24) 120)) 25 (cpW (f 4) (f 25) 144))) ?_
  refine xc_b (i' := 23) (ls' := [some (vR 23), some (vR 2)]) (st' := [vI (z 23), vR 23]) (L' := LW W (uZ z 232 (z 22)) (uA (uA f 24 (cpW (f 3) (f 24) 120)) 25 (cpW (f 4) (f 25) 144))) 3 (bt3_90_7 call (uZ z 232 (z 22)) (uA (uA f 24 (cpW (f 3) (f 24) 120)) 25 (cpW (f 4) (f 25) 144))) ?_
  refine xc_b (i' := 24) (ls' := [some (vR 23), some (vR 2)]) (st' := []) (L' := LW W (uZ (uZ z 232 (z 22)) 233 (z 23)) (uA (uA f 24 (cpW (f 3) (f 24) 120)) 25 (cpW (f 4) (f 25) 144))) 1 (bt3_90_8 call (z 23) _ (uZ z 232 (z 22)) (uA (uA f 24 (cpW (f 3) (f 24) 120)) 25 (cpW (f 4) (f 25) 144))) ?_
  refine xc_b (i' := 27) (ls' := [some (vR 23), some (vR 2)]) (st' := [vI (z 24), vR 23]) (L' := LW W (uZ (uZ z 232 (z 22)) 233 (z 23)) (uA (uA f 24 (cpW (f 3) (f 24) 120)) 25 (cpW (f 4) (f 25) 144))) 3 (bt3_90_9 call (uZ (uZ z 232 (z 22)) 233 (z 23)) (uA (uA f 24 (cpW (f 3) (f 24) 120)) 25 (cpW (f 4) (f 25) 144))) ?_
  refine xc_b (i' := 28) (ls' := [some (vR 23), some (vR 2)]) (st' := []) (L' := LW W (uZ (uZ (uZ z 232 (z 22)) 233 (z 23)) 234 (z 24)) (uA (uA f 24 (cpW (f 3) (f 24) 120)) 25 (cpW (f 4) (f 25) 144))) 1 (bt3_90_10 call (z 24) _ (uZ (uZ z 232 (z 22)) 233 (z 23)) (uA (uA f 24 (cpW (f 3) (f 24) 120)) 25 (cpW (f 4) (f 25) 144))) ?_
  refine xc_b (i' := 31) (ls' := [some (vR 23), some (vR 2)]) (st' := [vI (z 25), vR 23]) (L' := LW W (uZ (uZ (uZ z 232 (z 22)) 233 (z 23)) 234 (z 24)) (uA (uA f 24 (cpW (f 3) (f 24) 120)) 25 (cpW (f 4) (f 25) 144))) 3 (bt3_90_11 call (uZ (uZ (uZ z 232 (z 22)) 233 (z 23)) 234 (z 24)) (uA (uA f 24 (cpW (f 3) (f 24) 120)) 25 (cpW (f 4) (f 25) 144))) ?_
  refine xc_b (i' := 32) (ls' := [some (vR 23), some (vR 2)]) (st' := []) (L' := LW W (uZ (uZ (uZ (uZ z 232 (z 22)) 233 (z 23)) 234 (z 24)) 235 (z 25)) (uA (uA f 24 (cpW (f 3) (f 24) 120)) 25 (cpW (f 4) (f 25) 144))) 1 (bt3_90_12 call (z 25) _ (uZ (uZ (uZ z 232 (z 22)) 233 (z 23)) 234 (z 24)) (uA (uA f 24 (cpW (f 3) (f 24) 120)) 25 (cpW (f 4) (f 25) 144))) ?_
  refine xc_b (i' := 35) (ls' := [some (vR 23), some (vR 2)]) (st' := [vI (z 26), vR 23]) (L' := LW W (uZ (uZ (uZ (uZ z 232 (z 22)) 233 (z 23)) 234 (z 24)) 235 (z 25)) (uA (uA f 24 (cpW (f 3) (f 24) 120)) 25 (cpW (f 4) (f 25) 144))) 3 (bt3_90_13 call (uZ (uZ (uZ (uZ z 232 (z 22)) 233 (z 23)) 234 (z 24)) 235 (z 25)) (uA (uA f 24 (cpW (f 3) (f 24) 120)) 25 (cpW (f 4) (f 25) 144))) ?_
  refine xc_b (i' := 36) (ls' := [some (vR 23), some (vR 2)]) (st' := []) (L' := LW W (uZ (uZ (uZ (uZ (uZ z 232 (z 22)) 233 (z 23)) 234 (z 24)) 235 (z 25)) 236 (z 26)) (uA (uA f 24 (cpW (f 3) (f 24) 120)) 25 (cpW (f 4) (f 25) 144))) 1 (bt3_90_14 call (z 26) _ (uZ (uZ (uZ (uZ z 232 (z 22)) 233 (z 23)) 234 (z 24)) 235 (z 25)) (uA (uA f 24 (cpW (f 3) (f 24) 120)) 25 (cpW (f 4) (f 25) 144))) ?_
  refine xc_b (i' := 39) (ls' := [some (vR 23), some (vR 2)]) (st' := [vI (z 27), vR 23]) (L' := LW W (uZ (uZ (uZ (uZ (uZ z 232 (z 22)) 233 (z 23)) 234 (z 24)) 235 (z 25)) 236 (z 26)) (uA (uA f 24 (cpW (f 3) (f 24) 120)) 25 (cpW (f 4) (f 25) 144))) 3 (bt3_90_15 call (uZ (uZ (uZ (uZ (uZ z 232 (z 22)) 233 (z 23)) 234 (z 24)) 235 (z 25)) 236 (z 26)) (uA (uA f 24 (cpW (f 3) (f 24) 120)) 25 (cpW (f 4) (f 25) 144))) ?_
  refine xc_b (i' := 40) (ls' := [some (vR 23), some (vR 2)]) (st' := []) (L' := LW W (uZ (uZ (uZ (uZ (uZ (uZ z 232 (z 22)) 233 (z 23)) 234 (z 24)) 235 (z 25)) 236 (z 26)) 237 (z 27)) (uA (uA f 24 (cpW (f 3) (f 24) 120)) 25 (cpW (f 4) (f 25) 144))) 1 (bt3_90_16 call (z 27) _ (uZ (uZ (uZ (uZ (uZ z 232 (z 22)) 233 (z 23)) 234 (z 24)) 235 (z 25)) 236 (z 26)) (uA (uA f 24 (cpW (f 3) (f 24) 120)) 25 (cpW (f 4) (f 25) 144))) ?_
  refine xc_b (i' := 43) (ls' := [some (vR 23), some (vR 2)]) (st' := [vI (z 28), vR 23]) (L' := LW W (uZ (uZ (uZ (uZ (uZ (uZ z 232 (z 22)) 233 (z 23)) 234 (z 24)) 235 (z 25)) 236 (z 26)) 237 (z 27)) (uA (uA f 24 (cpW (f 3) (f 24) 120)) 25 (cpW (f 4) (f 25) 144))) 3 (bt3_90_17 call (uZ (uZ (uZ (uZ (uZ (uZ z 232 (z 22)) 233 (z 23)) 234 (z 24)) 235 (z 25)) 236 (z 26)) 237 (z 27)) (uA (uA f 24 (cpW (f 3) (f 24) 120)) 25 (cpW (f 4) (f 25) 144))) ?_
  refine xc_b (i' := 44) (ls' := [some (vR 23), some (vR 2)]) (st' := []) (L' := LW W (uZ (uZ (uZ (uZ (uZ (uZ (uZ z 232 (z 22)) 233 (z 23)) 234 (z 24)) 235 (z 25)) 236 (z 26)) 237 (z 27)) 238 (z 28)) (uA (uA f 24 (cpW (f 3) (f 24) 120)) 25 (cpW (f 4) (f 25) 144))) 1 (bt3_90_18 call (z 28) _ (uZ (uZ (uZ (uZ (uZ (uZ z 232 (z 22)) 233 (z 23)) 234 (z 24)) 235 (z 25)) 236 (z 26)) 237 (z 27)) (uA (uA f 24 (cpW (f 3) (f 24) 120)) 25 (cpW (f 4) (f 25) 144))) ?_
  refine xc_b (i' := 47) (ls' := [some (vR 23), some (vR 2)]) (st' := [vI (z 29), vR 23]) (L' := LW W (uZ (uZ (uZ (uZ (uZ (uZ (uZ z 232 (z 22)) 233 (z 23)) 234 (z 24)) 235 (z 25)) 236 (z 26)) 237 (z 27)) 238 (z 28)) (uA (uA f 24 (cpW (f 3) (f 24) 120)) 25 (cpW (f 4) (f 25) 144))) 3 (bt3_90_19 call (uZ (uZ (uZ (uZ (uZ (uZ (uZ z 232 (z 22)) 233 (z 23)) 234 (z 24)) 235 (z 25)) 236 (z 26)) 237 (z 27)) 238 (z 28)) (uA (uA f 24 (cpW (f 3) (f 24) 120)) 25 (cpW (f 4) (f 25) 144))) ?_
  refine xc_b (i' := 48) (ls' := [some (vR 23), some (vR 2)]) (st' := []) (L' := LW W (uZ (uZ (uZ (uZ (uZ (uZ (uZ (uZ z 232 (z 22)) 233 (z 23)) 234 (z 24)) 235 (z 25)) 236 (z 26)) 237 (z 27)) 238 (z 28)) 239 (z 29)) (uA (uA f 24 (cpW (f 3) (f 24) 120)) 25 (cpW (f 4) (f 25) 144))) 1 (bt3_90_20 call (z 29) _ (uZ (uZ (uZ (uZ (uZ (uZ (uZ z 232 (z 22)) 233 (z 23)) 234 (z 24)) 235 (z 25)) 236 (z 26)) 237 (z 27)) 238 (z 28)) (uA (uA f 24 (cpW (f 3) (f 24) 120)) 25 (cpW (f 4) (f 25) 144))) ?_
  subst H
  exact xc_ret (bt3_90_21 call _ _)
set_option maxRecDepth 100000 in
theorem br3_90_1 (call : QC FA) (z : Nat → Int32) (f : Nat → FA) (F : Nat) : xnG call 90 (F + 7) 0 [some (vR 2), some (vR 23)] [] (LW W z f) = xnG call 90 F 7 [some (vR 2), some (vR 23)] [vI 120, vI 0, vR 3, vI 0, vR 24] (LW W z f) := rfl
set_option maxRecDepth 100000 in
theorem br3_90_2 (call : QC FA) (ls : List (Option PV)) (z : Nat → Int32) (f : Nat → FA) (F : Nat) : xnG call 90 (F + 1) 7 ls [vI 120, vI 0, vR 3, vI 0, vR 24] (LW W z f) = bif (Nat.beq 0 0 && (Nat.beq 0 0 && (pcmp 3 0 0 && (pcmp 3 0 0 && (pcmp 3 120 0 && (Nat.ble (ix 0 + ix 120) 120 && (Nat.ble (ix 0 + ix 120) 120 && Nat.ble 0 8))))))) then xnG call 90 F 8 ls [] (LW W z (uA f 3 (va_cpy (f 24) (f 3) (ix 0) (ix 0) (ix 120)))) else none := rfl
set_option maxRecDepth 100000 in
theorem br3_90_3 (call : QC FA) (z : Nat → Int32) (f : Nat → FA) (F : Nat) : xnG call 90 (F + 7) 8 [some (vR 2), some (vR 23)] [] (LW W z f) = xnG call 90 F 15 [some (vR 2), some (vR 23)] [vI 144, vI 0, vR 4, vI 0, vR 25] (LW W z f) := rfl
set_option maxRecDepth 100000 in
theorem br3_90_4 (call : QC FA) (ls : List (Option PV)) (z : Nat → Int32) (f : Nat → FA) (F : Nat) : xnG call 90 (F + 1) 15 ls [vI 144, vI 0, vR 4, vI 0, vR 25] (LW W z f) = bif (Nat.beq 0 0 && (Nat.beq 0 0 && (pcmp 3 0 0 && (pcmp 3 0 0 && (pcmp 3 144 0 && (Nat.ble (ix 0 + ix 144) 144 && (Nat.ble (ix 0 + ix 144) 144 && Nat.ble 0 8))))))) then xnG call 90 F 16 ls [] (LW W z (uA f 4 (va_cpy (f 25) (f 4) (ix 0) (ix 0) (ix 144)))) else none := rfl
set_option maxRecDepth 100000 in
theorem br3_90_5 (call : QC FA) (z : Nat → Int32) (f : Nat → FA) (F : Nat) : xnG call 90 (F + 3) 16 [some (vR 2), some (vR 23)] [] (LW W z f) = xnG call 90 F 19 [some (vR 2), some (vR 23)] [vI (z 232), vR 2] (LW W z f) := rfl
set_option maxRecDepth 100000 in
theorem br3_90_6 (call : QC FA) (y : Int32) (ls : List (Option PV)) (z : Nat → Int32) (f : Nat → FA) (F : Nat) : xnG call 90 (F + 1) 19 ls [vI y, vR 2] (LW W z f) = xnG call 90 F 20 ls [] (LW W (uZ z 22 y) f) := rfl
set_option maxRecDepth 100000 in
theorem br3_90_7 (call : QC FA) (z : Nat → Int32) (f : Nat → FA) (F : Nat) : xnG call 90 (F + 3) 20 [some (vR 2), some (vR 23)] [] (LW W z f) = xnG call 90 F 23 [some (vR 2), some (vR 23)] [vI (z 233), vR 2] (LW W z f) := rfl
set_option maxRecDepth 100000 in
theorem br3_90_8 (call : QC FA) (y : Int32) (ls : List (Option PV)) (z : Nat → Int32) (f : Nat → FA) (F : Nat) : xnG call 90 (F + 1) 23 ls [vI y, vR 2] (LW W z f) = xnG call 90 F 24 ls [] (LW W (uZ z 23 y) f) := rfl
set_option maxRecDepth 100000 in
theorem br3_90_9 (call : QC FA) (z : Nat → Int32) (f : Nat → FA) (F : Nat) : xnG call 90 (F + 3) 24 [some (vR 2), some (vR 23)] [] (LW W z f) = xnG call 90 F 27 [some (vR 2), some (vR 23)] [vI (z 234), vR 2] (LW W z f) := rfl
set_option maxRecDepth 100000 in
theorem br3_90_10 (call : QC FA) (y : Int32) (ls : List (Option PV)) (z : Nat → Int32) (f : Nat → FA) (F : Nat) : xnG call 90 (F + 1) 27 ls [vI y, vR 2] (LW W z f) = xnG call 90 F 28 ls [] (LW W (uZ z 24 y) f) := rfl
set_option maxRecDepth 100000 in
theorem br3_90_11 (call : QC FA) (z : Nat → Int32) (f : Nat → FA) (F : Nat) : xnG call 90 (F + 3) 28 [some (vR 2), some (vR 23)] [] (LW W z f) = xnG call 90 F 31 [some (vR 2), some (vR 23)] [vI (z 235), vR 2] (LW W z f) := rfl
set_option maxRecDepth 100000 in
theorem br3_90_12 (call : QC FA) (y : Int32) (ls : List (Option PV)) (z : Nat → Int32) (f : Nat → FA) (F : Nat) : xnG call 90 (F + 1) 31 ls [vI y, vR 2] (LW W z f) = xnG call 90 F 32 ls [] (LW W (uZ z 25 y) f) := rfl
set_option maxRecDepth 100000 in
theorem br3_90_13 (call : QC FA) (z : Nat → Int32) (f : Nat → FA) (F : Nat) : xnG call 90 (F + 3) 32 [some (vR 2), some (vR 23)] [] (LW W z f) = xnG call 90 F 35 [some (vR 2), some (vR 23)] [vI (z 236), vR 2] (LW W z f) := rfl
set_option maxRecDepth 100000 in
theorem br3_90_14 (call : QC FA) (y : Int32) (ls : List (Option PV)) (z : Nat → Int32) (f : Nat → FA) (F : Nat) : xnG call 90 (F + 1) 35 ls [vI y, vR 2] (LW W z f) = xnG call 90 F 36 ls [] (LW W (uZ z 26 y) f) := rfl
set_option maxRecDepth 100000 in
theorem br3_90_15 (call : QC FA) (z : Nat → Int32) (f : Nat → FA) (F : Nat) : xnG call 90 (F + 3) 36 [some (vR 2), some (vR 23)] [] (LW W z f) = xnG call 90 F 39 [some (vR 2), some (vR 23)] [vI (z 237), vR 2] (LW W z f) := rfl
set_option maxRecDepth 100000 in
theorem br3_90_16 (call : QC FA) (y : Int32) (ls : List (Option PV)) (z : Nat → Int32) (f : Nat → FA) (F : Nat) : xnG call 90 (F + 1) 39 ls [vI y, vR 2] (LW W z f) = xnG call 90 F 40 ls [] (LW W (uZ z 27 y) f) := rfl
set_option maxRecDepth 100000 in
theorem br3_90_17 (call : QC FA) (z : Nat → Int32) (f : Nat → FA) (F : Nat) : xnG call 90 (F + 3) 40 [some (vR 2), some (vR 23)] [] (LW W z f) = xnG call 90 F 43 [some (vR 2), some (vR 23)] [vI (z 238), vR 2] (LW W z f) := rfl
set_option maxRecDepth 100000 in
theorem br3_90_18 (call : QC FA) (y : Int32) (ls : List (Option PV)) (z : Nat → Int32) (f : Nat → FA) (F : Nat) : xnG call 90 (F + 1) 43 ls [vI y, vR 2] (LW W z f) = xnG call 90 F 44 ls [] (LW W (uZ z 28 y) f) := rfl
set_option maxRecDepth 100000 in
theorem br3_90_19 (call : QC FA) (z : Nat → Int32) (f : Nat → FA) (F : Nat) : xnG call 90 (F + 3) 44 [some (vR 2), some (vR 23)] [] (LW W z f) = xnG call 90 F 47 [some (vR 2), some (vR 23)] [vI (z 239), vR 2] (LW W z f) := rfl
set_option maxRecDepth 100000 in
theorem br3_90_20 (call : QC FA) (y : Int32) (ls : List (Option PV)) (z : Nat → Int32) (f : Nat → FA) (F : Nat) : xnG call 90 (F + 1) 47 ls [vI y, vR 2] (LW W z f) = xnG call 90 F 48 ls [] (LW W (uZ z 29 y) f) := rfl
set_option maxRecDepth 100000 in
theorem br3_90_21 (call : QC FA) (ls : List (Option PV)) (L : QH FA) (F : Nat) : xnG call 90 (F + 1) 48 ls [] L = some (none, L) := rfl
theorem vcr3_90_0 (call : QC FA) (z : Nat → Int32) (f : Nat → FA) (res : Option PV × QH FA) (H : res = (none, LW W (uZ (uZ (uZ (uZ (uZ (uZ (uZ (uZ z 22 (z 232)) 23 (z 233)) 24 (z 234)) 25 (z 235)) 26 (z 236)) 27 (z 237)) 28 (z 238)) 29 (z 239)) (uA (uA f 3 (cpW (f 24) (f 3) 120)) 4 (cpW (f 25) (f 4) 144)))) : XC call (mP 90) 0 [some (vR 2), some (vR 23)] [] (LW W z f) res := by
  refine xc_b (i' := 7) (ls' := [some (vR 2), some (vR 23)]) (st' := [vI 120, vI 0, vR 3, vI 0, vR 24]) (L' := LW W z f) 7 (br3_90_1 call z f) ?_
  refine xc_g (i' := 8) (ls' := [some (vR 2), some (vR 23)]) (st' := []) (L' := LW W z (uA f 3 (va_cpy (f 24) (f 3) (ix 0) (ix 0) (ix 120)))) (br3_90_2 call _ z f) (by decide) ?_
  rw [cpW_e (f := f 24) (g := f 3) (a := 0) (b := 0) (n := 120) (N := 120) (by decide) (by decide) (by decide)]
  show XC call (mP 90) 8 [some (vR 2), some (vR 23)] [] (LW W z (uA f 3 (cpW (f 24) (f 3) 120))) res
  refine xc_b (i' := 15) (ls' := [some (vR 2), some (vR 23)]) (st' := [vI 144, vI 0, vR 4, vI 0, vR 25]) (L' := LW W z (uA f 3 (cpW (f 24) (f 3) 120))) 7 (br3_90_3 call z (uA f 3 (cpW (f 24) (f 3) 120))) ?_
  refine xc_g (i' := 16) (ls' := [some (vR 2), some (vR 23)]) (st' := []) (L' := LW W z (uA (uA f 3 (cpW (f 24) (f 3) 120)) 4 (va_cpy ((uA f 3 (cpW (f 24) (f 3) 120)) 25) ((uA f 3 (cpW (f 24) (f 3) 120)) 4) (ix 0) (ix 0) (ix 144)))) (br3_90_4 call _ z (uA f 3 (cpW (f 24) (f 3) 120))) (by decide) ?_
  rw [cpW_e (f := (uA f 3 (cpW (f 24) (f 3) 120)) 25) (g := (uA f 3 (cpW (f 24) (f 3) 120)) 4) (a := 0) (b := 0) (n := 144) (N := 144) (by decide) (by decide) (by decide)]
  show XC call (mP 90) 16 [some (vR 2), some (vR 23)] [] (LW W z (uA (uA f 3 (cpW (f 24) (f 3) 120)) 4 (cpW (f 25) (f 4) 144))) res
  refine xc_b (i' := 19) (ls' := [some (vR 2), some (vR 23)]) (st' := [vI (z 232), vR 2]) (L' := LW W z (uA (uA f 3 (cpW (f 24) (f 3) 120)) 4 (cpW (f 25) (f 4) 144))) 3 (br3_90_5 call z (uA (uA f 3 (cpW (f 24) (f 3) 120)) 4 (cpW (f 25) (f 4) 144))) ?_
  refine xc_b (i' := 20) (ls' := [some (vR 2), some (vR 23)]) (st' := []) (L' := LW W (uZ z 22 (z 232)) (uA (uA f 3 (cpW (f 24) (f 3) 120)) 4 (cpW (f 25) (f 4) 144))) 1 (br3_90_6 call (z 232) _ z (uA (uA f 3 (cpW (f 24) (f 3) 120)) 4 (cpW (f 25) (f 4) 144))) ?_
  refine xc_b (i' := 23) (ls' := [some (vR 2), some (vR 23)]) (st' := [vI (z 233), vR 2]) (L' := LW W (uZ z 22 (z 232)) (uA (uA f 3 (cpW (f 24) (f 3) 120)) 4 (cpW (f 25) (f 4) 144))) 3 (br3_90_7 call (uZ z 22 (z 232)) (uA (uA f 3 (cpW (f 24) (f 3) 120)) 4 (cpW (f 25) (f 4) 144))) ?_
  refine xc_b (i' := 24) (ls' := [some (vR 2), some (vR 23)]) (st' := []) (L' := LW W (uZ (uZ z 22 (z 232)) 23 (z 233)) (uA (uA f 3 (cpW (f 24) (f 3) 120)) 4 (cpW (f 25) (f 4) 144))) 1 (br3_90_8 call (z 233) _ (uZ z 22 (z 232)) (uA (uA f 3 (cpW (f 24) (f 3) 120)) 4 (cpW (f 25) (f 4) 144))) ?_
  refine xc_b (i' := 27) (ls' := [some (vR 2), some (vR 23)]) (st' := [vI (z 234), vR 2]) (L' := LW W (uZ (uZ z 22 (z 232)) 23 (z 233)) (uA (uA f 3 (cpW (f 24) (f 3) 120)) 4 (cpW (f 25) (f 4) 144))) 3 (br3_90_9 call (uZ (uZ z 22 (z 232)) 23 (z 233)) (uA (uA f 3 (cpW (f 24) (f 3) 120)) 4 (cpW (f 25) (f 4) 144))) ?_
  refine xc_b (i' := 28) (ls' := [some (vR 2), some (vR 23)]) (st' := []) (L' := LW W (uZ (uZ (uZ z 22 (z 232)) 23 (z 233)) 24 (z 234)) (uA (uA f 3 (cpW (f 24) (f 3) 120)) 4 (cpW (f 25) (f 4) 144))) 1 (br3_90_10 call (z 234) _ (uZ (uZ z 22 (z 232)) 23 (z 233)) (uA (uA f 3 (cpW (f 24) (f 3) 120)) 4 (cpW (f 25) (f 4) 144))) ?_
  refine xc_b (i' := 31) (ls' := [some (vR 2), some (vR 23)]) (st' := [vI (z 235), vR 2]) (L' := LW W (uZ (uZ (uZ z 22 (z 232)) 23 (z 233)) 24 (z 234)) (uA (uA f 3 (cpW (f 24) (f 3) 120)) 4 (cpW (f 25) (f 4) 144))) 3 (br3_90_11 call (uZ (uZ (uZ z 22 (z 232)) 23 (z 233)) 24 (z 234)) (uA (uA f 3 (cpW (f 24) (f 3) 120)) 4 (cpW (f 25) (f 4) 144))) ?_
  refine xc_b (i' := 32) (ls' := [some (vR 2), some (vR 23)]) (st' := []) (L' := LW W (uZ (uZ (uZ (uZ z 22 (z 232)) 23 (z 233)) 24 (z 234)) 25 (z 235)) (uA (uA f 3 (cpW (f 24) (f 3) 120)) 4 (cpW (f 25) (f 4) 144))) 1 (br3_90_12 call (z 235) _ (uZ (uZ (uZ z 22 (z 232)) 23 (z 233)) 24 (z 234)) (uA (uA f 3 (cpW (f 24) (f 3) 120)) 4 (cpW (f 25) (f 4) 144))) ?_
  refine xc_b (i' := 35) (ls' := [some (vR 2), some (vR 23)]) (st' := [vI (z 236), vR 2]) (L' := LW W (uZ (uZ (uZ (uZ z 22 (z 232)) 23 (z 233)) 24 (z 234)) 25 (z 235)) (uA (uA f 3 (cpW (f 24) (f 3) 120)) 4 (cpW (f 25) (f 4) 144))) 3 (br3_90_13 call (uZ (uZ (uZ (uZ z 22 (z 232)) 23 (z 233)) 24 (z 234)) 25 (z 235)) (uA (uA f 3 (cpW (f 24) (f 3) 120)) 4 (cpW (f 25) (f 4) 144))) ?_
  refine xc_b (i' := 36) (ls' := [some (vR 2), some (vR 23)]) (st' := []) (L' := LW W (uZ (uZ (uZ (uZ (uZ z 22 (z 232)) 23 (z 233)) 24 (z 234)) 25 (z 235)) 26 (z 236)) (uA (uA f 3 (cpW (f 24) (f 3) 120)) 4 (cpW (f 25) (f 4) 144))) 1 (br3_90_14 call (z 236) _ (uZ (uZ (uZ (uZ z 22 (z 232)) 23 (z 233)) 24 (z 234)) 25 (z 235)) (uA (uA f 3 (cpW (f 24) (f 3) 120)) 4 (cpW (f 25) (f 4) 144))) ?_
  refine xc_b (i' := 39) (ls' := [some (vR 2), some (vR 23)]) (st' := [vI (z 237), vR 2]) (L' := LW W (uZ (uZ (uZ (uZ (uZ z 22 (z 232)) 23 (z 233)) 24 (z 234)) 25 (z 235)) 26 (z 236)) (uA (uA f 3 (cpW (f 24) (f 3) 120)) 4 (cpW (f 25) (f 4) 144))) 3 (br3_90_15 call (uZ (uZ (uZ (uZ (uZ z 22 (z 232)) 23 (z 233)) 24 (z 234)) 25 (z 235)) 26 (z 236)) (uA (uA f 3 (cpW (f 24) (f 3) 120)) 4 (cpW (f 25) (f 4) 144))) ?_
  refine xc_b (i' := 40) (ls' := [some (vR 2), some (vR 23)]) (st' := []) (L' := LW W (uZ (uZ (uZ (uZ (uZ (uZ z 22 (z 232)) 23 (z 233)) 24 (z 234)) 25 (z 235)) 26 (z 236)) 27 (z 237)) (uA (uA f 3 (cpW (f 24) (f 3) 120)) 4 (cpW (f 25) (f 4) 144))) 1 (br3_90_16 call (z 237) _ (uZ (uZ (uZ (uZ (uZ z 22 (z 232)) 23 (z 233)) 24 (z 234)) 25 (z 235)) 26 (z 236)) (uA (uA f 3 (cpW (f 24) (f 3) 120)) 4 (cpW (f 25) (f 4) 144))) ?_
  refine xc_b (i' := 43) (ls' := [some (vR 2), some (vR 23)]) (st' := [vI (z 238), vR 2]) (L' := LW W (uZ (uZ (uZ (uZ (uZ (uZ z 22 (z 232)) 23 (z 233)) 24 (z 234)) 25 (z 235)) 26 (z 236)) 27 (z 237)) (uA (uA f 3 (cpW (f 24) (f 3) 120)) 4 (cpW (f 25) (f 4) 144))) 3 (br3_90_17 call (uZ (uZ (uZ (uZ (uZ (uZ z 22 (z 232)) 23 (z 233)) 24 (z 234)) 25 (z 235)) 26 (z 236)) 27 (z 237)) (uA (uA f 3 (cpW (f 24) (f 3) 120)) 4 (cpW (f 25) (f 4) 144))) ?_
  refine xc_b (i' := 44) (ls' := [some (vR 2), some (vR 23)]) (st' := []) (L' := LW W (uZ (uZ (uZ (uZ (uZ (uZ (uZ z 22 (z 232)) 23 (z 233)) 24 (z 234)) 25 (z 235)) 26 (z 236)) 27 (z 237)) 28 (z 238)) (uA (uA f 3 (cpW (f 24) (f 3) 120)) 4 (cpW (f 25) (f 4) 144))) 1 (br3_90_18 call (z 238) _ (uZ (uZ (uZ (uZ (uZ (uZ z 22 (z 232)) 23 (z 233)) 24 (z 234)) 25 (z 235)) 26 (z 236)) 27 (z 237)) (uA (uA f 3 (cpW (f 24) (f 3) 120)) 4 (cpW (f 25) (f 4) 144))) ?_
  refine xc_b (i' := 47) (ls' := [some (vR 2), some (vR 23)]) (st' := [vI (z 239), vR 2]) (L' := LW W (uZ (uZ (uZ (uZ (uZ (uZ (uZ z 22 (z 232)) 23 (z 233)) 24 (z 234)) 25 (z 235)) 26 (z 236)) 27 (z 237)) 28 (z 238)) (uA (uA f 3 (cpW (f 24) (f 3) 120)) 4 (cpW (f 25) (f 4) 144))) 3 (br3_90_19 call (uZ (uZ (uZ (uZ (uZ (uZ (uZ z 22 (z 232)) 23 (z 233)) 24 (z 234)) 25 (z 235)) 26 (z 236)) 27 (z 237)) 28 (z 238)) (uA (uA f 3 (cpW (f 24) (f 3) 120)) 4 (cpW (f 25) (f 4) 144))) ?_
  refine xc_b (i' := 48) (ls' := [some (vR 2), some (vR 23)]) (st' := []) (L' := LW W (uZ (uZ (uZ (uZ (uZ (uZ (uZ (uZ z 22 (z 232)) 23 (z 233)) 24 (z 234)) 25 (z 235)) 26 (z 236)) 27 (z 237)) 28 (z 238)) 29 (z 239)) (uA (uA f 3 (cpW (f 24) (f 3) 120)) 4 (cpW (f 25) (f 4) 144))) 1 (br3_90_20 call (z 239) _ (uZ (uZ (uZ (uZ (uZ (uZ (uZ z 22 (z 232)) 23 (z 233)) 24 (z 234)) 25 (z 235)) 26 (z 236)) 27 (z 237)) 28 (z 238)) (uA (uA f 3 (cpW (f 24) (f 3) 120)) 4 (cpW (f 25) (f 4) 144))) ?_
  subst H
  exact xc_ret (br3_90_21 call _ _)
set_option maxRecDepth 100000 in
theorem bk3_141_1 (call : QC FA) (z : Nat → Int32) (f : Nat → FA) (F : Nat) : xnG call 141 (F + 2) 0 [some (vR 12), some (vR 2)] [] (LW W z f) = xnG call 141 F 2 [some (vR 12), some (vR 2)] [vI (z 122)] (LW W z f) := rfl
set_option maxRecDepth 100000 in
theorem bk3_141_2 (call : QC FA) (x : Int32) (ls : List (Option PV)) (L : QH FA) (F : Nat) : xnG call 141 (F + 1) 2 ls [vI x] L = bif pcmp 2 x 0 then xnG call 141 F 7 ls [] L else xnG call 141 F 3 ls [] L := rfl
set_option maxRecDepth 100000 in
theorem bk3_141_3 (call : QC FA) (z : Nat → Int32) (f : Nat → FA) (F : Nat) : xnG call 141 (F + 3) 3 [some (vR 12), some (vR 2)] [] (LW W z f) = xnG call 141 F 6 [some (vR 12), some (vR 2)] [vI 6, vI (z 122)] (LW W z f) := rfl
set_option maxRecDepth 100000 in
theorem bk3_141_4 (call : QC FA) (x y : Int32) (ls : List (Option PV)) (L : QH FA) (F : Nat) : xnG call 141 (F + 1) 6 ls [vI y, vI x] L = bif pcmp 2 x y then xnG call 141 F 8 ls [] L else xnG call 141 F 7 ls [] L := rfl
set_option maxRecDepth 100000 in
theorem bk3_141_5 (call : QC FA) (z : Nat → Int32) (f : Nat → FA) (F : Nat) : xnG call 141 (F + 4) 8 [some (vR 12), some (vR 2)] [] (LW W z f) = xnG call 141 F 12 [some (vR 12), some (vR 2)] [vI (z 122), vR 13] (LW W z f) := rfl
set_option maxRecDepth 100000 in
theorem bk3_141_6 (call : QC FA) (ls : List (Option PV)) (z : Nat → Int32) (f : Nat → FA) (F : Nat) : xnG call 141 (F + 1) 12 ls [vI 3, vR 13] (LW W z f) = bif ((Nat.beq 1 1 || (Nat.beq 1 2 || Nat.beq 1 3)) && pin 3 6) then xnG call 141 F 13 ls [.inr (.inl (rgW (ix 3)))] (LW W z f) else none := rfl
set_option maxRecDepth 100000 in
theorem bk3_141_7 (call : QC FA) (L : QH FA) (F : Nat) : xnG call 141 (F + 1) 13 [some (vR 12), some (vR 2)] [vR 23] L = xnG call 141 F 14 [some (vR 12), some (vR 2)] [vR 2, vR 23] L := rfl
set_option maxRecDepth 100000 in
theorem bk3_141_8 (call : QC FA) (ls : List (Option PV)) (z : Nat → Int32) (f : Nat → FA) (F : Nat) : xnG call 141 (F + 1) 14 ls [vR 2, vR 23] (LW W z f) = cbd (call 90 [vR 23, vR 2] (LW W z f)) (fun r L' => xnG call 141 F 15 ls (r.toList ++ []) L') := pcY (ih := xnG call 141 F) (call := call) (a := 90) (b := 1) (v := 0) (t := 15) (x := 23) (ls := ls) (As := [vR 2]) (st' := []) (L := LW W z f) rfl rfl rfl
set_option maxRecDepth 100000 in
theorem bk3_141_9 (call : QC FA) (z : Nat → Int32) (f : Nat → FA) (F : Nat) : xnG call 141 (F + 6) 15 [some (vR 12), some (vR 2)] [] (LW W z f) = xnG call 141 F 21 [some (vR 12), some (vR 2)] [vI 6, vI ((z 122) + 1), vR 12] (LW W z f) := rfl
set_option maxRecDepth 100000 in
theorem bk3_141_10 (call : QC FA) (x y : Int32) (ls : List (Option PV)) (L : QH FA) (F : Nat) : xnG call 141 (F + 1) 21 ls [vI y, vI x, vR 12] L = bif pcmp 3 x y then xnG call 141 F 27 ls [vR 12] L else xnG call 141 F 22 ls [vR 12] L := rfl
set_option maxRecDepth 100000 in
theorem bk3_141_11 (call : QC FA) (L : QH FA) (F : Nat) : xnG call 141 (F + 1) 27 [some (vR 12), some (vR 2)] [vR 12] L = xnG call 141 F 28 [some (vR 12), some (vR 2)] [vI 0, vR 12] L := rfl
set_option maxRecDepth 100000 in
theorem bk3_141_12 (call : QC FA) (y : Int32) (ls : List (Option PV)) (z : Nat → Int32) (f : Nat → FA) (F : Nat) : xnG call 141 (F + 1) 28 ls [vI y, vR 12] (LW W z f) = xnG call 141 F 29 ls [] (LW W (uZ z 122 y) f) := rfl
set_option maxRecDepth 100000 in
theorem bk3_141_13 (call : QC FA) (z : Nat → Int32) (f : Nat → FA) (F : Nat) : xnG call 141 (F + 6) 29 [some (vR 12), some (vR 2)] [] (LW W z f) = xnG call 141 F 35 [some (vR 12), some (vR 2)] [vI 6, vI ((z 123) + 1), vR 12] (LW W z f) := rfl
set_option maxRecDepth 100000 in
theorem bk3_141_14 (call : QC FA) (x y : Int32) (ls : List (Option PV)) (L : QH FA) (F : Nat) : xnG call 141 (F + 1) 35 ls [vI y, vI x, vR 12] L = bif pcmp 2 y x then xnG call 141 F 36 ls [vI y, vR 12] L else xnG call 141 F 36 ls [vI x, vR 12] L := pmn (xnG call 141 F) 36 x y ls [vR 12] L rfl
set_option maxRecDepth 100000 in
theorem bk3_141_15 (call : QC FA) (y : Int32) (ls : List (Option PV)) (z : Nat → Int32) (f : Nat → FA) (F : Nat) : xnG call 141 (F + 1) 36 ls [vI y, vR 12] (LW W z f) = xnG call 141 F 37 ls [] (LW W (uZ z 123 y) f) := rfl
set_option maxRecDepth 100000 in
theorem bk3_141_16 (call : QC FA) (ls : List (Option PV)) (L : QH FA) (F : Nat) : xnG call 141 (F + 1) 37 ls [] L = some (none, L) := rfl
set_option maxRecDepth 100000 in
theorem bk3_141_17 (call : QC FA) (z : Nat → Int32) (f : Nat → FA) (F : Nat) : xnG call 141 (F + 5) 22 [some (vR 12), some (vR 2)] [vR 12] (LW W z f) = xnG call 141 F 28 [some (vR 12), some (vR 2)] [vI ((z 122) + 1), vR 12] (LW W z f) := rfl
theorem vck3_141_0 (call : QC FA) (z : Nat → Int32) (f : Nat → FA) (res : Option PV × QH FA) (H : (∃ (z1 : Nat → Int32) (f1 : Nat → FA), call 90 [vR 23, vR 2] (LW W (uZ z 122 3) f) = some (none, LW W z1 f1) ∧ ((6 ≤ I ((z1 122) + 1) → ((6 < I ((z1 123) + 1) → res = (none, LW W (uZ (uZ z1 122 0) 123 6) f1)) ∧ (I ((z1 123) + 1) ≤ 6 → res = (none, LW W (uZ (uZ z1 122 0) 123 ((z1 123) + 1)) f1)))) ∧ (I ((z1 122) + 1) < 6 → ((6 < I ((z1 123) + 1) → res = (none, LW W (uZ (uZ z1 122 ((z1 122) + 1)) 123 6) f1)) ∧ (I ((z1 123) + 1) ≤ 6 → res = (none, LW W (uZ (uZ z1 122 ((z1 122) + 1)) 123 ((z1 123) + 1)) f1))))))) : XC call (mP 141) 0 [some (vR 12), some (vR 2)] [] (LW W (uZ z 122 3) f) res := by
  refine xc_b (i' := 2) (ls' := [some (vR 12), some (vR 2)]) (st' := [vI 3]) (L' := LW W (uZ z 122 3) f) 2 (bk3_141_1 call (uZ z 122 3) f) ?_
  refine xc_f (it := 7) (ie := 3) (ls' := [some (vR 12), some (vR 2)]) (st' := []) (bk3_141_2 call 3 _ _) (by decide) ?_
  refine xc_b (i' := 6) (ls' := [some (vR 12), some (vR 2)]) (st' := [vI 6, vI 3]) (L' := LW W (uZ z 122 3) f) 3 (bk3_141_3 call (uZ z 122 3) f) ?_
  refine xc_t (it := 8) (ie := 7) (ls' := [some (vR 12), some (vR 2)]) (st' := []) (bk3_141_4 call 3 6 _ _) (by decide) ?_
  refine xc_b (i' := 12) (ls' := [some (vR 12), some (vR 2)]) (st' := [vI 3, vR 13]) (L' := LW W (uZ z 122 3) f) 4 (bk3_141_5 call (uZ z 122 3) f) ?_
  refine xc_g (i' := 13) (ls' := [some (vR 12), some (vR 2)]) (st' := [.inr (.inl (rgW (ix 3)))]) (L' := LW W (uZ z 122 3) f) (bk3_141_6 call _ (uZ z 122 3) f) (by decide) ?_
  show XC call (mP 141) 13 [some (vR 12), some (vR 2)] [vR 23] (LW W (uZ z 122 3) f) res
  refine xc_b (i' := 14) (ls' := [some (vR 12), some (vR 2)]) (st' := [vR 2, vR 23]) (L' := LW W (uZ z 122 3) f) 1 (bk3_141_7 call _) ?_
  obtain ⟨z1, f1, hc, H⟩ := H
  refine xc_call (t := 15) (ls' := [some (vR 12), some (vR 2)]) (st' := []) (bk3_141_8 call _ (uZ z 122 3) f) hc ?_
  show XC call (mP 141) 15 [some (vR 12), some (vR 2)] [] (LW W z1 f1) res
  refine xc_b (i' := 21) (ls' := [some (vR 12), some (vR 2)]) (st' := [vI 6, vI ((z1 122) + 1), vR 12]) (L' := LW W z1 f1) 6 (bk3_141_9 call z1 f1) ?_
  refine xc_if (it := 27) (ie := 22) (ls' := [some (vR 12), some (vR 2)]) (st' := [vR 12]) (bk3_141_10 call ((z1 122) + 1) 6 _ _) (fun q1 => ?_) (fun q1 => ?_)
  · have H := H.1 (cI3t q1 rfl rfl)
    refine xc_b (i' := 28) (ls' := [some (vR 12), some (vR 2)]) (st' := [vI 0, vR 12]) (L' := LW W z1 f1) 1 (bk3_141_11 call _) ?_
    refine xc_b (i' := 29) (ls' := [some (vR 12), some (vR 2)]) (st' := []) (L' := LW W (uZ z1 122 0) f1) 1 (bk3_141_12 call 0 _ z1 f1) ?_
    refine xc_b (i' := 35) (ls' := [some (vR 12), some (vR 2)]) (st' := [vI 6, vI ((z1 123) + 1), vR 12]) (L' := LW W (uZ z1 122 0) f1) 6 (bk3_141_13 call (uZ z1 122 0) f1) ?_
    refine xc_if2 (it := 36) (ie := 36) (ls' := [some (vR 12), some (vR 2)]) (st1 := [vI 6, vR 12]) (st2 := [vI ((z1 123) + 1), vR 12]) (bk3_141_14 call ((z1 123) + 1) 6 _ _) (fun q2 => ?_) (fun q2 => ?_)
    · have H := H.1 (cI2t q2 rfl rfl)
      refine xc_b (i' := 37) (ls' := [some (vR 12), some (vR 2)]) (st' := []) (L' := LW W (uZ (uZ z1 122 0) 123 6) f1) 1 (bk3_141_15 call 6 _ (uZ z1 122 0) f1) ?_
      subst H
      exact xc_ret (bk3_141_16 call _ _)
    · have H := H.2 (cI2f q2 rfl rfl)
      refine xc_b (i' := 37) (ls' := [some (vR 12), some (vR 2)]) (st' := []) (L' := LW W (uZ (uZ z1 122 0) 123 ((z1 123) + 1)) f1) 1 (bk3_141_15 call ((z1 123) + 1) _ (uZ z1 122 0) f1) ?_
      subst H
      exact xc_ret (bk3_141_16 call _ _)
  · have H := H.2 (cI3f q1 rfl rfl)
    refine xc_b (i' := 28) (ls' := [some (vR 12), some (vR 2)]) (st' := [vI ((z1 122) + 1), vR 12]) (L' := LW W z1 f1) 5 (bk3_141_17 call z1 f1) ?_
    refine xc_b (i' := 29) (ls' := [some (vR 12), some (vR 2)]) (st' := []) (L' := LW W (uZ z1 122 ((z1 122) + 1)) f1) 1 (bk3_141_12 call ((z1 122) + 1) _ z1 f1) ?_
    refine xc_b (i' := 35) (ls' := [some (vR 12), some (vR 2)]) (st' := [vI 6, vI ((z1 123) + 1), vR 12]) (L' := LW W (uZ z1 122 ((z1 122) + 1)) f1) 6 (bk3_141_13 call (uZ z1 122 ((z1 122) + 1)) f1) ?_
    refine xc_if2 (it := 36) (ie := 36) (ls' := [some (vR 12), some (vR 2)]) (st1 := [vI 6, vR 12]) (st2 := [vI ((z1 123) + 1), vR 12]) (bk3_141_14 call ((z1 123) + 1) 6 _ _) (fun q3 => ?_) (fun q3 => ?_)
    · have H := H.1 (cI2t q3 rfl rfl)
      refine xc_b (i' := 37) (ls' := [some (vR 12), some (vR 2)]) (st' := []) (L' := LW W (uZ (uZ z1 122 ((z1 122) + 1)) 123 6) f1) 1 (bk3_141_15 call 6 _ (uZ z1 122 ((z1 122) + 1)) f1) ?_
      subst H
      exact xc_ret (bk3_141_16 call _ _)
    · have H := H.2 (cI2f q3 rfl rfl)
      refine xc_b (i' := 37) (ls' := [some (vR 12), some (vR 2)]) (st' := []) (L' := LW W (uZ (uZ z1 122 ((z1 122) + 1)) 123 ((z1 123) + 1)) f1) 1 (bk3_141_15 call ((z1 123) + 1) _ (uZ z1 122 ((z1 122) + 1)) f1) ?_
      subst H
      exact xc_ret (bk3_141_16 call _ _)
set_option maxRecDepth 100000 in
theorem bb3_140_1 (call : QC FA) (z : Nat → Int32) (f : Nat → FA) (F : Nat) : xnG call 140 (F + 2) 0 [some (vR 12), some (vR 2)] [] (LW W z f) = xnG call 140 F 2 [some (vR 12), some (vR 2)] [vI (z 123)] (LW W z f) := rfl
set_option maxRecDepth 100000 in
theorem bb3_140_2 (call : QC FA) (x : Int32) (ls : List (Option PV)) (L : QH FA) (F : Nat) : xnG call 140 (F + 1) 2 ls [vI x] L = bif pcmp 0 x 0 then xnG call 140 F 10 ls [] L else xnG call 140 F 3 ls [] L := rfl
set_option maxRecDepth 100000 in
theorem bb3_140_3 (call : QC FA) (L : QH FA) (F : Nat) : xnG call 140 (F + 1) 10 [some (vR 12), some (vR 2)] [] L = xnG call 140 F 11 [some (vR 12), some (vR 2)] [vI 0] L := rfl
set_option maxRecDepth 100000 in
theorem bb3_140_4 (call : QC FA) (ls : List (Option PV)) (L : QH FA) (F : Nat) : xnG call 140 (F + 1) 11 ls [vI 0] L = some (some (vI 0), L) := rfl
set_option maxRecDepth 100000 in
theorem bb3_140_5 (call : QC FA) (z : Nat → Int32) (f : Nat → FA) (F : Nat) : xnG call 140 (F + 2) 3 [some (vR 12), some (vR 2)] [] (LW W z f) = xnG call 140 F 5 [some (vR 12), some (vR 2)] [vI (z 122)] (LW W z f) := rfl
set_option maxRecDepth 100000 in
theorem bb3_140_6 (call : QC FA) (x : Int32) (ls : List (Option PV)) (L : QH FA) (F : Nat) : xnG call 140 (F + 1) 5 ls [vI x] L = bif pcmp 2 x 0 then xnG call 140 F 10 ls [] L else xnG call 140 F 6 ls [] L := rfl
set_option maxRecDepth 100000 in
theorem bb3_140_7 (call : QC FA) (z : Nat → Int32) (f : Nat → FA) (F : Nat) : xnG call 140 (F + 3) 6 [some (vR 12), some (vR 2)] [] (LW W z f) = xnG call 140 F 9 [some (vR 12), some (vR 2)] [vI 6, vI (z 122)] (LW W z f) := rfl
set_option maxRecDepth 100000 in
theorem bb3_140_8 (call : QC FA) (x y : Int32) (ls : List (Option PV)) (L : QH FA) (F : Nat) : xnG call 140 (F + 1) 9 ls [vI y, vI x] L = bif pcmp 2 x y then xnG call 140 F 12 ls [] L else xnG call 140 F 10 ls [] L := rfl
set_option maxRecDepth 100000 in
theorem bb3_140_9 (call : QC FA) (z : Nat → Int32) (f : Nat → FA) (F : Nat) : xnG call 140 (F + 3) 12 [some (vR 12), some (vR 2)] [] (LW W z f) = xnG call 140 F 15 [some (vR 12), some (vR 2)] [vI (z 122), vR 12] (LW W z f) := rfl
set_option maxRecDepth 100000 in
theorem bb3_140_10 (call : QC FA) (x : Int32) (ls : List (Option PV)) (L : QH FA) (F : Nat) : xnG call 140 (F + 1) 15 ls [vI x, vR 12] L = bif pcmp 5 x 0 then xnG call 140 F 21 ls [vR 12] L else xnG call 140 F 16 ls [vR 12] L := rfl
set_option maxRecDepth 100000 in
theorem bb3_140_11 (call : QC FA) (z : Nat → Int32) (f : Nat → FA) (F : Nat) : xnG call 140 (F + 5) 16 [some (vR 12), some (vR 2)] [vR 12] (LW W z f) = xnG call 140 F 22 [some (vR 12), some (vR 2)] [vI ((z 122) - 1), vR 12] (LW W z f) := rfl
set_option maxRecDepth 100000 in
theorem bb3_140_12 (call : QC FA) (y : Int32) (ls : List (Option PV)) (z : Nat → Int32) (f : Nat → FA) (F : Nat) : xnG call 140 (F + 1) 22 ls [vI y, vR 12] (LW W z f) = xnG call 140 F 23 ls [] (LW W (uZ z 122 y) f) := rfl
set_option maxRecDepth 100000 in
theorem bb3_140_13 (call : QC FA) (z : Nat → Int32) (f : Nat → FA) (F : Nat) : xnG call 140 (F + 5) 23 [some (vR 12), some (vR 2)] [] (LW W z f) = xnG call 140 F 28 [some (vR 12), some (vR 2)] [vI ((z 123) - 1), vR 12] (LW W z f) := rfl
set_option maxRecDepth 100000 in
theorem bb3_140_14 (call : QC FA) (y : Int32) (ls : List (Option PV)) (z : Nat → Int32) (f : Nat → FA) (F : Nat) : xnG call 140 (F + 1) 28 ls [vI y, vR 12] (LW W z f) = xnG call 140 F 29 ls [] (LW W (uZ z 123 y) f) := rfl
set_option maxRecDepth 100000 in
theorem bb3_140_15 (call : QC FA) (z : Nat → Int32) (f : Nat → FA) (F : Nat) : xnG call 140 (F + 5) 29 [some (vR 12), some (vR 2)] [] (LW W z f) = xnG call 140 F 34 [some (vR 12), some (vR 2)] [vI (z 122), vR 13, vR 2] (LW W z f) := rfl
set_option maxRecDepth 100000 in
theorem bb3_140_16 (call : QC FA) (ls : List (Option PV)) (z : Nat → Int32) (f : Nat → FA) (F : Nat) : xnG call 140 (F + 1) 34 ls [vI 2, vR 13, vR 2] (LW W z f) = bif ((Nat.beq 1 1 || (Nat.beq 1 2 || Nat.beq 1 3)) && pin 2 6) then xnG call 140 F 35 ls [.inr (.inl (rgW (ix 2))), vR 2] (LW W z f) else none := rfl
set_option maxRecDepth 100000 in
theorem bb3_140_17 (call : QC FA) (ls : List (Option PV)) (z : Nat → Int32) (f : Nat → FA) (F : Nat) : xnG call 140 (F + 1) 35 ls [vR 20, vR 2] (LW W z f) = cbd (call 90 [vR 2, vR 20] (LW W z f)) (fun r L' => xnG call 140 F 36 ls (r.toList ++ []) L') := pcY (ih := xnG call 140 F) (call := call) (a := 90) (b := 1) (v := 0) (t := 36) (x := 2) (ls := ls) (As := [vR 20]) (st' := []) (L := LW W z f) rfl rfl rfl
set_option maxRecDepth 100000 in
theorem bb3_140_18 (call : QC FA) (L : QH FA) (F : Nat) : xnG call 140 (F + 1) 36 [some (vR 12), some (vR 2)] [] L = xnG call 140 F 37 [some (vR 12), some (vR 2)] [vI 1] L := rfl
set_option maxRecDepth 100000 in
theorem bb3_140_19 (call : QC FA) (ls : List (Option PV)) (L : QH FA) (F : Nat) : xnG call 140 (F + 1) 37 ls [vI 1] L = some (some (vI 1), L) := rfl
theorem vcb3_140_0 (call : QC FA) (z : Nat → Int32) (f : Nat → FA) (res : Option PV × QH FA) (H : ((z 123 = 0 → res = (some (vI 0), LW W (uZ z 122 3) f)) ∧ (¬ z 123 = 0 → (∃ (z1 : Nat → Int32) (f1 : Nat → FA), call 90 [vR 2, vR 20] (LW W (uZ (uZ (uZ z 122 3) 122 2) 123 ((z 123) - 1)) f) = some (none, LW W z1 f1) ∧ res = (some (vI 1), LW W z1 f1))))) : XC call (mP 140) 0 [some (vR 12), some (vR 2)] [] (LW W (uZ z 122 3) f) res := by
  refine xc_b (i' := 2) (ls' := [some (vR 12), some (vR 2)]) (st' := [vI (z 123)]) (L' := LW W (uZ z 122 3) f) 2 (bb3_140_1 call (uZ z 122 3) f) ?_
  refine xc_if (it := 10) (ie := 3) (ls' := [some (vR 12), some (vR 2)]) (st' := []) (bb3_140_2 call (z 123) _ _) (fun q1 => ?_) (fun q1 => ?_)
  · have H := H.1 (cI0t q1)
    refine xc_b (i' := 11) (ls' := [some (vR 12), some (vR 2)]) (st' := [vI 0]) (L' := LW W (uZ z 122 3) f) 1 (bb3_140_3 call _) ?_
    subst H
    exact xc_ret (bb3_140_4 call _ _)
  · have H := H.2 (cI0f q1)
    refine xc_b (i' := 5) (ls' := [some (vR 12), some (vR 2)]) (st' := [vI 3]) (L' := LW W (uZ z 122 3) f) 2 (bb3_140_5 call (uZ z 122 3) f) ?_
    refine xc_f (it := 10) (ie := 6) (ls' := [some (vR 12), some (vR 2)]) (st' := []) (bb3_140_6 call 3 _ _) (by decide) ?_
    refine xc_b (i' := 9) (ls' := [some (vR 12), some (vR 2)]) (st' := [vI 6, vI 3]) (L' := LW W (uZ z 122 3) f) 3 (bb3_140_7 call (uZ z 122 3) f) ?_
    refine xc_t (it := 12) (ie := 10) (ls' := [some (vR 12), some (vR 2)]) (st' := []) (bb3_140_8 call 3 6 _ _) (by decide) ?_
    refine xc_b (i' := 15) (ls' := [some (vR 12), some (vR 2)]) (st' := [vI 3, vR 12]) (L' := LW W (uZ z 122 3) f) 3 (bb3_140_9 call (uZ z 122 3) f) ?_
    refine xc_f (it := 21) (ie := 16) (ls' := [some (vR 12), some (vR 2)]) (st' := [vR 12]) (bb3_140_10 call 3 _ _) (by decide) ?_
    refine xc_b (i' := 22) (ls' := [some (vR 12), some (vR 2)]) (st' := [vI (3 - 1), vR 12]) (L' := LW W (uZ z 122 3) f) 5 (bb3_140_11 call (uZ z 122 3) f) ?_
    rw [show ((3 : Int32) - 1 : Int32) = 2 from by decide]
    refine xc_b (i' := 23) (ls' := [some (vR 12), some (vR 2)]) (st' := []) (L' := LW W (uZ (uZ z 122 3) 122 2) f) 1 (bb3_140_12 call 2 _ (uZ z 122 3) f) ?_
    refine xc_b (i' := 28) (ls' := [some (vR 12), some (vR 2)]) (st' := [vI ((z 123) - 1), vR 12]) (L' := LW W (uZ (uZ z 122 3) 122 2) f) 5 (bb3_140_13 call (uZ (uZ z 122 3) 122 2) f) ?_
    refine xc_b (i' := 29) (ls' := [some (vR 12), some (vR 2)]) (st' := []) (L' := LW W (uZ (uZ (uZ z 122 3) 122 2) 123 ((z 123) - 1)) f) 1 (bb3_140_14 call ((z 123) - 1) _ (uZ (uZ z 122 3) 122 2) f) ?_
    refine xc_b (i' := 34) (ls' := [some (vR 12), some (vR 2)]) (st' := [vI 2, vR 13, vR 2]) (L' := LW W (uZ (uZ (uZ z 122 3) 122 2) 123 ((z 123) - 1)) f) 5 (bb3_140_15 call (uZ (uZ (uZ z 122 3) 122 2) 123 ((z 123) - 1)) f) ?_
    refine xc_g (i' := 35) (ls' := [some (vR 12), some (vR 2)]) (st' := [.inr (.inl (rgW (ix 2))), vR 2]) (L' := LW W (uZ (uZ (uZ z 122 3) 122 2) 123 ((z 123) - 1)) f) (bb3_140_16 call _ (uZ (uZ (uZ z 122 3) 122 2) 123 ((z 123) - 1)) f) (by decide) ?_
    show XC call (mP 140) 35 [some (vR 12), some (vR 2)] [vR 20, vR 2] (LW W (uZ (uZ (uZ z 122 3) 122 2) 123 ((z 123) - 1)) f) res
    obtain ⟨z1, f1, hc, H⟩ := H
    refine xc_call (t := 36) (ls' := [some (vR 12), some (vR 2)]) (st' := []) (bb3_140_17 call _ (uZ (uZ (uZ z 122 3) 122 2) 123 ((z 123) - 1)) f) hc ?_
    show XC call (mP 140) 36 [some (vR 12), some (vR 2)] [] (LW W z1 f1) res
    refine xc_b (i' := 37) (ls' := [some (vR 12), some (vR 2)]) (st' := [vI 1]) (L' := LW W z1 f1) 1 (bb3_140_18 call _) ?_
    subst H
    exact xc_ret (bb3_140_19 call _ _)
set_option maxRecDepth 100000 in
theorem bt4_90_1 (call : QC FA) (z : Nat → Int32) (f : Nat → FA) (F : Nat) : xnG call 90 (F + 7) 0 [some (vR 26), some (vR 2)] [] (LW W z f) = xnG call 90 F 7 [some (vR 26), some (vR 2)] [vI 120, vI 0, vR 27, vI 0, vR 3] (LW W z f) := rfl
set_option maxRecDepth 100000 in
theorem bt4_90_2 (call : QC FA) (ls : List (Option PV)) (z : Nat → Int32) (f : Nat → FA) (F : Nat) : xnG call 90 (F + 1) 7 ls [vI 120, vI 0, vR 27, vI 0, vR 3] (LW W z f) = bif (Nat.beq 0 0 && (Nat.beq 0 0 && (pcmp 3 0 0 && (pcmp 3 0 0 && (pcmp 3 120 0 && (Nat.ble (ix 0 + ix 120) 120 && (Nat.ble (ix 0 + ix 120) 120 && Nat.ble 0 8))))))) then xnG call 90 F 8 ls [] (LW W z (uA f 27 (va_cpy (f 3) (f 27) (ix 0) (ix 0) (ix 120)))) else none := rfl
set_option maxRecDepth 100000 in
theorem bt4_90_3 (call : QC FA) (z : Nat → Int32) (f : Nat → FA) (F : Nat) : xnG call 90 (F + 7) 8 [some (vR 26), some (vR 2)] [] (LW W z f) = xnG call 90 F 15 [some (vR 26), some (vR 2)] [vI 144, vI 0, vR 28, vI 0, vR 4] (LW W z f) := rfl
set_option maxRecDepth 100000 in
theorem bt4_90_4 (call : QC FA) (ls : List (Option PV)) (z : Nat → Int32) (f : Nat → FA) (F : Nat) : xnG call 90 (F + 1) 15 ls [vI 144, vI 0, vR 28, vI 0, vR 4] (LW W z f) = bif (Nat.beq 0 0 && (Nat.beq 0 0 && (pcmp 3 0 0 && (pcmp 3 0 0 && (pcmp 3 144 0 && (Nat.ble (ix 0 + ix 144) 144 && (Nat.ble (ix 0 + ix 144) 144 && Nat.ble 0 8))))))) then xnG call 90 F 16 ls [] (LW W z (uA f 28 (va_cpy (f 4) (f 28) (ix 0) (ix 0) (ix 144)))) else none := rfl
set_option maxRecDepth 100000 in
theorem bt4_90_5 (call : QC FA) (z : Nat → Int32) (f : Nat → FA) (F : Nat) : xnG call 90 (F + 3) 16 [some (vR 26), some (vR 2)] [] (LW W z f) = xnG call 90 F 19 [some (vR 26), some (vR 2)] [vI (z 22), vR 26] (LW W z f) := rfl
set_option maxRecDepth 100000 in
theorem bt4_90_6 (call : QC FA) (y : Int32) (ls : List (Option PV)) (z : Nat → Int32) (f : Nat → FA) (F : Nat) : xnG call 90 (F + 1) 19 ls [vI y, vR 26] (LW W z f) = xnG call 90 F 20 ls [] (LW W (uZ z 262 y) f) := rfl
set_option maxRecDepth 100000 in
theorem bt4_90_7 (call : QC FA) (z : Nat → Int32) (f : Nat → FA) (F : Nat) : xnG call 90 (F + 3) 20 [some (vR 26), some (vR 2)] [] (LW W z f) = xnG call 90 F 23 [some (vR 26), some (vR 2)] [vI (z 23), vR 26] (LW W z f) := rfl
set_option maxRecDepth 100000 in
theorem bt4_90_8 (call : QC FA) (y : Int32) (ls : List (Option PV)) (z : Nat → Int32) (f : Nat → FA) (F : Nat) : xnG call 90 (F + 1) 23 ls [vI y, vR 26] (LW W z f) = xnG call 90 F 24 ls [] (LW W (uZ z 263 y) f) := rfl
set_option maxRecDepth 100000 in
theorem bt4_90_9 (call : QC FA) (z : Nat → Int32) (f : Nat → FA) (F : Nat) : xnG call 90 (F + 3) 24 [some (vR 26), some (vR 2)] [] (LW W z f) = xnG call 90 F 27 [some (vR 26), some (vR 2)] [vI (z 24), vR 26] (LW W z f) := rfl
set_option maxRecDepth 100000 in
theorem bt4_90_10 (call : QC FA) (y : Int32) (ls : List (Option PV)) (z : Nat → Int32) (f : Nat → FA) (F : Nat) : xnG call 90 (F + 1) 27 ls [vI y, vR 26] (LW W z f) = xnG call 90 F 28 ls [] (LW W (uZ z 264 y) f) := rfl
set_option maxRecDepth 100000 in
theorem bt4_90_11 (call : QC FA) (z : Nat → Int32) (f : Nat → FA) (F : Nat) : xnG call 90 (F + 3) 28 [some (vR 26), some (vR 2)] [] (LW W z f) = xnG call 90 F 31 [some (vR 26), some (vR 2)] [vI (z 25), vR 26] (LW W z f) := rfl
set_option maxRecDepth 100000 in
theorem bt4_90_12 (call : QC FA) (y : Int32) (ls : List (Option PV)) (z : Nat → Int32) (f : Nat → FA) (F : Nat) : xnG call 90 (F + 1) 31 ls [vI y, vR 26] (LW W z f) = xnG call 90 F 32 ls [] (LW W (uZ z 265 y) f) := rfl
set_option maxRecDepth 100000 in
theorem bt4_90_13 (call : QC FA) (z : Nat → Int32) (f : Nat → FA) (F : Nat) : xnG call 90 (F + 3) 32 [some (vR 26), some (vR 2)] [] (LW W z f) = xnG call 90 F 35 [some (vR 26), some (vR 2)] [vI (z 26), vR 26] (LW W z f) := rfl
set_option maxRecDepth 100000 in
theorem bt4_90_14 (call : QC FA) (y : Int32) (ls : List (Option PV)) (z : Nat → Int32) (f : Nat → FA) (F : Nat) : xnG call 90 (F + 1) 35 ls [vI y, vR 26] (LW W z f) = xnG call 90 F 36 ls [] (LW W (uZ z 266 y) f) := rfl
set_option maxRecDepth 100000 in
theorem bt4_90_15 (call : QC FA) (z : Nat → Int32) (f : Nat → FA) (F : Nat) : xnG call 90 (F + 3) 36 [some (vR 26), some (vR 2)] [] (LW W z f) = xnG call 90 F 39 [some (vR 26), some (vR 2)] [vI (z 27), vR 26] (LW W z f) := rfl
set_option maxRecDepth 100000 in
theorem bt4_90_16 (call : QC FA) (y : Int32) (ls : List (Option PV)) (z : Nat → Int32) (f : Nat → FA) (F : Nat) : xnG call 90 (F + 1) 39 ls [vI y, vR 26] (LW W z f) = xnG call 90 F 40 ls [] (LW W (uZ z 267 y) f) := rfl
set_option maxRecDepth 100000 in
theorem bt4_90_17 (call : QC FA) (z : Nat → Int32) (f : Nat → FA) (F : Nat) : xnG call 90 (F + 3) 40 [some (vR 26), some (vR 2)] [] (LW W z f) = xnG call 90 F 43 [some (vR 26), some (vR 2)] [vI (z 28), vR 26] (LW W z f) := rfl
set_option maxRecDepth 100000 in
theorem bt4_90_18 (call : QC FA) (y : Int32) (ls : List (Option PV)) (z : Nat → Int32) (f : Nat → FA) (F : Nat) : xnG call 90 (F + 1) 43 ls [vI y, vR 26] (LW W z f) = xnG call 90 F 44 ls [] (LW W (uZ z 268 y) f) := rfl
set_option maxRecDepth 100000 in
theorem bt4_90_19 (call : QC FA) (z : Nat → Int32) (f : Nat → FA) (F : Nat) : xnG call 90 (F + 3) 44 [some (vR 26), some (vR 2)] [] (LW W z f) = xnG call 90 F 47 [some (vR 26), some (vR 2)] [vI (z 29), vR 26] (LW W z f) := rfl
set_option maxRecDepth 100000 in
theorem bt4_90_20 (call : QC FA) (y : Int32) (ls : List (Option PV)) (z : Nat → Int32) (f : Nat → FA) (F : Nat) : xnG call 90 (F + 1) 47 ls [vI y, vR 26] (LW W z f) = xnG call 90 F 48 ls [] (LW W (uZ z 269 y) f) := rfl
set_option maxRecDepth 100000 in
theorem bt4_90_21 (call : QC FA) (ls : List (Option PV)) (L : QH FA) (F : Nat) : xnG call 90 (F + 1) 48 ls [] L = some (none, L) := rfl
theorem vct4_90_0 (call : QC FA) (z : Nat → Int32) (f : Nat → FA) (res : Option PV × QH FA) (H : res = (none, LW W (uZ (uZ (uZ (uZ (uZ (uZ (uZ (uZ z 262 (z 22)) 263 (z 23)) 264 (z 24)) 265 (z 25)) 266 (z 26)) 267 (z 27)) 268 (z 28)) 269 (z 29)) (uA (uA f 27 (cpW (f 3) (f 27) 120)) 28 (cpW (f 4) (f 28) 144)))) : XC call (mP 90) 0 [some (vR 26), some (vR 2)] [] (LW W z f) res := by
  refine xc_b (i' := 7) (ls' := [some (vR 26), some (vR 2)]) (st' := [vI 120, vI 0, vR 27, vI 0, vR 3]) (L' := LW W z f) 7 (bt4_90_1 call z f) ?_
  refine xc_g (i' := 8) (ls' := [some (vR 26), some (vR 2)]) (st' := []) (L' := LW W z (uA f 27 (va_cpy (f 3) (f 27) (ix 0) (ix 0) (ix 120)))) (bt4_90_2 call _ z f) (by decide) ?_
  rw [cpW_e (f := f 3) (g := f 27) (a := 0) (b := 0) (n := 120) (N := 120) (by decide) (by decide) (by decide)]
  show XC call (mP 90) 8 [some (vR 26), some (vR 2)] [] (LW W z (uA f 27 (cpW (f 3) (f 27) 120))) res
  refine xc_b (i' := 15) (ls' := [some (vR 26), some (vR 2)]) (st' := [vI 144, vI 0, vR 28, vI 0, vR 4]) (L' := LW W z (uA f 27 (cpW (f 3) (f 27) 120))) 7 (bt4_90_3 call z (uA f 27 (cpW (f 3) (f 27) 120))) ?_
  refine xc_g (i' := 16) (ls' := [some (vR 26), some (vR 2)]) (st' := []) (L' := LW W z (uA (uA f 27 (cpW (f 3) (f 27) 120)) 28 (va_cpy ((uA f 27 (cpW (f 3) (f 27) 120)) 4) ((uA f 27 (cpW (f 3) (f 27) 120)) 28) (ix 0) (ix 0) (ix 144)))) (bt4_90_4 call _ z (uA f 27 (cpW (f 3) (f 27) 120))) (by decide) ?_
  rw [cpW_e (f := (uA f 27 (cpW (f 3) (f 27) 120)) 4) (g := (uA f 27 (cpW (f 3) (f 27) 120)) 28) (a := 0) (b := 0) (n := 144) (N := 144) (by decide) (by decide) (by decide)]
  show XC call (mP 90) 16 [some (vR 26), some (vR 2)] [] (LW W z (uA (uA f 27 (cpW (f 3) (f 27) 120)) 28 (cpW (f 4) (f 28) 144))) res
  refine xc_b (i' := 19) (ls' := [some (vR 26), some (vR 2)]) (st' := [vI (z 22), vR 26]) (L' := LW W z (uA (uA f 27 (cpW (f 3) (f 27) 120)) 28 (cpW (f 4) (f 28) 144))) 3 (bt4_90_5 call z (uA (uA f 27 (cpW (f 3) (f 27) 120)) 28 (cpW (f 4) (f 28) 144))) ?_
  refine xc_b (i' := 20) (ls' := [some (vR 26), some (vR 2)]) (st' := []) (L' := LW W (uZ z 262 (z 22)) (uA (uA f 27 (cpW (f 3) (f 27) 120)) 28 (cpW (f 4) (f 28) 144))) 1 (bt4_90_6 call (z 22) _ z (uA (uA f 27 (cpW (f 3) (f 27) 120)) 28 (cpW (f 4) (f 28) 144))) ?_
  refine xc_b (i' := 23) (ls' := [some (vR 26), some (vR 2)]) (st' := [vI (z 23), vR 26]) (L' := LW W (uZ z 262 (z 22)) (uA (uA f 27 (cpW (f 3) (f 27) 120)) 28 (cpW (f 4) (f 28) 144))) 3 (bt4_90_7 call (uZ z 262 (z 22)) (uA (uA f 27 (cpW (f 3) (f 27) 120)) 28 (cpW (f 4) (f 28) 144))) ?_
  refine xc_b (i' := 24) (ls' := [some (vR 26), some (vR 2)]) (st' := []) (L' := LW W (uZ (uZ z 262 (z 22)) 263 (z 23)) (uA (uA f 27 (cpW (f 3) (f 27) 120)) 28 (cpW (f 4) (f 28) 144))) 1 (bt4_90_8 call (z 23) _ (uZ z 262 (z 22)) (uA (uA f 27 (cpW (f 3) (f 27) 120)) 28 (cpW (f 4) (f 28) 144))) ?_
  refine xc_b (i' := 27) (ls' := [some (vR 26), some (vR 2)]) (st' := [vI (z 24), vR 26]) (L' := LW W (uZ (uZ z 262 (z 22)) 263 (z 23)) (uA (uA f 27 (cpW (f 3) (f 27) 120)) 28 (cpW (f 4) (f 28) 144))) 3 (bt4_90_9 call (uZ (uZ z 262 (z 22)) 263 (z 23)) (uA (uA f 27 (cpW (f 3) (f 27) 120)) 28 (cpW (f 4) (f 28) 144))) ?_
  refine xc_b (i' := 28) (ls' := [some (vR 26), some (vR 2)]) (st' := []) (L' := LW W (uZ (uZ (uZ z 262 (z 22)) 263 (z 23)) 264 (z 24)) (uA (uA f 27 (cpW (f 3) (f 27) 120)) 28 (cpW (f 4) (f 28) 144))) 1 (bt4_90_10 call (z 24) _ (uZ (uZ z 262 (z 22)) 263 (z 23)) (uA (uA f 27 (cpW (f 3) (f 27) 120)) 28 (cpW (f 4) (f 28) 144))) ?_
  refine xc_b (i' := 31) (ls' := [some (vR 26), some (vR 2)]) (st' := [vI (z 25), vR 26]) (L' := LW W (uZ (uZ (uZ z 262 (z 22)) 263 (z 23)) 264 (z 24)) (uA (uA f 27 (cpW (f 3) (f 27) 120)) 28 (cpW (f 4) (f 28) 144))) 3 (bt4_90_11 call (uZ (uZ (uZ z 262 (z 22)) 263 (z 23)) 264 (z 24)) (uA (uA f 27 (cpW (f 3) (f 27) 120)) 28 (cpW (f 4) (f 28) 144))) ?_
  refine xc_b (i' := 32) (ls' := [some (vR 26), some (vR 2)]) (st' := []) (L' := LW W (uZ (uZ (uZ (uZ z 262 (z 22)) 263 (z 23)) 264 (z 24)) 265 (z 25)) (uA (uA f 27 (cpW (f 3) (f 27) 120)) 28 (cpW (f 4) (f 28) 144))) 1 (bt4_90_12 call (z 25) _ (uZ (uZ (uZ z 262 (z 22)) 263 (z 23)) 264 (z 24)) (uA (uA f 27 (cpW (f 3) (f 27) 120)) 28 (cpW (f 4) (f 28) 144))) ?_
  refine xc_b (i' := 35) (ls' := [some (vR 26), some (vR 2)]) (st' := [vI (z 26), vR 26]) (L' := LW W (uZ (uZ (uZ (uZ z 262 (z 22)) 263 (z 23)) 264 (z 24)) 265 (z 25)) (uA (uA f 27 (cpW (f 3) (f 27) 120)) 28 (cpW (f 4) (f 28) 144))) 3 (bt4_90_13 call (uZ (uZ (uZ (uZ z 262 (z 22)) 263 (z 23)) 264 (z 24)) 265 (z 25)) (uA (uA f 27 (cpW (f 3) (f 27) 120)) 28 (cpW (f 4) (f 28) 144))) ?_
  refine xc_b (i' := 36) (ls' := [some (vR 26), some (vR 2)]) (st' := []) (L' := LW W (uZ (uZ (uZ (uZ (uZ z 262 (z 22)) 263 (z 23)) 264 (z 24)) 265 (z 25)) 266 (z 26)) (uA (uA f 27 (cpW (f 3) (f 27) 120)) 28 (cpW (f 4) (f 28) 144))) 1 (bt4_90_14 call (z 26) _ (uZ (uZ (uZ (uZ z 262 (z 22)) 263 (z 23)) 264 (z 24)) 265 (z 25)) (uA (uA f 27 (cpW (f 3) (f 27) 120)) 28 (cpW (f 4) (f 28) 144))) ?_
  refine xc_b (i' := 39) (ls' := [some (vR 26), some (vR 2)]) (st' := [vI (z 27), vR 26]) (L' := LW W (uZ (uZ (uZ (uZ (uZ z 262 (z 22)) 263 (z 23)) 264 (z 24)) 265 (z 25)) 266 (z 26)) (uA (uA f 27 (cpW (f 3) (f 27) 120)) 28 (cpW (f 4) (f 28) 144))) 3 (bt4_90_15 call (uZ (uZ (uZ (uZ (uZ z 262 (z 22)) 263 (z 23)) 264 (z 24)) 265 (z 25)) 266 (z 26)) (uA (uA f 27 (cpW (f 3) (f 27) 120)) 28 (cpW (f 4) (f 28) 144))) ?_
  refine xc_b (i' := 40) (ls' := [some (vR 26), some (vR 2)]) (st' := []) (L' := LW W (uZ (uZ (uZ (uZ (uZ (uZ z 262 (z 22)) 263 (z 23)) 264 (z 24)) 265 (z 25)) 266 (z 26)) 267 (z 27)) (uA (uA f 27 (cpW (f 3) (f 27) 120)) 28 (cpW (f 4) (f 28) 144))) 1 (bt4_90_16 call (z 27) _ (uZ (uZ (uZ (uZ (uZ z 262 (z 22)) 263 (z 23)) 264 (z 24)) 265 (z 25)) 266 (z 26)) (uA (uA f 27 (cpW (f 3) (f 27) 120)) 28 (cpW (f 4) (f 28) 144))) ?_
  refine xc_b (i' := 43) (ls' := [some (vR 26), some (vR 2)]) (st' := [vI (z 28), vR 26]) (L' := LW W (uZ (uZ (uZ (uZ (uZ (uZ z 262 (z 22)) 263 (z 23)) 264 (z 24)) 265 (z 25)) 266 (z 26)) 267 (z 27)) (uA (uA f 27 (cpW (f 3) (f 27) 120)) 28 (cpW (f 4) (f 28) 144))) 3 (bt4_90_17 call (uZ (uZ (uZ (uZ (uZ (uZ z 262 (z 22)) 263 (z 23)) 264 (z 24)) 265 (z 25)) 266 (z 26)) 267 (z 27)) (uA (uA f 27 (cpW (f 3) (f 27) 120)) 28 (cpW (f 4) (f 28) 144))) ?_
  refine xc_b (i' := 44) (ls' := [some (vR 26), some (vR 2)]) (st' := []) (L' := LW W (uZ (uZ (uZ (uZ (uZ (uZ (uZ z 262 (z 22)) 263 (z 23)) 264 (z 24)) 265 (z 25)) 266 (z 26)) 267 (z 27)) 268 (z 28)) (uA (uA f 27 (cpW (f 3) (f 27) 120)) 28 (cpW (f 4) (f 28) 144))) 1 (bt4_90_18 call (z 28) _ (uZ (uZ (uZ (uZ (uZ (uZ z 262 (z 22)) 263 (z 23)) 264 (z 24)) 265 (z 25)) 266 (z 26)) 267 (z 27)) (uA (uA f 27 (cpW (f 3) (f 27) 120)) 28 (cpW (f 4) (f 28) 144))) ?_
  refine xc_b (i' := 47) (ls' := [some (vR 26), some (vR 2)]) (st' := [vI (z 29), vR 26]) (L' := LW W (uZ (uZ (uZ (uZ (uZ (uZ (uZ z 262 (z 22)) 263 (z 23)) 264 (z 24)) 265 (z 25)) 266 (z 26)) 267 (z 27)) 268 (z 28)) (uA (uA f 27 (cpW (f 3) (f 27) 120)) 28 (cpW (f 4) (f 28) 144))) 3 (bt4_90_19 call (uZ (uZ (uZ (uZ (uZ (uZ (uZ z 262 (z 22)) 263 (z 23)) 264 (z 24)) 265 (z 25)) 266 (z 26)) 267 (z 27)) 268 (z 28)) (uA (uA f 27 (cpW (f 3) (f 27) 120)) 28 (cpW (f 4) (f 28) 144))) ?_
  refine xc_b (i' := 48) (ls' := [some (vR 26), some (vR 2)]) (st' := []) (L' := LW W (uZ (uZ (uZ (uZ (uZ (uZ (uZ (uZ z 262 (z 22)) 263 (z 23)) 264 (z 24)) 265 (z 25)) 266 (z 26)) 267 (z 27)) 268 (z 28)) 269 (z 29)) (uA (uA f 27 (cpW (f 3) (f 27) 120)) 28 (cpW (f 4) (f 28) 144))) 1 (bt4_90_20 call (z 29) _ (uZ (uZ (uZ (uZ (uZ (uZ (uZ z 262 (z 22)) 263 (z 23)) 264 (z 24)) 265 (z 25)) 266 (z 26)) 267 (z 27)) 268 (z 28)) (uA (uA f 27 (cpW (f 3) (f 27) 120)) 28 (cpW (f 4) (f 28) 144))) ?_
  subst H
  exact xc_ret (bt4_90_21 call _ _)
set_option maxRecDepth 100000 in
theorem br4_90_1 (call : QC FA) (z : Nat → Int32) (f : Nat → FA) (F : Nat) : xnG call 90 (F + 7) 0 [some (vR 2), some (vR 26)] [] (LW W z f) = xnG call 90 F 7 [some (vR 2), some (vR 26)] [vI 120, vI 0, vR 3, vI 0, vR 27] (LW W z f) := rfl
set_option maxRecDepth 100000 in
theorem br4_90_2 (call : QC FA) (ls : List (Option PV)) (z : Nat → Int32) (f : Nat → FA) (F : Nat) : xnG call 90 (F + 1) 7 ls [vI 120, vI 0, vR 3, vI 0, vR 27] (LW W z f) = bif (Nat.beq 0 0 && (Nat.beq 0 0 && (pcmp 3 0 0 && (pcmp 3 0 0 && (pcmp 3 120 0 && (Nat.ble (ix 0 + ix 120) 120 && (Nat.ble (ix 0 + ix 120) 120 && Nat.ble 0 8))))))) then xnG call 90 F 8 ls [] (LW W z (uA f 3 (va_cpy (f 27) (f 3) (ix 0) (ix 0) (ix 120)))) else none := rfl
set_option maxRecDepth 100000 in
theorem br4_90_3 (call : QC FA) (z : Nat → Int32) (f : Nat → FA) (F : Nat) : xnG call 90 (F + 7) 8 [some (vR 2), some (vR 26)] [] (LW W z f) = xnG call 90 F 15 [some (vR 2), some (vR 26)] [vI 144, vI 0, vR 4, vI 0, vR 28] (LW W z f) := rfl
set_option maxRecDepth 100000 in
theorem br4_90_4 (call : QC FA) (ls : List (Option PV)) (z : Nat → Int32) (f : Nat → FA) (F : Nat) : xnG call 90 (F + 1) 15 ls [vI 144, vI 0, vR 4, vI 0, vR 28] (LW W z f) = bif (Nat.beq 0 0 && (Nat.beq 0 0 && (pcmp 3 0 0 && (pcmp 3 0 0 && (pcmp 3 144 0 && (Nat.ble (ix 0 + ix 144) 144 && (Nat.ble (ix 0 + ix 144) 144 && Nat.ble 0 8))))))) then xnG call 90 F 16 ls [] (LW W z (uA f 4 (va_cpy (f 28) (f 4) (ix 0) (ix 0) (ix 144)))) else none := rfl
set_option maxRecDepth 100000 in
theorem br4_90_5 (call : QC FA) (z : Nat → Int32) (f : Nat → FA) (F : Nat) : xnG call 90 (F + 3) 16 [some (vR 2), some (vR 26)] [] (LW W z f) = xnG call 90 F 19 [some (vR 2), some (vR 26)] [vI (z 262), vR 2] (LW W z f) := rfl
set_option maxRecDepth 100000 in
theorem br4_90_6 (call : QC FA) (y : Int32) (ls : List (Option PV)) (z : Nat → Int32) (f : Nat → FA) (F : Nat) : xnG call 90 (F + 1) 19 ls [vI y, vR 2] (LW W z f) = xnG call 90 F 20 ls [] (LW W (uZ z 22 y) f) := rfl
set_option maxRecDepth 100000 in
theorem br4_90_7 (call : QC FA) (z : Nat → Int32) (f : Nat → FA) (F : Nat) : xnG call 90 (F + 3) 20 [some (vR 2), some (vR 26)] [] (LW W z f) = xnG call 90 F 23 [some (vR 2), some (vR 26)] [vI (z 263), vR 2] (LW W z f) := rfl
set_option maxRecDepth 100000 in
theorem br4_90_8 (call : QC FA) (y : Int32) (ls : List (Option PV)) (z : Nat → Int32) (f : Nat → FA) (F : Nat) : xnG call 90 (F + 1) 23 ls [vI y, vR 2] (LW W z f) = xnG call 90 F 24 ls [] (LW W (uZ z 23 y) f) := rfl
set_option maxRecDepth 100000 in
theorem br4_90_9 (call : QC FA) (z : Nat → Int32) (f : Nat → FA) (F : Nat) : xnG call 90 (F + 3) 24 [some (vR 2), some (vR 26)] [] (LW W z f) = xnG call 90 F 27 [some (vR 2), some (vR 26)] [vI (z 264), vR 2] (LW W z f) := rfl
set_option maxRecDepth 100000 in
theorem br4_90_10 (call : QC FA) (y : Int32) (ls : List (Option PV)) (z : Nat → Int32) (f : Nat → FA) (F : Nat) : xnG call 90 (F + 1) 27 ls [vI y, vR 2] (LW W z f) = xnG call 90 F 28 ls [] (LW W (uZ z 24 y) f) := rfl
set_option maxRecDepth 100000 in
theorem br4_90_11 (call : QC FA) (z : Nat → Int32) (f : Nat → FA) (F : Nat) : xnG call 90 (F + 3) 28 [some (vR 2), some (vR 26)] [] (LW W z f) = xnG call 90 F 31 [some (vR 2), some (vR 26)] [vI (z 265), vR 2] (LW W z f) := rfl
set_option maxRecDepth 100000 in
theorem br4_90_12 (call : QC FA) (y : Int32) (ls : List (Option PV)) (z : Nat → Int32) (f : Nat → FA) (F : Nat) : xnG call 90 (F + 1) 31 ls [vI y, vR 2] (LW W z f) = xnG call 90 F 32 ls [] (LW W (uZ z 25 y) f) := rfl
set_option maxRecDepth 100000 in
theorem br4_90_13 (call : QC FA) (z : Nat → Int32) (f : Nat → FA) (F : Nat) : xnG call 90 (F + 3) 32 [some (vR 2), some (vR 26)] [] (LW W z f) = xnG call 90 F 35 [some (vR 2), some (vR 26)] [vI (z 266), vR 2] (LW W z f) := rfl
set_option maxRecDepth 100000 in
theorem br4_90_14 (call : QC FA) (y : Int32) (ls : List (Option PV)) (z : Nat → Int32) (f : Nat → FA) (F : Nat) : xnG call 90 (F + 1) 35 ls [vI y, vR 2] (LW W z f) = xnG call 90 F 36 ls [] (LW W (uZ z 26 y) f) := rfl
set_option maxRecDepth 100000 in
theorem br4_90_15 (call : QC FA) (z : Nat → Int32) (f : Nat → FA) (F : Nat) : xnG call 90 (F + 3) 36 [some (vR 2), some (vR 26)] [] (LW W z f) = xnG call 90 F 39 [some (vR 2), some (vR 26)] [vI (z 267), vR 2] (LW W z f) := rfl
set_option maxRecDepth 100000 in
theorem br4_90_16 (call : QC FA) (y : Int32) (ls : List (Option PV)) (z : Nat → Int32) (f : Nat → FA) (F : Nat) : xnG call 90 (F + 1) 39 ls [vI y, vR 2] (LW W z f) = xnG call 90 F 40 ls [] (LW W (uZ z 27 y) f) := rfl
set_option maxRecDepth 100000 in
theorem br4_90_17 (call : QC FA) (z : Nat → Int32) (f : Nat → FA) (F : Nat) : xnG call 90 (F + 3) 40 [some (vR 2), some (vR 26)] [] (LW W z f) = xnG call 90 F 43 [some (vR 2), some (vR 26)] [vI (z 268), vR 2] (LW W z f) := rfl
set_option maxRecDepth 100000 in
theorem br4_90_18 (call : QC FA) (y : Int32) (ls : List (Option PV)) (z : Nat → Int32) (f : Nat → FA) (F : Nat) : xnG call 90 (F + 1) 43 ls [vI y, vR 2] (LW W z f) = xnG call 90 F 44 ls [] (LW W (uZ z 28 y) f) := rfl
set_option maxRecDepth 100000 in
theorem br4_90_19 (call : QC FA) (z : Nat → Int32) (f : Nat → FA) (F : Nat) : xnG call 90 (F + 3) 44 [some (vR 2), some (vR 26)] [] (LW W z f) = xnG call 90 F 47 [some (vR 2), some (vR 26)] [vI (z 269), vR 2] (LW W z f) := rfl
set_option maxRecDepth 100000 in
theorem br4_90_20 (call : QC FA) (y : Int32) (ls : List (Option PV)) (z : Nat → Int32) (f : Nat → FA) (F : Nat) : xnG call 90 (F + 1) 47 ls [vI y, vR 2] (LW W z f) = xnG call 90 F 48 ls [] (LW W (uZ z 29 y) f) := rfl
set_option maxRecDepth 100000 in
theorem br4_90_21 (call : QC FA) (ls : List (Option PV)) (L : QH FA) (F : Nat) : xnG call 90 (F + 1) 48 ls [] L = some (none, L) := rfl
theorem vcr4_90_0 (call : QC FA) (z : Nat → Int32) (f : Nat → FA) (res : Option PV × QH FA) (H : res = (none, LW W (uZ (uZ (uZ (uZ (uZ (uZ (uZ (uZ z 22 (z 262)) 23 (z 263)) 24 (z 264)) 25 (z 265)) 26 (z 266)) 27 (z 267)) 28 (z 268)) 29 (z 269)) (uA (uA f 3 (cpW (f 27) (f 3) 120)) 4 (cpW (f 28) (f 4) 144)))) : XC call (mP 90) 0 [some (vR 2), some (vR 26)] [] (LW W z f) res := by
  refine xc_b (i' := 7) (ls' := [some (vR 2), some (vR 26)]) (st' := [vI 120, vI 0, vR 3, vI 0, vR 27]) (L' := LW W z f) 7 (br4_90_1 call z f) ?_
  refine xc_g (i' := 8) (ls' := [some (vR 2), some (vR 26)]) (st' := []) (L' := LW W z (uA f 3 (va_cpy (f 27) (f 3) (ix 0) (ix 0) (ix 120)))) (br4_90_2 call _ z f) (by decide) ?_
  rw [cpW_e (f := f 27) (g := f 3) (a := 0) (b := 0) (n := 120) (N := 120) (by decide) (by decide) (by decide)]
  show XC call (mP 90) 8 [some (vR 2), some (vR 26)] [] (LW W z (uA f 3 (cpW (f 27) (f 3) 120))) res
  refine xc_b (i' := 15) (ls' := [some (vR 2), some (vR 26)]) (st' := [vI 144, vI 0, vR 4, vI 0, vR 28]) (L' := LW W z (uA f 3 (cpW (f 27) (f 3) 120))) 7 (br4_90_3 call z (uA f 3 (cpW (f 27) (f 3) 120))) ?_
  refine xc_g (i' := 16) (ls' := [some (vR 2), some (vR 26)]) (st' := []) (L' := LW W z (uA (uA f 3 (cpW (f 27) (f 3) 120)) 4 (va_cpy ((uA f 3 (cpW (f 27) (f 3) 120)) 28) ((uA f 3 (cpW (f 27) (f 3) 120)) 4) (ix 0) (ix 0) (ix 144)))) (br4_90_4 call _ z (uA f 3 (cpW (f 27) (f 3) 120))) (by decide) ?_
  rw [cpW_e (f := (uA f 3 (cpW (f 27) (f 3) 120)) 28) (g := (uA f 3 (cpW (f 27) (f 3) 120)) 4) (a := 0) (b := 0) (n := 144) (N := 144) (by decide) (by decide) (by decide)]
  show XC call (mP 90) 16 [some (vR 2), some (vR 26)] [] (LW W z (uA (uA f 3 (cpW (f 27) (f 3) 120)) 4 (cpW (f 28) (f 4) 144))) res
  refine xc_b (i' := 19) (ls' := [some (vR 2), some (vR 26)]) (st' := [vI (z 262), vR 2]) (L' := LW W z (uA (uA f 3 (cpW (f 27) (f 3) 120)) 4 (cpW (f 28) (f 4) 144))) 3 (br4_90_5 call z (uA (uA f 3 (cpW (f 27) (f 3) 120)) 4 (cpW (f 28) (f 4) 144))) ?_
  refine xc_b (i' := 20) (ls' := [some (vR 2), some (vR 26)]) (st' := []) (L' := LW W (uZ z 22 (z 262)) (uA (uA f 3 (cpW (f 27) (f 3) 120)) 4 (cpW (f 28) (f 4) 144))) 1 (br4_90_6 call (z 262) _ z (uA (uA f 3 (cpW (f 27) (f 3) 120)) 4 (cpW (f 28) (f 4) 144))) ?_
  refine xc_b (i' := 23) (ls' := [some (vR 2), some (vR 26)]) (st' := [vI (z 263), vR 2]) (L' := LW W (uZ z 22 (z 262)) (uA (uA f 3 (cpW (f 27) (f 3) 120)) 4 (cpW (f 28) (f 4) 144))) 3 (br4_90_7 call (uZ z 22 (z 262)) (uA (uA f 3 (cpW (f 27) (f 3) 120)) 4 (cpW (f 28) (f 4) 144))) ?_
  refine xc_b (i' := 24) (ls' := [some (vR 2), some (vR 26)]) (st' := []) (L' := LW W (uZ (uZ z 22 (z 262)) 23 (z 263)) (uA (uA f 3 (cpW (f 27) (f 3) 120)) 4 (cpW (f 28) (f 4) 144))) 1 (br4_90_8 call (z 263) _ (uZ z 22 (z 262)) (uA (uA f 3 (cpW (f 27) (f 3) 120)) 4 (cpW (f 28) (f 4) 144))) ?_
  refine xc_b (i' := 27) (ls' := [some (vR 2), some (vR 26)]) (st' := [vI (z 264), vR 2]) (L' := LW W (uZ (uZ z 22 (z 262)) 23 (z 263)) (uA (uA f 3 (cpW (f 27) (f 3) 120)) 4 (cpW (f 28) (f 4) 144))) 3 (br4_90_9 call (uZ (uZ z 22 (z 262)) 23 (z 263)) (uA (uA f 3 (cpW (f 27) (f 3) 120)) 4 (cpW (f 28) (f 4) 144))) ?_
  refine xc_b (i' := 28) (ls' := [some (vR 2), some (vR 26)]) (st' := []) (L' := LW W (uZ (uZ (uZ z 22 (z 262)) 23 (z 263)) 24 (z 264)) (uA (uA f 3 (cpW (f 27) (f 3) 120)) 4 (cpW (f 28) (f 4) 144))) 1 (br4_90_10 call (z 264) _ (uZ (uZ z 22 (z 262)) 23 (z 263)) (uA (uA f 3 (cpW (f 27) (f 3) 120)) 4 (cpW (f 28) (f 4) 144))) ?_
  refine xc_b (i' := 31) (ls' := [some (vR 2), some (vR 26)]) (st' := [vI (z 265), vR 2]) (L' := LW W (uZ (uZ (uZ z 22 (z 262)) 23 (z 263)) 24 (z 264)) (uA (uA f 3 (cpW (f 27) (f 3) 120)) 4 (cpW (f 28) (f 4) 144))) 3 (br4_90_11 call (uZ (uZ (uZ z 22 (z 262)) 23 (z 263)) 24 (z 264)) (uA (uA f 3 (cpW (f 27) (f 3) 120)) 4 (cpW (f 28) (f 4) 144))) ?_
  refine xc_b (i' := 32) (ls' := [some (vR 2), some (vR 26)]) (st' := []) (L' := LW W (uZ (uZ (uZ (uZ z 22 (z 262)) 23 (z 263)) 24 (z 264)) 25 (z 265)) (uA (uA f 3 (cpW (f 27) (f 3) 120)) 4 (cpW (f 28) (f 4) 144))) 1 (br4_90_12 call (z 265) _ (uZ (uZ (uZ z 22 (z 262)) 23 (z 263)) 24 (z 264)) (uA (uA f 3 (cpW (f 27) (f 3) 120)) 4 (cpW (f 28) (f 4) 144))) ?_
  refine xc_b (i' := 35) (ls' := [some (vR 2), some (vR 26)]) (st' := [vI (z 266), vR 2]) (L' := LW W (uZ (uZ (uZ (uZ z 22 (z 262)) 23 (z 263)) 24 (z 264)) 25 (z 265)) (uA (uA f 3 (cpW (f 27) (f 3) 120)) 4 (cpW (f 28) (f 4) 144))) 3 (br4_90_13 call (uZ (uZ (uZ (uZ z 22 (z 262)) 23 (z 263)) 24 (z 264)) 25 (z 265)) (uA (uA f 3 (cpW (f 27) (f 3) 120)) 4 (cpW (f 28) (f 4) 144))) ?_
  refine xc_b (i' := 36) (ls' := [some (vR 2), some (vR 26)]) (st' := []) (L' := LW W (uZ (uZ (uZ (uZ (uZ z 22 (z 262)) 23 (z 263)) 24 (z 264)) 25 (z 265)) 26 (z 266)) (uA (uA f 3 (cpW (f 27) (f 3) 120)) 4 (cpW (f 28) (f 4) 144))) 1 (br4_90_14 call (z 266) _ (uZ (uZ (uZ (uZ z 22 (z 262)) 23 (z 263)) 24 (z 264)) 25 (z 265)) (uA (uA f 3 (cpW (f 27) (f 3) 120)) 4 (cpW (f 28) (f 4) 144))) ?_
  refine xc_b (i' := 39) (ls' := [some (vR 2), some (vR 26)]) (st' := [vI (z 267), vR 2]) (L' := LW W (uZ (uZ (uZ (uZ (uZ z 22 (z 262)) 23 (z 263)) 24 (z 264)) 25 (z 265)) 26 (z 266)) (uA (uA f 3 (cpW (f 27) (f 3) 120)) 4 (cpW (f 28) (f 4) 144))) 3 (br4_90_15 call (uZ (uZ (uZ (uZ (uZ z 22 (z 262)) 23 (z 263)) 24 (z 264)) 25 (z 265)) 26 (z 266)) (uA (uA f 3 (cpW (f 27) (f 3) 120)) 4 (cpW (f 28) (f 4) 144))) ?_
  refine xc_b (i' := 40) (ls' := [some (vR 2), some (vR 26)]) (st' := []) (L' := LW W (uZ (uZ (uZ (uZ (uZ (uZ z 22 (z 262)) 23 (z 263)) 24 (z 264)) 25 (z 265)) 26 (z 266)) 27 (z 267)) (uA (uA f 3 (cpW (f 27) (f 3) 120)) 4 (cpW (f 28) (f 4) 144))) 1 (br4_90_16 call (z 267) _ (uZ (uZ (uZ (uZ (uZ z 22 (z 262)) 23 (z 263)) 24 (z 264)) 25 (z 265)) 26 (z 266)) (uA (uA f 3 (cpW (f 27) (f 3) 120)) 4 (cpW (f 28) (f 4) 144))) ?_
  refine xc_b (i' := 43) (ls' := [some (vR 2), some (vR 26)]) (st' := [vI (z 268), vR 2]) (L' := LW W (uZ (uZ (uZ (uZ (uZ (uZ z 22 (z 262)) 23 (z 263)) 24 (z 264)) 25 (z 265)) 26 (z 266)) 27 (z 267)) (uA (uA f 3 (cpW (f 27) (f 3) 120)) 4 (cpW (f 28) (f 4) 144))) 3 (br4_90_17 call (uZ (uZ (uZ (uZ (uZ (uZ z 22 (z 262)) 23 (z 263)) 24 (z 264)) 25 (z 265)) 26 (z 266)) 27 (z 267)) (uA (uA f 3 (cpW (f 27) (f 3) 120)) 4 (cpW (f 28) (f 4) 144))) ?_
  refine xc_b (i' := 44) (ls' := [some (vR 2), some (vR 26)]) (st' := []) (L' := LW W (uZ (uZ (uZ (uZ (uZ (uZ (uZ z 22 (z 262)) 23 (z 263)) 24 (z 264)) 25 (z 265)) 26 (z 266)) 27 (z 267)) 28 (z 268)) (uA (uA f 3 (cpW (f 27) (f 3) 120)) 4 (cpW (f 28) (f 4) 144))) 1 (br4_90_18 call (z 268) _ (uZ (uZ (uZ (uZ (uZ (uZ z 22 (z 262)) 23 (z 263)) 24 (z 264)) 25 (z 265)) 26 (z 266)) 27 (z 267)) (uA (uA f 3 (cpW (f 27) (f 3) 120)) 4 (cpW (f 28) (f 4) 144))) ?_
  refine xc_b (i' := 47) (ls' := [some (vR 2), some (vR 26)]) (st' := [vI (z 269), vR 2]) (L' := LW W (uZ (uZ (uZ (uZ (uZ (uZ (uZ z 22 (z 262)) 23 (z 263)) 24 (z 264)) 25 (z 265)) 26 (z 266)) 27 (z 267)) 28 (z 268)) (uA (uA f 3 (cpW (f 27) (f 3) 120)) 4 (cpW (f 28) (f 4) 144))) 3 (br4_90_19 call (uZ (uZ (uZ (uZ (uZ (uZ (uZ z 22 (z 262)) 23 (z 263)) 24 (z 264)) 25 (z 265)) 26 (z 266)) 27 (z 267)) 28 (z 268)) (uA (uA f 3 (cpW (f 27) (f 3) 120)) 4 (cpW (f 28) (f 4) 144))) ?_
  refine xc_b (i' := 48) (ls' := [some (vR 2), some (vR 26)]) (st' := []) (L' := LW W (uZ (uZ (uZ (uZ (uZ (uZ (uZ (uZ z 22 (z 262)) 23 (z 263)) 24 (z 264)) 25 (z 265)) 26 (z 266)) 27 (z 267)) 28 (z 268)) 29 (z 269)) (uA (uA f 3 (cpW (f 27) (f 3) 120)) 4 (cpW (f 28) (f 4) 144))) 1 (br4_90_20 call (z 269) _ (uZ (uZ (uZ (uZ (uZ (uZ (uZ z 22 (z 262)) 23 (z 263)) 24 (z 264)) 25 (z 265)) 26 (z 266)) 27 (z 267)) 28 (z 268)) (uA (uA f 3 (cpW (f 27) (f 3) 120)) 4 (cpW (f 28) (f 4) 144))) ?_
  subst H
  exact xc_ret (br4_90_21 call _ _)
set_option maxRecDepth 100000 in
theorem bk4_141_1 (call : QC FA) (z : Nat → Int32) (f : Nat → FA) (F : Nat) : xnG call 141 (F + 2) 0 [some (vR 12), some (vR 2)] [] (LW W z f) = xnG call 141 F 2 [some (vR 12), some (vR 2)] [vI (z 122)] (LW W z f) := rfl
set_option maxRecDepth 100000 in
theorem bk4_141_2 (call : QC FA) (x : Int32) (ls : List (Option PV)) (L : QH FA) (F : Nat) : xnG call 141 (F + 1) 2 ls [vI x] L = bif pcmp 2 x 0 then xnG call 141 F 7 ls [] L else xnG call 141 F 3 ls [] L := rfl
set_option maxRecDepth 100000 in
theorem bk4_141_3 (call : QC FA) (z : Nat → Int32) (f : Nat → FA) (F : Nat) : xnG call 141 (F + 3) 3 [some (vR 12), some (vR 2)] [] (LW W z f) = xnG call 141 F 6 [some (vR 12), some (vR 2)] [vI 6, vI (z 122)] (LW W z f) := rfl
set_option maxRecDepth 100000 in
theorem bk4_141_4 (call : QC FA) (x y : Int32) (ls : List (Option PV)) (L : QH FA) (F : Nat) : xnG call 141 (F + 1) 6 ls [vI y, vI x] L = bif pcmp 2 x y then xnG call 141 F 8 ls [] L else xnG call 141 F 7 ls [] L := rfl
set_option maxRecDepth 100000 in
theorem bk4_141_5 (call : QC FA) (z : Nat → Int32) (f : Nat → FA) (F : Nat) : xnG call 141 (F + 4) 8 [some (vR 12), some (vR 2)] [] (LW W z f) = xnG call 141 F 12 [some (vR 12), some (vR 2)] [vI (z 122), vR 13] (LW W z f) := rfl
set_option maxRecDepth 100000 in
theorem bk4_141_6 (call : QC FA) (ls : List (Option PV)) (z : Nat → Int32) (f : Nat → FA) (F : Nat) : xnG call 141 (F + 1) 12 ls [vI 4, vR 13] (LW W z f) = bif ((Nat.beq 1 1 || (Nat.beq 1 2 || Nat.beq 1 3)) && pin 4 6) then xnG call 141 F 13 ls [.inr (.inl (rgW (ix 4)))] (LW W z f) else none := rfl
set_option maxRecDepth 100000 in
theorem bk4_141_7 (call : QC FA) (L : QH FA) (F : Nat) : xnG call 141 (F + 1) 13 [some (vR 12), some (vR 2)] [vR 26] L = xnG call 141 F 14 [some (vR 12), some (vR 2)] [vR 2, vR 26] L := rfl
set_option maxRecDepth 100000 in
theorem bk4_141_8 (call : QC FA) (ls : List (Option PV)) (z : Nat → Int32) (f : Nat → FA) (F : Nat) : xnG call 141 (F + 1) 14 ls [vR 2, vR 26] (LW W z f) = cbd (call 90 [vR 26, vR 2] (LW W z f)) (fun r L' => xnG call 141 F 15 ls (r.toList ++ []) L') := pcY (ih := xnG call 141 F) (call := call) (a := 90) (b := 1) (v := 0) (t := 15) (x := 26) (ls := ls) (As := [vR 2]) (st' := []) (L := LW W z f) rfl rfl rfl
set_option maxRecDepth 100000 in
theorem bk4_141_9 (call : QC FA) (z : Nat → Int32) (f : Nat → FA) (F : Nat) : xnG call 141 (F + 6) 15 [some (vR 12), some (vR 2)] [] (LW W z f) = xnG call 141 F 21 [some (vR 12), some (vR 2)] [vI 6, vI ((z 122) + 1), vR 12] (LW W z f) := rfl
set_option maxRecDepth 100000 in
theorem bk4_141_10 (call : QC FA) (x y : Int32) (ls : List (Option PV)) (L : QH FA) (F : Nat) : xnG call 141 (F + 1) 21 ls [vI y, vI x, vR 12] L = bif pcmp 3 x y then xnG call 141 F 27 ls [vR 12] L else xnG call 141 F 22 ls [vR 12] L := rfl
set_option maxRecDepth 100000 in
theorem bk4_141_11 (call : QC FA) (L : QH FA) (F : Nat) : xnG call 141 (F + 1) 27 [some (vR 12), some (vR 2)] [vR 12] L = xnG call 141 F 28 [some (vR 12), some (vR 2)] [vI 0, vR 12] L := rfl
set_option maxRecDepth 100000 in
theorem bk4_141_12 (call : QC FA) (y : Int32) (ls : List (Option PV)) (z : Nat → Int32) (f : Nat → FA) (F : Nat) : xnG call 141 (F + 1) 28 ls [vI y, vR 12] (LW W z f) = xnG call 141 F 29 ls [] (LW W (uZ z 122 y) f) := rfl
set_option maxRecDepth 100000 in
theorem bk4_141_13 (call : QC FA) (z : Nat → Int32) (f : Nat → FA) (F : Nat) : xnG call 141 (F + 6) 29 [some (vR 12), some (vR 2)] [] (LW W z f) = xnG call 141 F 35 [some (vR 12), some (vR 2)] [vI 6, vI ((z 123) + 1), vR 12] (LW W z f) := rfl
set_option maxRecDepth 100000 in
theorem bk4_141_14 (call : QC FA) (x y : Int32) (ls : List (Option PV)) (L : QH FA) (F : Nat) : xnG call 141 (F + 1) 35 ls [vI y, vI x, vR 12] L = bif pcmp 2 y x then xnG call 141 F 36 ls [vI y, vR 12] L else xnG call 141 F 36 ls [vI x, vR 12] L := pmn (xnG call 141 F) 36 x y ls [vR 12] L rfl
set_option maxRecDepth 100000 in
theorem bk4_141_15 (call : QC FA) (y : Int32) (ls : List (Option PV)) (z : Nat → Int32) (f : Nat → FA) (F : Nat) : xnG call 141 (F + 1) 36 ls [vI y, vR 12] (LW W z f) = xnG call 141 F 37 ls [] (LW W (uZ z 123 y) f) := rfl
set_option maxRecDepth 100000 in
theorem bk4_141_16 (call : QC FA) (ls : List (Option PV)) (L : QH FA) (F : Nat) : xnG call 141 (F + 1) 37 ls [] L = some (none, L) := rfl
set_option maxRecDepth 100000 in
theorem bk4_141_17 (call : QC FA) (z : Nat → Int32) (f : Nat → FA) (F : Nat) : xnG call 141 (F + 5) 22 [some (vR 12), some (vR 2)] [vR 12] (LW W z f) = xnG call 141 F 28 [some (vR 12), some (vR 2)] [vI ((z 122) + 1), vR 12] (LW W z f) := rfl
theorem vck4_141_0 (call : QC FA) (z : Nat → Int32) (f : Nat → FA) (res : Option PV × QH FA) (H : (∃ (z1 : Nat → Int32) (f1 : Nat → FA), call 90 [vR 26, vR 2] (LW W (uZ z 122 4) f) = some (none, LW W z1 f1) ∧ ((6 ≤ I ((z1 122) + 1) → ((6 < I ((z1 123) + 1) → res = (none, LW W (uZ (uZ z1 122 0) 123 6) f1)) ∧ (I ((z1 123) + 1) ≤ 6 → res = (none, LW W (uZ (uZ z1 122 0) 123 ((z1 123) + 1)) f1)))) ∧ (I ((z1 122) + 1) < 6 → ((6 < I ((z1 123) + 1) → res = (none, LW W (uZ (uZ z1 122 ((z1 122) + 1)) 123 6) f1)) ∧ (I ((z1 123) + 1) ≤ 6 → res = (none, LW W (uZ (uZ z1 122 ((z1 122) + 1)) 123 ((z1 123) + 1)) f1))))))) : XC call (mP 141) 0 [some (vR 12), some (vR 2)] [] (LW W (uZ z 122 4) f) res := by
  refine xc_b (i' := 2) (ls' := [some (vR 12), some (vR 2)]) (st' := [vI 4]) (L' := LW W (uZ z 122 4) f) 2 (bk4_141_1 call (uZ z 122 4) f) ?_
  refine xc_f (it := 7) (ie := 3) (ls' := [some (vR 12), some (vR 2)]) (st' := []) (bk4_141_2 call 4 _ _) (by decide) ?_
  refine xc_b (i' := 6) (ls' := [some (vR 12), some (vR 2)]) (st' := [vI 6, vI 4]) (L' := LW W (uZ z 122 4) f) 3 (bk4_141_3 call (uZ z 122 4) f) ?_
  refine xc_t (it := 8) (ie := 7) (ls' := [some (vR 12), some (vR 2)]) (st' := []) (bk4_141_4 call 4 6 _ _) (by decide) ?_
  refine xc_b (i' := 12) (ls' := [some (vR 12), some (vR 2)]) (st' := [vI 4, vR 13]) (L' := LW W (uZ z 122 4) f) 4 (bk4_141_5 call (uZ z 122 4) f) ?_
  refine xc_g (i' := 13) (ls' := [some (vR 12), some (vR 2)]) (st' := [.inr (.inl (rgW (ix 4)))]) (L' := LW W (uZ z 122 4) f) (bk4_141_6 call _ (uZ z 122 4) f) (by decide) ?_
  show XC call (mP 141) 13 [some (vR 12), some (vR 2)] [vR 26] (LW W (uZ z 122 4) f) res
  refine xc_b (i' := 14) (ls' := [some (vR 12), some (vR 2)]) (st' := [vR 2, vR 26]) (L' := LW W (uZ z 122 4) f) 1 (bk4_141_7 call _) ?_
  obtain ⟨z1, f1, hc, H⟩ := H
  refine xc_call (t := 15) (ls' := [some (vR 12), some (vR 2)]) (st' := []) (bk4_141_8 call _ (uZ z 122 4) f) hc ?_
  show XC call (mP 141) 15 [some (vR 12), some (vR 2)] [] (LW W z1 f1) res
  refine xc_b (i' := 21) (ls' := [some (vR 12), some (vR 2)]) (st' := [vI 6, vI ((z1 122) + 1), vR 12]) (L' := LW W z1 f1) 6 (bk4_141_9 call z1 f1) ?_
  refine xc_if (it := 27) (ie := 22) (ls' := [some (vR 12), some (vR 2)]) (st' := [vR 12]) (bk4_141_10 call ((z1 122) + 1) 6 _ _) (fun q1 => ?_) (fun q1 => ?_)
  · have H := H.1 (cI3t q1 rfl rfl)
    refine xc_b (i' := 28) (ls' := [some (vR 12), some (vR 2)]) (st' := [vI 0, vR 12]) (L' := LW W z1 f1) 1 (bk4_141_11 call _) ?_
    refine xc_b (i' := 29) (ls' := [some (vR 12), some (vR 2)]) (st' := []) (L' := LW W (uZ z1 122 0) f1) 1 (bk4_141_12 call 0 _ z1 f1) ?_
    refine xc_b (i' := 35) (ls' := [some (vR 12), some (vR 2)]) (st' := [vI 6, vI ((z1 123) + 1), vR 12]) (L' := LW W (uZ z1 122 0) f1) 6 (bk4_141_13 call (uZ z1 122 0) f1) ?_
    refine xc_if2 (it := 36) (ie := 36) (ls' := [some (vR 12), some (vR 2)]) (st1 := [vI 6, vR 12]) (st2 := [vI ((z1 123) + 1), vR 12]) (bk4_141_14 call ((z1 123) + 1) 6 _ _) (fun q2 => ?_) (fun q2 => ?_)
    · have H := H.1 (cI2t q2 rfl rfl)
      refine xc_b (i' := 37) (ls' := [some (vR 12), some (vR 2)]) (st' := []) (L' := LW W (uZ (uZ z1 122 0) 123 6) f1) 1 (bk4_141_15 call 6 _ (uZ z1 122 0) f1) ?_
      subst H
      exact xc_ret (bk4_141_16 call _ _)
    · have H := H.2 (cI2f q2 rfl rfl)
      refine xc_b (i' := 37) (ls' := [some (vR 12), some (vR 2)]) (st' := []) (L' := LW W (uZ (uZ z1 122 0) 123 ((z1 123) + 1)) f1) 1 (bk4_141_15 call ((z1 123) + 1) _ (uZ z1 122 0) f1) ?_
      subst H
      exact xc_ret (bk4_141_16 call _ _)
  · have H := H.2 (cI3f q1 rfl rfl)
    refine xc_b (i' := 28) (ls' := [some (vR 12), some (vR 2)]) (st' := [vI ((z1 122) + 1), vR 12]) (L' := LW W z1 f1) 5 (bk4_141_17 call z1 f1) ?_
    refine xc_b (i' := 29) (ls' := [some (vR 12), some (vR 2)]) (st' := []) (L' := LW W (uZ z1 122 ((z1 122) + 1)) f1) 1 (bk4_141_12 call ((z1 122) + 1) _ z1 f1) ?_
    refine xc_b (i' := 35) (ls' := [some (vR 12), some (vR 2)]) (st' := [vI 6, vI ((z1 123) + 1), vR 12]) (L' := LW W (uZ z1 122 ((z1 122) + 1)) f1) 6 (bk4_141_13 call (uZ z1 122 ((z1 122) + 1)) f1) ?_
    refine xc_if2 (it := 36) (ie := 36) (ls' := [some (vR 12), some (vR 2)]) (st1 := [vI 6, vR 12]) (st2 := [vI ((z1 123) + 1), vR 12]) (bk4_141_14 call ((z1 123) + 1) 6 _ _) (fun q3 => ?_) (fun q3 => ?_)
    · have H := H.1 (cI2t q3 rfl rfl)
      refine xc_b (i' := 37) (ls' := [some (vR 12), some (vR 2)]) (st' := []) (L' := LW W (uZ (uZ z1 122 ((z1 122) + 1)) 123 6) f1) 1 (bk4_141_15 call 6 _ (uZ z1 122 ((z1 122) + 1)) f1) ?_
      subst H
      exact xc_ret (bk4_141_16 call _ _)
    · have H := H.2 (cI2f q3 rfl rfl)
      refine xc_b (i' := 37) (ls' := [some (vR 12), some (vR 2)]) (st' := []) (L' := LW W (uZ (uZ z1 122 ((z1 122) + 1)) 123 ((z1 123) + 1)) f1) 1 (bk4_141_15 call ((z1 123) + 1) _ (uZ z1 122 ((z1 122) + 1)) f1) ?_
      subst H
      exact xc_ret (bk4_141_16 call _ _)
set_option maxRecDepth 100000 in
theorem bb4_140_1 (call : QC FA) (z : Nat → Int32) (f : Nat → FA) (F : Nat) : xnG call 140 (F + 2) 0 [some (vR 12), some (vR 2)] [] (LW W z f) = xnG call 140 F 2 [some (vR 12), some (vR 2)] [vI (z 123)] (LW W z f) := rfl
set_option maxRecDepth 100000 in
theorem bb4_140_2 (call : QC FA) (x : Int32) (ls : List (Option PV)) (L : QH FA) (F : Nat) : xnG call 140 (F + 1) 2 ls [vI x] L = bif pcmp 0 x 0 then xnG call 140 F 10 ls [] L else xnG call 140 F 3 ls [] L := rfl
set_option maxRecDepth 100000 in
theorem bb4_140_3 (call : QC FA) (L : QH FA) (F : Nat) : xnG call 140 (F + 1) 10 [some (vR 12), some (vR 2)] [] L = xnG call 140 F 11 [some (vR 12), some (vR 2)] [vI 0] L := rfl
set_option maxRecDepth 100000 in
theorem bb4_140_4 (call : QC FA) (ls : List (Option PV)) (L : QH FA) (F : Nat) : xnG call 140 (F + 1) 11 ls [vI 0] L = some (some (vI 0), L) := rfl
set_option maxRecDepth 100000 in
theorem bb4_140_5 (call : QC FA) (z : Nat → Int32) (f : Nat → FA) (F : Nat) : xnG call 140 (F + 2) 3 [some (vR 12), some (vR 2)] [] (LW W z f) = xnG call 140 F 5 [some (vR 12), some (vR 2)] [vI (z 122)] (LW W z f) := rfl
set_option maxRecDepth 100000 in
theorem bb4_140_6 (call : QC FA) (x : Int32) (ls : List (Option PV)) (L : QH FA) (F : Nat) : xnG call 140 (F + 1) 5 ls [vI x] L = bif pcmp 2 x 0 then xnG call 140 F 10 ls [] L else xnG call 140 F 6 ls [] L := rfl
set_option maxRecDepth 100000 in
theorem bb4_140_7 (call : QC FA) (z : Nat → Int32) (f : Nat → FA) (F : Nat) : xnG call 140 (F + 3) 6 [some (vR 12), some (vR 2)] [] (LW W z f) = xnG call 140 F 9 [some (vR 12), some (vR 2)] [vI 6, vI (z 122)] (LW W z f) := rfl
set_option maxRecDepth 100000 in
theorem bb4_140_8 (call : QC FA) (x y : Int32) (ls : List (Option PV)) (L : QH FA) (F : Nat) : xnG call 140 (F + 1) 9 ls [vI y, vI x] L = bif pcmp 2 x y then xnG call 140 F 12 ls [] L else xnG call 140 F 10 ls [] L := rfl
set_option maxRecDepth 100000 in
theorem bb4_140_9 (call : QC FA) (z : Nat → Int32) (f : Nat → FA) (F : Nat) : xnG call 140 (F + 3) 12 [some (vR 12), some (vR 2)] [] (LW W z f) = xnG call 140 F 15 [some (vR 12), some (vR 2)] [vI (z 122), vR 12] (LW W z f) := rfl
set_option maxRecDepth 100000 in
theorem bb4_140_10 (call : QC FA) (x : Int32) (ls : List (Option PV)) (L : QH FA) (F : Nat) : xnG call 140 (F + 1) 15 ls [vI x, vR 12] L = bif pcmp 5 x 0 then xnG call 140 F 21 ls [vR 12] L else xnG call 140 F 16 ls [vR 12] L := rfl
set_option maxRecDepth 100000 in
theorem bb4_140_11 (call : QC FA) (z : Nat → Int32) (f : Nat → FA) (F : Nat) : xnG call 140 (F + 5) 16 [some (vR 12), some (vR 2)] [vR 12] (LW W z f) = xnG call 140 F 22 [some (vR 12), some (vR 2)] [vI ((z 122) - 1), vR 12] (LW W z f) := rfl
set_option maxRecDepth 100000 in
theorem bb4_140_12 (call : QC FA) (y : Int32) (ls : List (Option PV)) (z : Nat → Int32) (f : Nat → FA) (F : Nat) : xnG call 140 (F + 1) 22 ls [vI y, vR 12] (LW W z f) = xnG call 140 F 23 ls [] (LW W (uZ z 122 y) f) := rfl
set_option maxRecDepth 100000 in
theorem bb4_140_13 (call : QC FA) (z : Nat → Int32) (f : Nat → FA) (F : Nat) : xnG call 140 (F + 5) 23 [some (vR 12), some (vR 2)] [] (LW W z f) = xnG call 140 F 28 [some (vR 12), some (vR 2)] [vI ((z 123) - 1), vR 12] (LW W z f) := rfl
set_option maxRecDepth 100000 in
theorem bb4_140_14 (call : QC FA) (y : Int32) (ls : List (Option PV)) (z : Nat → Int32) (f : Nat → FA) (F : Nat) : xnG call 140 (F + 1) 28 ls [vI y, vR 12] (LW W z f) = xnG call 140 F 29 ls [] (LW W (uZ z 123 y) f) := rfl
set_option maxRecDepth 100000 in
theorem bb4_140_15 (call : QC FA) (z : Nat → Int32) (f : Nat → FA) (F : Nat) : xnG call 140 (F + 5) 29 [some (vR 12), some (vR 2)] [] (LW W z f) = xnG call 140 F 34 [some (vR 12), some (vR 2)] [vI (z 122), vR 13, vR 2] (LW W z f) := rfl
set_option maxRecDepth 100000 in
theorem bb4_140_16 (call : QC FA) (ls : List (Option PV)) (z : Nat → Int32) (f : Nat → FA) (F : Nat) : xnG call 140 (F + 1) 34 ls [vI 3, vR 13, vR 2] (LW W z f) = bif ((Nat.beq 1 1 || (Nat.beq 1 2 || Nat.beq 1 3)) && pin 3 6) then xnG call 140 F 35 ls [.inr (.inl (rgW (ix 3))), vR 2] (LW W z f) else none := rfl
set_option maxRecDepth 100000 in
theorem bb4_140_17 (call : QC FA) (ls : List (Option PV)) (z : Nat → Int32) (f : Nat → FA) (F : Nat) : xnG call 140 (F + 1) 35 ls [vR 23, vR 2] (LW W z f) = cbd (call 90 [vR 2, vR 23] (LW W z f)) (fun r L' => xnG call 140 F 36 ls (r.toList ++ []) L') := pcY (ih := xnG call 140 F) (call := call) (a := 90) (b := 1) (v := 0) (t := 36) (x := 2) (ls := ls) (As := [vR 23]) (st' := []) (L := LW W z f) rfl rfl rfl
set_option maxRecDepth 100000 in
theorem bb4_140_18 (call : QC FA) (L : QH FA) (F : Nat) : xnG call 140 (F + 1) 36 [some (vR 12), some (vR 2)] [] L = xnG call 140 F 37 [some (vR 12), some (vR 2)] [vI 1] L := rfl
set_option maxRecDepth 100000 in
theorem bb4_140_19 (call : QC FA) (ls : List (Option PV)) (L : QH FA) (F : Nat) : xnG call 140 (F + 1) 37 ls [vI 1] L = some (some (vI 1), L) := rfl
theorem vcb4_140_0 (call : QC FA) (z : Nat → Int32) (f : Nat → FA) (res : Option PV × QH FA) (H : ((z 123 = 0 → res = (some (vI 0), LW W (uZ z 122 4) f)) ∧ (¬ z 123 = 0 → (∃ (z1 : Nat → Int32) (f1 : Nat → FA), call 90 [vR 2, vR 23] (LW W (uZ (uZ (uZ z 122 4) 122 3) 123 ((z 123) - 1)) f) = some (none, LW W z1 f1) ∧ res = (some (vI 1), LW W z1 f1))))) : XC call (mP 140) 0 [some (vR 12), some (vR 2)] [] (LW W (uZ z 122 4) f) res := by
  refine xc_b (i' := 2) (ls' := [some (vR 12), some (vR 2)]) (st' := [vI (z 123)]) (L' := LW W (uZ z 122 4) f) 2 (bb4_140_1 call (uZ z 122 4) f) ?_
  refine xc_if (it := 10) (ie := 3) (ls' := [some (vR 12), some (vR 2)]) (st' := []) (bb4_140_2 call (z 123) _ _) (fun q1 => ?_) (fun q1 => ?_)
  · have H := H.1 (cI0t q1)
    refine xc_b (i' := 11) (ls' := [some (vR 12), some (vR 2)]) (st' := [vI 0]) (L' := LW W (uZ z 122 4) f) 1 (bb4_140_3 call _) ?_
    subst H
    exact xc_ret (bb4_140_4 call _ _)
  · have H := H.2 (cI0f q1)
    refine xc_b (i' := 5) (ls' := [some (vR 12), some (vR 2)]) (st' := [vI 4]) (L' := LW W (uZ z 122 4) f) 2 (bb4_140_5 call (uZ z 122 4) f) ?_
    refine xc_f (it := 10) (ie := 6) (ls' := [some (vR 12), some (vR 2)]) (st' := []) (bb4_140_6 call 4 _ _) (by decide) ?_
    refine xc_b (i' := 9) (ls' := [some (vR 12), some (vR 2)]) (st' := [vI 6, vI 4]) (L' := LW W (uZ z 122 4) f) 3 (bb4_140_7 call (uZ z 122 4) f) ?_
    refine xc_t (it := 12) (ie := 10) (ls' := [some (vR 12), some (vR 2)]) (st' := []) (bb4_140_8 call 4 6 _ _) (by decide) ?_
    refine xc_b (i' := 15) (ls' := [some (vR 12), some (vR 2)]) (st' := [vI 4, vR 12]) (L' := LW W (uZ z 122 4) f) 3 (bb4_140_9 call (uZ z 122 4) f) ?_
    refine xc_f (it := 21) (ie := 16) (ls' := [some (vR 12), some (vR 2)]) (st' := [vR 12]) (bb4_140_10 call 4 _ _) (by decide) ?_
    refine xc_b (i' := 22) (ls' := [some (vR 12), some (vR 2)]) (st' := [vI (4 - 1), vR 12]) (L' := LW W (uZ z 122 4) f) 5 (bb4_140_11 call (uZ z 122 4) f) ?_
    rw [show ((4 : Int32) - 1 : Int32) = 3 from by decide]
    refine xc_b (i' := 23) (ls' := [some (vR 12), some (vR 2)]) (st' := []) (L' := LW W (uZ (uZ z 122 4) 122 3) f) 1 (bb4_140_12 call 3 _ (uZ z 122 4) f) ?_
    refine xc_b (i' := 28) (ls' := [some (vR 12), some (vR 2)]) (st' := [vI ((z 123) - 1), vR 12]) (L' := LW W (uZ (uZ z 122 4) 122 3) f) 5 (bb4_140_13 call (uZ (uZ z 122 4) 122 3) f) ?_
    refine xc_b (i' := 29) (ls' := [some (vR 12), some (vR 2)]) (st' := []) (L' := LW W (uZ (uZ (uZ z 122 4) 122 3) 123 ((z 123) - 1)) f) 1 (bb4_140_14 call ((z 123) - 1) _ (uZ (uZ z 122 4) 122 3) f) ?_
    refine xc_b (i' := 34) (ls' := [some (vR 12), some (vR 2)]) (st' := [vI 3, vR 13, vR 2]) (L' := LW W (uZ (uZ (uZ z 122 4) 122 3) 123 ((z 123) - 1)) f) 5 (bb4_140_15 call (uZ (uZ (uZ z 122 4) 122 3) 123 ((z 123) - 1)) f) ?_
    refine xc_g (i' := 35) (ls' := [some (vR 12), some (vR 2)]) (st' := [.inr (.inl (rgW (ix 3))), vR 2]) (L' := LW W (uZ (uZ (uZ z 122 4) 122 3) 123 ((z 123) - 1)) f) (bb4_140_16 call _ (uZ (uZ (uZ z 122 4) 122 3) 123 ((z 123) - 1)) f) (by decide) ?_
    show XC call (mP 140) 35 [some (vR 12), some (vR 2)] [vR 23, vR 2] (LW W (uZ (uZ (uZ z 122 4) 122 3) 123 ((z 123) - 1)) f) res
    obtain ⟨z1, f1, hc, H⟩ := H
    refine xc_call (t := 36) (ls' := [some (vR 12), some (vR 2)]) (st' := []) (bb4_140_17 call _ (uZ (uZ (uZ z 122 4) 122 3) 123 ((z 123) - 1)) f) hc ?_
    show XC call (mP 140) 36 [some (vR 12), some (vR 2)] [] (LW W z1 f1) res
    refine xc_b (i' := 37) (ls' := [some (vR 12), some (vR 2)]) (st' := [vI 1]) (L' := LW W z1 f1) 1 (bb4_140_18 call _) ?_
    subst H
    exact xc_ret (bb4_140_19 call _ _)
set_option maxRecDepth 100000 in
theorem bt5_90_1 (call : QC FA) (z : Nat → Int32) (f : Nat → FA) (F : Nat) : xnG call 90 (F + 7) 0 [some (vR 29), some (vR 2)] [] (LW W z f) = xnG call 90 F 7 [some (vR 29), some (vR 2)] [vI 120, vI 0, vR 30, vI 0, vR 3] (LW W z f) := rfl
set_option maxRecDepth 100000 in
theorem bt5_90_2 (call : QC FA) (ls : List (Option PV)) (z : Nat → Int32) (f : Nat → FA) (F : Nat) : xnG call 90 (F + 1) 7 ls [vI 120, vI 0, vR 30, vI 0, vR 3] (LW W z f) = bif (Nat.beq 0 0 && (Nat.beq 0 0 && (pcmp 3 0 0 && (pcmp 3 0 0 && (pcmp 3 120 0 && (Nat.ble (ix 0 + ix 120) 120 && (Nat.ble (ix 0 + ix 120) 120 && Nat.ble 0 8))))))) then xnG call 90 F 8 ls [] (LW W z (uA f 30 (va_cpy (f 3) (f 30) (ix 0) (ix 0) (ix 120)))) else none := rfl
set_option maxRecDepth 100000 in
theorem bt5_90_3 (call : QC FA) (z : Nat → Int32) (f : Nat → FA) (F : Nat) : xnG call 90 (F + 7) 8 [some (vR 29), some (vR 2)] [] (LW W z f) = xnG call 90 F 15 [some (vR 29), some (vR 2)] [vI 144, vI 0, vR 31, vI 0, vR 4] (LW W z f) := rfl
set_option maxRecDepth 100000 in
theorem bt5_90_4 (call : QC FA) (ls : List (Option PV)) (z : Nat → Int32) (f : Nat → FA) (F : Nat) : xnG call 90 (F + 1) 15 ls [vI 144, vI 0, vR 31, vI 0, vR 4] (LW W z f) = bif (Nat.beq 0 0 && (Nat.beq 0 0 && (pcmp 3 0 0 && (pcmp 3 0 0 && (pcmp 3 144 0 && (Nat.ble (ix 0 + ix 144) 144 && (Nat.ble (ix 0 + ix 144) 144 && Nat.ble 0 8))))))) then xnG call 90 F 16 ls [] (LW W z (uA f 31 (va_cpy (f 4) (f 31) (ix 0) (ix 0) (ix 144)))) else none := rfl
set_option maxRecDepth 100000 in
theorem bt5_90_5 (call : QC FA) (z : Nat → Int32) (f : Nat → FA) (F : Nat) : xnG call 90 (F + 3) 16 [some (vR 29), some (vR 2)] [] (LW W z f) = xnG call 90 F 19 [some (vR 29), some (vR 2)] [vI (z 22), vR 29] (LW W z f) := rfl
set_option maxRecDepth 100000 in
theorem bt5_90_6 (call : QC FA) (y : Int32) (ls : List (Option PV)) (z : Nat → Int32) (f : Nat → FA) (F : Nat) : xnG call 90 (F + 1) 19 ls [vI y, vR 29] (LW W z f) = xnG call 90 F 20 ls [] (LW W (uZ z 292 y) f) := rfl
set_option maxRecDepth 100000 in
theorem bt5_90_7 (call : QC FA) (z : Nat → Int32) (f : Nat → FA) (F : Nat) : xnG call 90 (F + 3) 20 [some (vR 29), some (vR 2)] [] (LW W z f) = xnG call 90 F 23 [some (vR 29), some (vR 2)] [vI (z 23), vR 29] (LW W z f) := rfl
set_option maxRecDepth 100000 in
theorem bt5_90_8 (call : QC FA) (y : Int32) (ls : List (Option PV)) (z : Nat → Int32) (f : Nat → FA) (F : Nat) : xnG call 90 (F + 1) 23 ls [vI y, vR 29] (LW W z f) = xnG call 90 F 24 ls [] (LW W (uZ z 293 y) f) := rfl
set_option maxRecDepth 100000 in
theorem bt5_90_9 (call : QC FA) (z : Nat → Int32) (f : Nat → FA) (F : Nat) : xnG call 90 (F + 3) 24 [some (vR 29), some (vR 2)] [] (LW W z f) = xnG call 90 F 27 [some (vR 29), some (vR 2)] [vI (z 24), vR 29] (LW W z f) := rfl
set_option maxRecDepth 100000 in
theorem bt5_90_10 (call : QC FA) (y : Int32) (ls : List (Option PV)) (z : Nat → Int32) (f : Nat → FA) (F : Nat) : xnG call 90 (F + 1) 27 ls [vI y, vR 29] (LW W z f) = xnG call 90 F 28 ls [] (LW W (uZ z 294 y) f) := rfl
set_option maxRecDepth 100000 in
theorem bt5_90_11 (call : QC FA) (z : Nat → Int32) (f : Nat → FA) (F : Nat) : xnG call 90 (F + 3) 28 [some (vR 29), some (vR 2)] [] (LW W z f) = xnG call 90 F 31 [some (vR 29), some (vR 2)] [vI (z 25), vR 29] (LW W z f) := rfl
set_option maxRecDepth 100000 in
theorem bt5_90_12 (call : QC FA) (y : Int32) (ls : List (Option PV)) (z : Nat → Int32) (f : Nat → FA) (F : Nat) : xnG call 90 (F + 1) 31 ls [vI y, vR 29] (LW W z f) = xnG call 90 F 32 ls [] (LW W (uZ z 295 y) f) := rfl
set_option maxRecDepth 100000 in
theorem bt5_90_13 (call : QC FA) (z : Nat → Int32) (f : Nat → FA) (F : Nat) : xnG call 90 (F + 3) 32 [some (vR 29), some (vR 2)] [] (LW W z f) = xnG call 90 F 35 [some (vR 29), some (vR 2)] [vI (z 26), vR 29] (LW W z f) := rfl
set_option maxRecDepth 100000 in
theorem bt5_90_14 (call : QC FA) (y : Int32) (ls : List (Option PV)) (z : Nat → Int32) (f : Nat → FA) (F : Nat) : xnG call 90 (F + 1) 35 ls [vI y, vR 29] (LW W z f) = xnG call 90 F 36 ls [] (LW W (uZ z 296 y) f) := rfl
set_option maxRecDepth 100000 in
theorem bt5_90_15 (call : QC FA) (z : Nat → Int32) (f : Nat → FA) (F : Nat) : xnG call 90 (F + 3) 36 [some (vR 29), some (vR 2)] [] (LW W z f) = xnG call 90 F 39 [some (vR 29), some (vR 2)] [vI (z 27), vR 29] (LW W z f) := rfl
set_option maxRecDepth 100000 in
theorem bt5_90_16 (call : QC FA) (y : Int32) (ls : List (Option PV)) (z : Nat → Int32) (f : Nat → FA) (F : Nat) : xnG call 90 (F + 1) 39 ls [vI y, vR 29] (LW W z f) = xnG call 90 F 40 ls [] (LW W (uZ z 297 y) f) := rfl
set_option maxRecDepth 100000 in
theorem bt5_90_17 (call : QC FA) (z : Nat → Int32) (f : Nat → FA) (F : Nat) : xnG call 90 (F + 3) 40 [some (vR 29), some (vR 2)] [] (LW W z f) = xnG call 90 F 43 [some (vR 29), some (vR 2)] [vI (z 28), vR 29] (LW W z f) := rfl
set_option maxRecDepth 100000 in
theorem bt5_90_18 (call : QC FA) (y : Int32) (ls : List (Option PV)) (z : Nat → Int32) (f : Nat → FA) (F : Nat) : xnG call 90 (F + 1) 43 ls [vI y, vR 29] (LW W z f) = xnG call 90 F 44 ls [] (LW W (uZ z 298 y) f) := rfl
set_option maxRecDepth 100000 in
theorem bt5_90_19 (call : QC FA) (z : Nat → Int32) (f : Nat → FA) (F : Nat) : xnG call 90 (F + 3) 44 [some (vR 29), some (vR 2)] [] (LW W z f) = xnG call 90 F 47 [some (vR 29), some (vR 2)] [vI (z 29), vR 29] (LW W z f) := rfl
set_option maxRecDepth 100000 in
theorem bt5_90_20 (call : QC FA) (y : Int32) (ls : List (Option PV)) (z : Nat → Int32) (f : Nat → FA) (F : Nat) : xnG call 90 (F + 1) 47 ls [vI y, vR 29] (LW W z f) = xnG call 90 F 48 ls [] (LW W (uZ z 299 y) f) := rfl
set_option maxRecDepth 100000 in
theorem bt5_90_21 (call : QC FA) (ls : List (Option PV)) (L : QH FA) (F : Nat) : xnG call 90 (F + 1) 48 ls [] L = some (none, L) := rfl
theorem vct5_90_0 (call : QC FA) (z : Nat → Int32) (f : Nat → FA) (res : Option PV × QH FA) (H : res = (none, LW W (uZ (uZ (uZ (uZ (uZ (uZ (uZ (uZ z 292 (z 22)) 293 (z 23)) 294 (z 24)) 295 (z 25)) 296 (z 26)) 297 (z 27)) 298 (z 28)) 299 (z 29)) (uA (uA f 30 (cpW (f 3) (f 30) 120)) 31 (cpW (f 4) (f 31) 144)))) : XC call (mP 90) 0 [some (vR 29), some (vR 2)] [] (LW W z f) res := by
  refine xc_b (i' := 7) (ls' := [some (vR 29), some (vR 2)]) (st' := [vI 120, vI 0, vR 30, vI 0, vR 3]) (L' := LW W z f) 7 (bt5_90_1 call z f) ?_
  refine xc_g (i' := 8) (ls' := [some (vR 29), some (vR 2)]) (st' := []) (L' := LW W z (uA f 30 (va_cpy (f 3) (f 30) (ix 0) (ix 0) (ix 120)))) (bt5_90_2 call _ z f) (by decide) ?_
  rw [cpW_e (f := f 3) (g := f 30) (a := 0) (b := 0) (n := 120) (N := 120) (by decide) (by decide) (by decide)]
  show XC call (mP 90) 8 [some (vR 29), some (vR 2)] [] (LW W z (uA f 30 (cpW (f 3) (f 30) 120))) res
  refine xc_b (i' := 15) (ls' := [some (vR 29), some (vR 2)]) (st' := [vI 144, vI 0, vR 31, vI 0, vR 4]) (L' := LW W z (uA f 30 (cpW (f 3) (f 30) 120))) 7 (bt5_90_3 call z (uA f 30 (cpW (f 3) (f 30) 120))) ?_
  refine xc_g (i' := 16) (ls' := [some (vR 29), some (vR 2)]) (st' := []) (L' := LW W z (uA (uA f 30 (cpW (f 3) (f 30) 120)) 31 (va_cpy ((uA f 30 (cpW (f 3) (f 30) 120)) 4) ((uA f 30 (cpW (f 3) (f 30) 120)) 31) (ix 0) (ix 0) (ix 144)))) (bt5_90_4 call _ z (uA f 30 (cpW (f 3) (f 30) 120))) (by decide) ?_
  rw [cpW_e (f := (uA f 30 (cpW (f 3) (f 30) 120)) 4) (g := (uA f 30 (cpW (f 3) (f 30) 120)) 31) (a := 0) (b := 0) (n := 144) (N := 144) (by decide) (by decide) (by decide)]
  show XC call (mP 90) 16 [some (vR 29), some (vR 2)] [] (LW W z (uA (uA f 30 (cpW (f 3) (f 30) 120)) 31 (cpW (f 4) (f 31) 144))) res
  refine xc_b (i' := 19) (ls' := [some (vR 29), some (vR 2)]) (st' := [vI (z 22), vR 29]) (L' := LW W z (uA (uA f 30 (cpW (f 3) (f 30) 120)) 31 (cpW (f 4) (f 31) 144))) 3 (bt5_90_5 call z (uA (uA f 30 (cpW (f 3) (f 30) 120)) 31 (cpW (f 4) (f 31) 144))) ?_
  refine xc_b (i' := 20) (ls' := [some (vR 29), some (vR 2)]) (st' := []) (L' := LW W (uZ z 292 (z 22)) (uA (uA f 30 (cpW (f 3) (f 30) 120)) 31 (cpW (f 4) (f 31) 144))) 1 (bt5_90_6 call (z 22) _ z (uA (uA f 30 (cpW (f 3) (f 30) 120)) 31 (cpW (f 4) (f 31) 144))) ?_
  refine xc_b (i' := 23) (ls' := [some (vR 29), some (vR 2)]) (st' := [vI (z 23), vR 29]) (L' := LW W (uZ z 292 (z 22)) (uA (uA f 30 (cpW (f 3) (f 30) 120)) 31 (cpW (f 4) (f 31) 144))) 3 (bt5_90_7 call (uZ z 292 (z 22)) (uA (uA f 30 (cpW (f 3) (f 30) 120)) 31 (cpW (f 4) (f 31) 144))) ?_
  refine xc_b (i' := 24) (ls' := [some (vR 29), some (vR 2)]) (st' := []) (L' := LW W (uZ (uZ z 292 (z 22)) 293 (z 23)) (uA (uA f 30 (cpW (f 3) (f 30) 120)) 31 (cpW (f 4) (f 31) 144))) 1 (bt5_90_8 call (z 23) _ (uZ z 292 (z 22)) (uA (uA f 30 (cpW (f 3) (f 30) 120)) 31 (cpW (f 4) (f 31) 144))) ?_
  refine xc_b (i' := 27) (ls' := [some (vR 29), some (vR 2)]) (st' := [vI (z 24), vR 29]) (L' := LW W (uZ (uZ z 292 (z 22)) 293 (z 23)) (uA (uA f 30 (cpW (f 3) (f 30) 120)) 31 (cpW (f 4) (f 31) 144))) 3 (bt5_90_9 call (uZ (uZ z 292 (z 22)) 293 (z 23)) (uA (uA f 30 (cpW (f 3) (f 30) 120)) 31 (cpW (f 4) (f 31) 144))) ?_
  refine xc_b (i' := 28) (ls' := [some (vR 29), some (vR 2)]) (st' := []) (L' := LW W (uZ (uZ (uZ z 292 (z 22)) 293 (z 23)) 294 (z 24)) (uA (uA f 30 (cpW (f 3) (f 30) 120)) 31 (cpW (f 4) (f 31) 144))) 1 (bt5_90_10 call (z 24) _ (uZ (uZ z 292 (z 22)) 293 (z 23)) (uA (uA f 30 (cpW (f 3) (f 30) 120)) 31 (cpW (f 4) (f 31) 144))) ?_
  refine xc_b (i' := 31) (ls' := [some (vR 29), some (vR 2)]) (st' := [vI (z 25), vR 29]) (L' := LW W (uZ (uZ (uZ z 292 (z 22)) 293 (z 23)) 294 (z 24)) (uA (uA f 30 (cpW (f 3) (f 30) 120)) 31 (cpW (f 4) (f 31) 144))) 3 (bt5_90_11 call (uZ (uZ (uZ z 292 (z 22)) 293 (z 23)) 294 (z 24)) (uA (uA f 30 (cpW (f 3) (f 30) 120)) 31 (cpW (f 4) (f 31) 144))) ?_
  refine xc_b (i' := 32) (ls' := [some (vR 29), some (vR 2)]) (st' := []) (L' := LW W (uZ (uZ (uZ (uZ z 292 (z 22)) 293 (z 23)) 294 (z 24)) 295 (z 25)) (uA (uA f 30 (cpW (f 3) (f 30) 120)) 31 (cpW (f 4) (f 31) 144))) 1 (bt5_90_12 call (z 25) _ (uZ (uZ (uZ z 292 (z 22)) 293 (z 23)) 294 (z 24)) (uA (uA f 30 (cpW (f 3) (f 30) 120)) 31 (cpW (f 4) (f 31) 144))) ?_
  refine xc_b (i' := 35) (ls' := [some (vR 29), some (vR 2)]) (st' := [vI (z 26), vR 29]) (L' := LW W (uZ (uZ (uZ (uZ z 292 (z 22)) 293 (z 23)) 294 (z 24)) 295 (z 25)) (uA (uA f 30 (cpW (f 3) (f 30) 120)) 31 (cpW (f 4) (f 31) 144))) 3 (bt5_90_13 call (uZ (uZ (uZ (uZ z 292 (z 22)) 293 (z 23)) 294 (z 24)) 295 (z 25)) (uA (uA f 30 (cpW (f 3) (f 30) 120)) 31 (cpW (f 4) (f 31) 144))) ?_
  refine xc_b (i' := 36) (ls' := [some (vR 29), some (vR 2)]) (st' := []) (L' := LW W (uZ (uZ (uZ (uZ (uZ z 292 (z 22)) 293 (z 23)) 294 (z 24)) 295 (z 25)) 296 (z 26)) (uA (uA f 30 (cpW (f 3) (f 30) 120)) 31 (cpW (f 4) (f 31) 144))) 1 (bt5_90_14 call (z 26) _ (uZ (uZ (uZ (uZ z 292 (z 22)) 293 (z 23)) 294 (z 24)) 295 (z 25)) (uA (uA f 30 (cpW (f 3) (f 30) 120)) 31 (cpW (f 4) (f 31) 144))) ?_
  refine xc_b (i' := 39) (ls' := [some (vR 29), some (vR 2)]) (st' := [vI (z 27), vR 29]) (L' := LW W (uZ (uZ (uZ (uZ (uZ z 292 (z 22)) 293 (z 23)) 294 (z 24)) 295 (z 25)) 296 (z 26)) (uA (uA f 30 (cpW (f 3) (f 30) 120)) 31 (cpW (f 4) (f 31) 144))) 3 (bt5_90_15 call (uZ (uZ (uZ (uZ (uZ z 292 (z 22)) 293 (z 23)) 294 (z 24)) 295 (z 25)) 296 (z 26)) (uA (uA f 30 (cpW (f 3) (f 30) 120)) 31 (cpW (f 4) (f 31) 144))) ?_
  refine xc_b (i' := 40) (ls' := [some (vR 29), some (vR 2)]) (st' := []) (L' := LW W (uZ (uZ (uZ (uZ (uZ (uZ z 292 (z 22)) 293 (z 23)) 294 (z 24)) 295 (z 25)) 296 (z 26)) 297 (z 27)) (uA (uA f 30 (cpW (f 3) (f 30) 120)) 31 (cpW (f 4) (f 31) 144))) 1 (bt5_90_16 call (z 27) _ (uZ (uZ (uZ (uZ (uZ z 292 (z 22)) 293 (z 23)) 294 (z 24)) 295 (z 25)) 296 (z 26)) (uA (uA f 30 (cpW (f 3) (f 30) 120)) 31 (cpW (f 4) (f 31) 144))) ?_
  refine xc_b (i' := 43) (ls' := [some (vR 29), some (vR 2)]) (st' := [vI (z 28), vR 29]) (L' := LW W (uZ (uZ (uZ (uZ (uZ (uZ z 292 (z 22)) 293 (z 23)) 294 (z 24)) 295 (z 25)) 296 (z 26)) 297 (z 27)) (uA (uA f 30 (cpW (f 3) (f 30) 120)) 31 (cpW (f 4) (f 31) 144))) 3 (bt5_90_17 call (uZ (uZ (uZ (uZ (uZ (uZ z 292 (z 22)) 293 (z 23)) 294 (z 24)) 295 (z 25)) 296 (z 26)) 297 (z 27)) (uA (uA f 30 (cpW (f 3) (f 30) 120)) 31 (cpW (f 4) (f 31) 144))) ?_
  refine xc_b (i' := 44) (ls' := [some (vR 29), some (vR 2)]) (st' := []) (L' := LW W (uZ (uZ (uZ (uZ (uZ (uZ (uZ z 292 (z 22)) 293 (z 23)) 294 (z 24)) 295 (z 25)) 296 (z 26)) 297 (z 27)) 298 (z 28)) (uA (uA f 30 (cpW (f 3) (f 30) 120)) 31 (cpW (f 4) (f 31) 144))) 1 (bt5_90_18 call (z 28) _ (uZ (uZ (uZ (uZ (uZ (uZ z 292 (z 22)) 293 (z 23)) 294 (z 24)) 295 (z 25)) 296 (z 26)) 297 (z 27)) (uA (uA f 30 (cpW (f 3) (f 30) 120)) 31 (cpW (f 4) (f 31) 144))) ?_
  refine xc_b (i' := 47) (ls' := [some (vR 29), some (vR 2)]) (st' := [vI (z 29), vR 29]) (L' := LW W (uZ (uZ (uZ (uZ (uZ (uZ (uZ z 292 (z 22)) 293 (z 23)) 294 (z 24)) 295 (z 25)) 296 (z 26)) 297 (z 27)) 298 (z 28)) (uA (uA f 30 (cpW (f 3) (f 30) 120)) 31 (cpW (f 4) (f 31) 144))) 3 (bt5_90_19 call (uZ (uZ (uZ (uZ (uZ (uZ (uZ z 292 (z 22)) 293 (z 23)) 294 (z 24)) 295 (z 25)) 296 (z 26)) 297 (z 27)) 298 (z 28)) (uA (uA f 30 (cpW (f 3) (f 30) 120)) 31 (cpW (f 4) (f 31) 144))) ?_
  refine xc_b (i' := 48) (ls' := [some (vR 29), some (vR 2)]) (st' := []) (L' := LW W (uZ (uZ (uZ (uZ (uZ (uZ (uZ (uZ z 292 (z 22)) 293 (z 23)) 294 (z 24)) 295 (z 25)) 296 (z 26)) 297 (z 27)) 298 (z 28)) 299 (z 29)) (uA (uA f 30 (cpW (f 3) (f 30) 120)) 31 (cpW (f 4) (f 31) 144))) 1 (bt5_90_20 call (z 29) _ (uZ (uZ (uZ (uZ (uZ (uZ (uZ z 292 (z 22)) 293 (z 23)) 294 (z 24)) 295 (z 25)) 296 (z 26)) 297 (z 27)) 298 (z 28)) (uA (uA f 30 (cpW (f 3) (f 30) 120)) 31 (cpW (f 4) (f 31) 144))) ?_
  subst H
  exact xc_ret (bt5_90_21 call _ _)
set_option maxRecDepth 100000 in
theorem br5_90_1 (call : QC FA) (z : Nat → Int32) (f : Nat → FA) (F : Nat) : xnG call 90 (F + 7) 0 [some (vR 2), some (vR 29)] [] (LW W z f) = xnG call 90 F 7 [some (vR 2), some (vR 29)] [vI 120, vI 0, vR 3, vI 0, vR 30] (LW W z f) := rfl
set_option maxRecDepth 100000 in
theorem br5_90_2 (call : QC FA) (ls : List (Option PV)) (z : Nat → Int32) (f : Nat → FA) (F : Nat) : xnG call 90 (F + 1) 7 ls [vI 120, vI 0, vR 3, vI 0, vR 30] (LW W z f) = bif (Nat.beq 0 0 && (Nat.beq 0 0 && (pcmp 3 0 0 && (pcmp 3 0 0 && (pcmp 3 120 0 && (Nat.ble (ix 0 + ix 120) 120 && (Nat.ble (ix 0 + ix 120) 120 && Nat.ble 0 8))))))) then xnG call 90 F 8 ls [] (LW W z (uA f 3 (va_cpy (f 30) (f 3) (ix 0) (ix 0) (ix 120)))) else none := rfl
set_option maxRecDepth 100000 in
theorem br5_90_3 (call : QC FA) (z : Nat → Int32) (f : Nat → FA) (F : Nat) : xnG call 90 (F + 7) 8 [some (vR 2), some (vR 29)] [] (LW W z f) = xnG call 90 F 15 [some (vR 2), some (vR 29)] [vI 144, vI 0, vR 4, vI 0, vR 31] (LW W z f) := rfl
set_option maxRecDepth 100000 in
theorem br5_90_4 (call : QC FA) (ls : List (Option PV)) (z : Nat → Int32) (f : Nat → FA) (F : Nat) : xnG call 90 (F + 1) 15 ls [vI 144, vI 0, vR 4, vI 0, vR 31] (LW W z f) = bif (Nat.beq 0 0 && (Nat.beq 0 0 && (pcmp 3 0 0 && (pcmp 3 0 0 && (pcmp 3 144 0 && (Nat.ble (ix 0 + ix 144) 144 && (Nat.ble (ix 0 + ix 144) 144 && Nat.ble 0 8))))))) then xnG call 90 F 16 ls [] (LW W z (uA f 4 (va_cpy (f 31) (f 4) (ix 0) (ix 0) (ix 144)))) else none := rfl
set_option maxRecDepth 100000 in
theorem br5_90_5 (call : QC FA) (z : Nat → Int32) (f : Nat → FA) (F : Nat) : xnG call 90 (F + 3) 16 [some (vR 2), some (vR 29)] [] (LW W z f) = xnG call 90 F 19 [some (vR 2), some (vR 29)] [vI (z 292), vR 2] (LW W z f) := rfl
set_option maxRecDepth 100000 in
theorem br5_90_6 (call : QC FA) (y : Int32) (ls : List (Option PV)) (z : Nat → Int32) (f : Nat → FA) (F : Nat) : xnG call 90 (F + 1) 19 ls [vI y, vR 2] (LW W z f) = xnG call 90 F 20 ls [] (LW W (uZ z 22 y) f) := rfl
set_option maxRecDepth 100000 in
theorem br5_90_7 (call : QC FA) (z : Nat → Int32) (f : Nat → FA) (F : Nat) : xnG call 90 (F + 3) 20 [some (vR 2), some (vR 29)] [] (LW W z f) = xnG call 90 F 23 [some (vR 2), some (vR 29)] [vI (z 293), vR 2] (LW W z f) := rfl
set_option maxRecDepth 100000 in
theorem br5_90_8 (call : QC FA) (y : Int32) (ls : List (Option PV)) (z : Nat → Int32) (f : Nat → FA) (F : Nat) : xnG call 90 (F + 1) 23 ls [vI y, vR 2] (LW W z f) = xnG call 90 F 24 ls [] (LW W (uZ z 23 y) f) := rfl
set_option maxRecDepth 100000 in
theorem br5_90_9 (call : QC FA) (z : Nat → Int32) (f : Nat → FA) (F : Nat) : xnG call 90 (F + 3) 24 [some (vR 2), some (vR 29)] [] (LW W z f) = xnG call 90 F 27 [some (vR 2), some (vR 29)] [vI (z 294), vR 2] (LW W z f) := rfl
set_option maxRecDepth 100000 in
theorem br5_90_10 (call : QC FA) (y : Int32) (ls : List (Option PV)) (z : Nat → Int32) (f : Nat → FA) (F : Nat) : xnG call 90 (F + 1) 27 ls [vI y, vR 2] (LW W z f) = xnG call 90 F 28 ls [] (LW W (uZ z 24 y) f) := rfl
set_option maxRecDepth 100000 in
theorem br5_90_11 (call : QC FA) (z : Nat → Int32) (f : Nat → FA) (F : Nat) : xnG call 90 (F + 3) 28 [some (vR 2), some (vR 29)] [] (LW W z f) = xnG call 90 F 31 [some (vR 2), some (vR 29)] [vI (z 295), vR 2] (LW W z f) := rfl
set_option maxRecDepth 100000 in
theorem br5_90_12 (call : QC FA) (y : Int32) (ls : List (Option PV)) (z : Nat → Int32) (f : Nat → FA) (F : Nat) : xnG call 90 (F + 1) 31 ls [vI y, vR 2] (LW W z f) = xnG call 90 F 32 ls [] (LW W (uZ z 25 y) f) := rfl
set_option maxRecDepth 100000 in
theorem br5_90_13 (call : QC FA) (z : Nat → Int32) (f : Nat → FA) (F : Nat) : xnG call 90 (F + 3) 32 [some (vR 2), some (vR 29)] [] (LW W z f) = xnG call 90 F 35 [some (vR 2), some (vR 29)] [vI (z 296), vR 2] (LW W z f) := rfl
set_option maxRecDepth 100000 in
theorem br5_90_14 (call : QC FA) (y : Int32) (ls : List (Option PV)) (z : Nat → Int32) (f : Nat → FA) (F : Nat) : xnG call 90 (F + 1) 35 ls [vI y, vR 2] (LW W z f) = xnG call 90 F 36 ls [] (LW W (uZ z 26 y) f) := rfl
set_option maxRecDepth 100000 in
theorem br5_90_15 (call : QC FA) (z : Nat → Int32) (f : Nat → FA) (F : Nat) : xnG call 90 (F + 3) 36 [some (vR 2), some (vR 29)] [] (LW W z f) = xnG call 90 F 39 [some (vR 2), some (vR 29)] [vI (z 297), vR 2] (LW W z f) := rfl
set_option maxRecDepth 100000 in
theorem br5_90_16 (call : QC FA) (y : Int32) (ls : List (Option PV)) (z : Nat → Int32) (f : Nat → FA) (F : Nat) : xnG call 90 (F + 1) 39 ls [vI y, vR 2] (LW W z f) = xnG call 90 F 40 ls [] (LW W (uZ z 27 y) f) := rfl
set_option maxRecDepth 100000 in
theorem br5_90_17 (call : QC FA) (z : Nat → Int32) (f : Nat → FA) (F : Nat) : xnG call 90 (F + 3) 40 [some (vR 2), some (vR 29)] [] (LW W z f) = xnG call 90 F 43 [some (vR 2), some (vR 29)] [vI (z 298), vR 2] (LW W z f) := rfl
set_option maxRecDepth 100000 in
theorem br5_90_18 (call : QC FA) (y : Int32) (ls : List (Option PV)) (z : Nat → Int32) (f : Nat → FA) (F : Nat) : xnG call 90 (F + 1) 43 ls [vI y, vR 2] (LW W z f) = xnG call 90 F 44 ls [] (LW W (uZ z 28 y) f) := rfl
set_option maxRecDepth 100000 in
theorem br5_90_19 (call : QC FA) (z : Nat → Int32) (f : Nat → FA) (F : Nat) : xnG call 90 (F + 3) 44 [some (vR 2), some (vR 29)] [] (LW W z f) = xnG call 90 F 47 [some (vR 2), some (vR 29)] [vI (z 299), vR 2] (LW W z f) := rfl
set_option maxRecDepth 100000 in
theorem br5_90_20 (call : QC FA) (y : Int32) (ls : List (Option PV)) (z : Nat → Int32) (f : Nat → FA) (F : Nat) : xnG call 90 (F + 1) 47 ls [vI y, vR 2] (LW W z f) = xnG call 90 F 48 ls [] (LW W (uZ z 29 y) f) := rfl
set_option maxRecDepth 100000 in
theorem br5_90_21 (call : QC FA) (ls : List (Option PV)) (L : QH FA) (F : Nat) : xnG call 90 (F + 1) 48 ls [] L = some (none, L) := rfl
theorem vcr5_90_0 (call : QC FA) (z : Nat → Int32) (f : Nat → FA) (res : Option PV × QH FA) (H : res = (none, LW W (uZ (uZ (uZ (uZ (uZ (uZ (uZ (uZ z 22 (z 292)) 23 (z 293)) 24 (z 294)) 25 (z 295)) 26 (z 296)) 27 (z 297)) 28 (z 298)) 29 (z 299)) (uA (uA f 3 (cpW (f 30) (f 3) 120)) 4 (cpW (f 31) (f 4) 144)))) : XC call (mP 90) 0 [some (vR 2), some (vR 29)] [] (LW W z f) res := by
  refine xc_b (i' := 7) (ls' := [some (vR 2), some (vR 29)]) (st' := [vI 120, vI 0, vR 3, vI 0, vR 30]) (L' := LW W z f) 7 (br5_90_1 call z f) ?_
  refine xc_g (i' := 8) (ls' := [some (vR 2), some (vR 29)]) (st' := []) (L' := LW W z (uA f 3 (va_cpy (f 30) (f 3) (ix 0) (ix 0) (ix 120)))) (br5_90_2 call _ z f) (by decide) ?_
  rw [cpW_e (f := f 30) (g := f 3) (a := 0) (b := 0) (n := 120) (N := 120) (by decide) (by decide) (by decide)]
  show XC call (mP 90) 8 [some (vR 2), some (vR 29)] [] (LW W z (uA f 3 (cpW (f 30) (f 3) 120))) res
  refine xc_b (i' := 15) (ls' := [some (vR 2), some (vR 29)]) (st' := [vI 144, vI 0, vR 4, vI 0, vR 31]) (L' := LW W z (uA f 3 (cpW (f 30) (f 3) 120))) 7 (br5_90_3 call z (uA f 3 (cpW (f 30) (f 3) 120))) ?_
  refine xc_g (i' := 16) (ls' := [some (vR 2), some (vR 29)]) (st' := []) (L' := LW W z (uA (uA f 3 (cpW (f 30) (f 3) 120)) 4 (va_cpy ((uA f 3 (cpW (f 30) (f 3) 120)) 31) ((uA f 3 (cpW (f 30) (f 3) 120)) 4) (ix 0) (ix 0) (ix 144)))) (br5_90_4 call _ z (uA f 3 (cpW (f 30) (f 3) 120))) (by decide) ?_
  rw [cpW_e (f := (uA f 3 (cpW (f 30) (f 3) 120)) 31) (g := (uA f 3 (cpW (f 30) (f 3) 120)) 4) (a := 0) (b := 0) (n := 144) (N := 144) (by decide) (by decide) (by decide)]
  show XC call (mP 90) 16 [some (vR 2), some (vR 29)] [] (LW W z (uA (uA f 3 (cpW (f 30) (f 3) 120)) 4 (cpW (f 31) (f 4) 144))) res
  refine xc_b (i' := 19) (ls' := [some (vR 2), some (vR 29)]) (st' := [vI (z 292), vR 2]) (L' := LW W z (uA (uA f 3 (cpW (f 30) (f 3) 120)) 4 (cpW (f 31) (f 4) 144))) 3 (br5_90_5 call z (uA (uA f 3 (cpW (f 30) (f 3) 120)) 4 (cpW (f 31) (f 4) 144))) ?_
  refine xc_b (i' := 20) (ls' := [some (vR 2), some (vR 29)]) (st' := []) (L' := LW W (uZ z 22 (z 292)) (uA (uA f 3 (cpW (f 30) (f 3) 120)) 4 (cpW (f 31) (f 4) 144))) 1 (br5_90_6 call (z 292) _ z (uA (uA f 3 (cpW (f 30) (f 3) 120)) 4 (cpW (f 31) (f 4) 144))) ?_
  refine xc_b (i' := 23) (ls' := [some (vR 2), some (vR 29)]) (st' := [vI (z 293), vR 2]) (L' := LW W (uZ z 22 (z 292)) (uA (uA f 3 (cpW (f 30) (f 3) 120)) 4 (cpW (f 31) (f 4) 144))) 3 (br5_90_7 call (uZ z 22 (z 292)) (uA (uA f 3 (cpW (f 30) (f 3) 120)) 4 (cpW (f 31) (f 4) 144))) ?_
  refine xc_b (i' := 24) (ls' := [some (vR 2), some (vR 29)]) (st' := []) (L' := LW W (uZ (uZ z 22 (z 292)) 23 (z 293)) (uA (uA f 3 (cpW (f 30) (f 3) 120)) 4 (cpW (f 31) (f 4) 144))) 1 (br5_90_8 call (z 293) _ (uZ z 22 (z 292)) (uA (uA f 3 (cpW (f 30) (f 3) 120)) 4 (cpW (f 31) (f 4) 144))) ?_
  refine xc_b (i' := 27) (ls' := [some (vR 2), some (vR 29)]) (st' := [vI (z 294), vR 2]) (L' := LW W (uZ (uZ z 22 (z 292)) 23 (z 293)) (uA (uA f 3 (cpW (f 30) (f 3) 120)) 4 (cpW (f 31) (f 4) 144))) 3 (br5_90_9 call (uZ (uZ z 22 (z 292)) 23 (z 293)) (uA (uA f 3 (cpW (f 30) (f 3) 120)) 4 (cpW (f 31) (f 4) 144))) ?_
  refine xc_b (i' := 28) (ls' := [some (vR 2), some (vR 29)]) (st' := []) (L' := LW W (uZ (uZ (uZ z 22 (z 292)) 23 (z 293)) 24 (z 294)) (uA (uA f 3 (cpW (f 30) (f 3) 120)) 4 (cpW (f 31) (f 4) 144))) 1 (br5_90_10 call (z 294) _ (uZ (uZ z 22 (z 292)) 23 (z 293)) (uA (uA f 3 (cpW (f 30) (f 3) 120)) 4 (cpW (f 31) (f 4) 144))) ?_
  refine xc_b (i' := 31) (ls' := [some (vR 2), some (vR 29)]) (st' := [vI (z 295), vR 2]) (L' := LW W (uZ (uZ (uZ z 22 (z 292)) 23 (z 293)) 24 (z 294)) (uA (uA f 3 (cpW (f 30) (f 3) 120)) 4 (cpW (f 31) (f 4) 144))) 3 (br5_90_11 call (uZ (uZ (uZ z 22 (z 292)) 23 (z 293)) 24 (z 294)) (uA (uA f 3 (cpW (f 30) (f 3) 120)) 4 (cpW (f 31) (f 4) 144))) ?_
  refine xc_b (i' := 32) (ls' := [some (vR 2), some (vR 29)]) (st' := []) (L' := LW W (uZ (uZ (uZ (uZ z 22 (z 292)) 23 (z 293)) 24 (z 294)) 25 (z 295)) (uA (uA f 3 (cpW (f 30) (f 3) 120)) 4 (cpW (f 31) (f 4) 144))) 1 (br5_90_12 call (z 295) _ (uZ (uZ (uZ z 22 (z 292)) 23 (z 293)) 24 (z 294)) (uA (uA f 3 (cpW (f 30) (f 3) 120)) 4 (cpW (f 31) (f 4) 144))) ?_
  refine xc_b (i' := 35) (ls' := [some (vR 2), some (vR 29)]) (st' := [vI (z 296), vR 2]) (L' := LW W (uZ (uZ (uZ (uZ z 22 (z 292)) 23 (z 293)) 24 (z 294)) 25 (z 295)) (uA (uA f 3 (cpW (f 30) (f 3) 120)) 4 (cpW (f 31) (f 4) 144))) 3 (br5_90_13 call (uZ (uZ (uZ (uZ z 22 (z 292)) 23 (z 293)) 24 (z 294)) 25 (z 295)) (uA (uA f 3 (cpW (f 30) (f 3) 120)) 4 (cpW (f 31) (f 4) 144))) ?_
  refine xc_b (i' := 36) (ls' := [some (vR 2), some (vR 29)]) (st' := []) (L' := LW W (uZ (uZ (uZ (uZ (uZ z 22 (z 292)) 23 (z 293)) 24 (z 294)) 25 (z 295)) 26 (z 296)) (uA (uA f 3 (cpW (f 30) (f 3) 120)) 4 (cpW (f 31) (f 4) 144))) 1 (br5_90_14 call (z 296) _ (uZ (uZ (uZ (uZ z 22 (z 292)) 23 (z 293)) 24 (z 294)) 25 (z 295)) (uA (uA f 3 (cpW (f 30) (f 3) 120)) 4 (cpW (f 31) (f 4) 144))) ?_
  refine xc_b (i' := 39) (ls' := [some (vR 2), some (vR 29)]) (st' := [vI (z 297), vR 2]) (L' := LW W (uZ (uZ (uZ (uZ (uZ z 22 (z 292)) 23 (z 293)) 24 (z 294)) 25 (z 295)) 26 (z 296)) (uA (uA f 3 (cpW (f 30) (f 3) 120)) 4 (cpW (f 31) (f 4) 144))) 3 (br5_90_15 call (uZ (uZ (uZ (uZ (uZ z 22 (z 292)) 23 (z 293)) 24 (z 294)) 25 (z 295)) 26 (z 296)) (uA (uA f 3 (cpW (f 30) (f 3) 120)) 4 (cpW (f 31) (f 4) 144))) ?_
  refine xc_b (i' := 40) (ls' := [some (vR 2), some (vR 29)]) (st' := []) (L' := LW W (uZ (uZ (uZ (uZ (uZ (uZ z 22 (z 292)) 23 (z 293)) 24 (z 294)) 25 (z 295)) 26 (z 296)) 27 (z 297)) (uA (uA f 3 (cpW (f 30) (f 3) 120)) 4 (cpW (f 31) (f 4) 144))) 1 (br5_90_16 call (z 297) _ (uZ (uZ (uZ (uZ (uZ z 22 (z 292)) 23 (z 293)) 24 (z 294)) 25 (z 295)) 26 (z 296)) (uA (uA f 3 (cpW (f 30) (f 3) 120)) 4 (cpW (f 31) (f 4) 144))) ?_
  refine xc_b (i' := 43) (ls' := [some (vR 2), some (vR 29)]) (st' := [vI (z 298), vR 2]) (L' := LW W (uZ (uZ (uZ (uZ (uZ (uZ z 22 (z 292)) 23 (z 293)) 24 (z 294)) 25 (z 295)) 26 (z 296)) 27 (z 297)) (uA (uA f 3 (cpW (f 30) (f 3) 120)) 4 (cpW (f 31) (f 4) 144))) 3 (br5_90_17 call (uZ (uZ (uZ (uZ (uZ (uZ z 22 (z 292)) 23 (z 293)) 24 (z 294)) 25 (z 295)) 26 (z 296)) 27 (z 297)) (uA (uA f 3 (cpW (f 30) (f 3) 120)) 4 (cpW (f 31) (f 4) 144))) ?_
  refine xc_b (i' := 44) (ls' := [some (vR 2), some (vR 29)]) (st' := []) (L' := LW W (uZ (uZ (uZ (uZ (uZ (uZ (uZ z 22 (z 292)) 23 (z 293)) 24 (z 294)) 25 (z 295)) 26 (z 296)) 27 (z 297)) 28 (z 298)) (uA (uA f 3 (cpW (f 30) (f 3) 120)) 4 (cpW (f 31) (f 4) 144))) 1 (br5_90_18 call (z 298) _ (uZ (uZ (uZ (uZ (uZ (uZ z 22 (z 292)) 23 (z 293)) 24 (z 294)) 25 (z 295)) 26 (z 296)) 27 (z 297)) (uA (uA f 3 (cpW (f 30) (f 3) 120)) 4 (cpW (f 31) (f 4) 144))) ?_
  refine xc_b (i' := 47) (ls' := [some (vR 2), some (vR 29)]) (st' := [vI (z 299), vR 2]) (L' := LW W (uZ (uZ (uZ (uZ (uZ (uZ (uZ z 22 (z 292)) 23 (z 293)) 24 (z 294)) 25 (z 295)) 26 (z 296)) 27 (z 297)) 28 (z 298)) (uA (uA f 3 (cpW (f 30) (f 3) 120)) 4 (cpW (f 31) (f 4) 144))) 3 (br5_90_19 call (uZ (uZ (uZ (uZ (uZ (uZ (uZ z 22 (z 292)) 23 (z 293)) 24 (z 294)) 25 (z 295)) 26 (z 296)) 27 (z 297)) 28 (z 298)) (uA (uA f 3 (cpW (f 30) (f 3) 120)) 4 (cpW (f 31) (f 4) 144))) ?_
  refine xc_b (i' := 48) (ls' := [some (vR 2), some (vR 29)]) (st' := []) (L' := LW W (uZ (uZ (uZ (uZ (uZ (uZ (uZ (uZ z 22 (z 292)) 23 (z 293)) 24 (z 294)) 25 (z 295)) 26 (z 296)) 27 (z 297)) 28 (z 298)) 29 (z 299)) (uA (uA f 3 (cpW (f 30) (f 3) 120)) 4 (cpW (f 31) (f 4) 144))) 1 (br5_90_20 call (z 299) _ (uZ (uZ (uZ (uZ (uZ (uZ (uZ z 22 (z 292)) 23 (z 293)) 24 (z 294)) 25 (z 295)) 26 (z 296)) 27 (z 297)) 28 (z 298)) (uA (uA f 3 (cpW (f 30) (f 3) 120)) 4 (cpW (f 31) (f 4) 144))) ?_
  subst H
  exact xc_ret (br5_90_21 call _ _)
set_option maxRecDepth 100000 in
theorem bk5_141_1 (call : QC FA) (z : Nat → Int32) (f : Nat → FA) (F : Nat) : xnG call 141 (F + 2) 0 [some (vR 12), some (vR 2)] [] (LW W z f) = xnG call 141 F 2 [some (vR 12), some (vR 2)] [vI (z 122)] (LW W z f) := rfl
set_option maxRecDepth 100000 in
theorem bk5_141_2 (call : QC FA) (x : Int32) (ls : List (Option PV)) (L : QH FA) (F : Nat) : xnG call 141 (F + 1) 2 ls [vI x] L = bif pcmp 2 x 0 then xnG call 141 F 7 ls [] L else xnG call 141 F 3 ls [] L := rfl
set_option maxRecDepth 100000 in
theorem bk5_141_3 (call : QC FA) (z : Nat → Int32) (f : Nat → FA) (F : Nat) : xnG call 141 (F + 3) 3 [some (vR 12), some (vR 2)] [] (LW W z f) = xnG call 141 F 6 [some (vR 12), some (vR 2)] [vI 6, vI (z 122)] (LW W z f) := rfl
set_option maxRecDepth 100000 in
theorem bk5_141_4 (call : QC FA) (x y : Int32) (ls : List (Option PV)) (L : QH FA) (F : Nat) : xnG call 141 (F + 1) 6 ls [vI y, vI x] L = bif pcmp 2 x y then xnG call 141 F 8 ls [] L else xnG call 141 F 7 ls [] L := rfl
set_option maxRecDepth 100000 in
theorem bk5_141_5 (call : QC FA) (z : Nat → Int32) (f : Nat → FA) (F : Nat) : xnG call 141 (F + 4) 8 [some (vR 12), some (vR 2)] [] (LW W z f) = xnG call 141 F 12 [some (vR 12), some (vR 2)] [vI (z 122), vR 13] (LW W z f) := rfl
set_option maxRecDepth 100000 in
theorem bk5_141_6 (call : QC FA) (ls : List (Option PV)) (z : Nat → Int32) (f : Nat → FA) (F : Nat) : xnG call 141 (F + 1) 12 ls [vI 5, vR 13] (LW W z f) = bif ((Nat.beq 1 1 || (Nat.beq 1 2 || Nat.beq 1 3)) && pin 5 6) then xnG call 141 F 13 ls [.inr (.inl (rgW (ix 5)))] (LW W z f) else none := rfl
set_option maxRecDepth 100000 in
theorem bk5_141_7 (call : QC FA) (L : QH FA) (F : Nat) : xnG call 141 (F + 1) 13 [some (vR 12), some (vR 2)] [vR 29] L = xnG call 141 F 14 [some (vR 12), some (vR 2)] [vR 2, vR 29] L := rfl
set_option maxRecDepth 100000 in
theorem bk5_141_8 (call : QC FA) (ls : List (Option PV)) (z : Nat → Int32) (f : Nat → FA) (F : Nat) : xnG call 141 (F + 1) 14 ls [vR 2, vR 29] (LW W z f) = cbd (call 90 [vR 29, vR 2] (LW W z f)) (fun r L' => xnG call 141 F 15 ls (r.toList ++ []) L') := pcY (ih := xnG call 141 F) (call := call) (a := 90) (b := 1) (v := 0) (t := 15) (x := 29) (ls := ls) (As := [vR 2]) (st' := []) (L := LW W z f) rfl rfl rfl
set_option maxRecDepth 100000 in
theorem bk5_141_9 (call : QC FA) (z : Nat → Int32) (f : Nat → FA) (F : Nat) : xnG call 141 (F + 6) 15 [some (vR 12), some (vR 2)] [] (LW W z f) = xnG call 141 F 21 [some (vR 12), some (vR 2)] [vI 6, vI ((z 122) + 1), vR 12] (LW W z f) := rfl
set_option maxRecDepth 100000 in
theorem bk5_141_10 (call : QC FA) (x y : Int32) (ls : List (Option PV)) (L : QH FA) (F : Nat) : xnG call 141 (F + 1) 21 ls [vI y, vI x, vR 12] L = bif pcmp 3 x y then xnG call 141 F 27 ls [vR 12] L else xnG call 141 F 22 ls [vR 12] L := rfl
set_option maxRecDepth 100000 in
theorem bk5_141_11 (call : QC FA) (L : QH FA) (F : Nat) : xnG call 141 (F + 1) 27 [some (vR 12), some (vR 2)] [vR 12] L = xnG call 141 F 28 [some (vR 12), some (vR 2)] [vI 0, vR 12] L := rfl
set_option maxRecDepth 100000 in
theorem bk5_141_12 (call : QC FA) (y : Int32) (ls : List (Option PV)) (z : Nat → Int32) (f : Nat → FA) (F : Nat) : xnG call 141 (F + 1) 28 ls [vI y, vR 12] (LW W z f) = xnG call 141 F 29 ls [] (LW W (uZ z 122 y) f) := rfl
set_option maxRecDepth 100000 in
theorem bk5_141_13 (call : QC FA) (z : Nat → Int32) (f : Nat → FA) (F : Nat) : xnG call 141 (F + 6) 29 [some (vR 12), some (vR 2)] [] (LW W z f) = xnG call 141 F 35 [some (vR 12), some (vR 2)] [vI 6, vI ((z 123) + 1), vR 12] (LW W z f) := rfl
set_option maxRecDepth 100000 in
theorem bk5_141_14 (call : QC FA) (x y : Int32) (ls : List (Option PV)) (L : QH FA) (F : Nat) : xnG call 141 (F + 1) 35 ls [vI y, vI x, vR 12] L = bif pcmp 2 y x then xnG call 141 F 36 ls [vI y, vR 12] L else xnG call 141 F 36 ls [vI x, vR 12] L := pmn (xnG call 141 F) 36 x y ls [vR 12] L rfl
set_option maxRecDepth 100000 in
theorem bk5_141_15 (call : QC FA) (y : Int32) (ls : List (Option PV)) (z : Nat → Int32) (f : Nat → FA) (F : Nat) : xnG call 141 (F + 1) 36 ls [vI y, vR 12] (LW W z f) = xnG call 141 F 37 ls [] (LW W (uZ z 123 y) f) := rfl
set_option maxRecDepth 100000 in
theorem bk5_141_16 (call : QC FA) (ls : List (Option PV)) (L : QH FA) (F : Nat) : xnG call 141 (F + 1) 37 ls [] L = some (none, L) := rfl
set_option maxRecDepth 100000 in
theorem bk5_141_17 (call : QC FA) (z : Nat → Int32) (f : Nat → FA) (F : Nat) : xnG call 141 (F + 5) 22 [some (vR 12), some (vR 2)] [vR 12] (LW W z f) = xnG call 141 F 28 [some (vR 12), some (vR 2)] [vI ((z 122) + 1), vR 12] (LW W z f) := rfl
theorem vck5_141_0 (call : QC FA) (z : Nat → Int32) (f : Nat → FA) (res : Option PV × QH FA) (H : (∃ (z1 : Nat → Int32) (f1 : Nat → FA), call 90 [vR 29, vR 2] (LW W (uZ z 122 5) f) = some (none, LW W z1 f1) ∧ ((6 ≤ I ((z1 122) + 1) → ((6 < I ((z1 123) + 1) → res = (none, LW W (uZ (uZ z1 122 0) 123 6) f1)) ∧ (I ((z1 123) + 1) ≤ 6 → res = (none, LW W (uZ (uZ z1 122 0) 123 ((z1 123) + 1)) f1)))) ∧ (I ((z1 122) + 1) < 6 → ((6 < I ((z1 123) + 1) → res = (none, LW W (uZ (uZ z1 122 ((z1 122) + 1)) 123 6) f1)) ∧ (I ((z1 123) + 1) ≤ 6 → res = (none, LW W (uZ (uZ z1 122 ((z1 122) + 1)) 123 ((z1 123) + 1)) f1))))))) : XC call (mP 141) 0 [some (vR 12), some (vR 2)] [] (LW W (uZ z 122 5) f) res := by
  refine xc_b (i' := 2) (ls' := [some (vR 12), some (vR 2)]) (st' := [vI 5]) (L' := LW W (uZ z 122 5) f) 2 (bk5_141_1 call (uZ z 122 5) f) ?_
  refine xc_f (it := 7) (ie := 3) (ls' := [some (vR 12), some (vR 2)]) (st' := []) (bk5_141_2 call 5 _ _) (by decide) ?_
  refine xc_b (i' := 6) (ls' := [some (vR 12), some (vR 2)]) (st' := [vI 6, vI 5]) (L' := LW W (uZ z 122 5) f) 3 (bk5_141_3 call (uZ z 122 5) f) ?_
  refine xc_t (it := 8) (ie := 7) (ls' := [some (vR 12), some (vR 2)]) (st' := []) (bk5_141_4 call 5 6 _ _) (by decide) ?_
  refine xc_b (i' := 12) (ls' := [some (vR 12), some (vR 2)]) (st' := [vI 5, vR 13]) (L' := LW W (uZ z 122 5) f) 4 (bk5_141_5 call (uZ z 122 5) f) ?_
  refine xc_g (i' := 13) (ls' := [some (vR 12), some (vR 2)]) (st' := [.inr (.inl (rgW (ix 5)))]) (L' := LW W (uZ z 122 5) f) (bk5_141_6 call _ (uZ z 122 5) f) (by decide) ?_
  show XC call (mP 141) 13 [some (vR 12), some (vR 2)] [vR 29] (LW W (uZ z 122 5) f) res
  refine xc_b (i' := 14) (ls' := [some (vR 12), some (vR 2)]) (st' := [vR 2, vR 29]) (L' := LW W (uZ z 122 5) f) 1 (bk5_141_7 call _) ?_
  obtain ⟨z1, f1, hc, H⟩ := H
  refine xc_call (t := 15) (ls' := [some (vR 12), some (vR 2)]) (st' := []) (bk5_141_8 call _ (uZ z 122 5) f) hc ?_
  show XC call (mP 141) 15 [some (vR 12), some (vR 2)] [] (LW W z1 f1) res
  refine xc_b (i' := 21) (ls' := [some (vR 12), some (vR 2)]) (st' := [vI 6, vI ((z1 122) + 1), vR 12]) (L' := LW W z1 f1) 6 (bk5_141_9 call z1 f1) ?_
  refine xc_if (it := 27) (ie := 22) (ls' := [some (vR 12), some (vR 2)]) (st' := [vR 12]) (bk5_141_10 call ((z1 122) + 1) 6 _ _) (fun q1 => ?_) (fun q1 => ?_)
  · have H := H.1 (cI3t q1 rfl rfl)
    refine xc_b (i' := 28) (ls' := [some (vR 12), some (vR 2)]) (st' := [vI 0, vR 12]) (L' := LW W z1 f1) 1 (bk5_141_11 call _) ?_
    refine xc_b (i' := 29) (ls' := [some (vR 12), some (vR 2)]) (st' := []) (L' := LW W (uZ z1 122 0) f1) 1 (bk5_141_12 call 0 _ z1 f1) ?_
    refine xc_b (i' := 35) (ls' := [some (vR 12), some (vR 2)]) (st' := [vI 6, vI ((z1 123) + 1), vR 12]) (L' := LW W (uZ z1 122 0) f1) 6 (bk5_141_13 call (uZ z1 122 0) f1) ?_
    refine xc_if2 (it := 36) (ie := 36) (ls' := [some (vR 12), some (vR 2)]) (st1 := [vI 6, vR 12]) (st2 := [vI ((z1 123) + 1), vR 12]) (bk5_141_14 call ((z1 123) + 1) 6 _ _) (fun q2 => ?_) (fun q2 => ?_)
    · have H := H.1 (cI2t q2 rfl rfl)
      refine xc_b (i' := 37) (ls' := [some (vR 12), some (vR 2)]) (st' := []) (L' := LW W (uZ (uZ z1 122 0) 123 6) f1) 1 (bk5_141_15 call 6 _ (uZ z1 122 0) f1) ?_
      subst H
      exact xc_ret (bk5_141_16 call _ _)
    · have H := H.2 (cI2f q2 rfl rfl)
      refine xc_b (i' := 37) (ls' := [some (vR 12), some (vR 2)]) (st' := []) (L' := LW W (uZ (uZ z1 122 0) 123 ((z1 123) + 1)) f1) 1 (bk5_141_15 call ((z1 123) + 1) _ (uZ z1 122 0) f1) ?_
      subst H
      exact xc_ret (bk5_141_16 call _ _)
  · have H := H.2 (cI3f q1 rfl rfl)
    refine xc_b (i' := 28) (ls' := [some (vR 12), some (vR 2)]) (st' := [vI ((z1 122) + 1), vR 12]) (L' := LW W z1 f1) 5 (bk5_141_17 call z1 f1) ?_
    refine xc_b (i' := 29) (ls' := [some (vR 12), some (vR 2)]) (st' := []) (L' := LW W (uZ z1 122 ((z1 122) + 1)) f1) 1 (bk5_141_12 call ((z1 122) + 1) _ z1 f1) ?_
    refine xc_b (i' := 35) (ls' := [some (vR 12), some (vR 2)]) (st' := [vI 6, vI ((z1 123) + 1), vR 12]) (L' := LW W (uZ z1 122 ((z1 122) + 1)) f1) 6 (bk5_141_13 call (uZ z1 122 ((z1 122) + 1)) f1) ?_
    refine xc_if2 (it := 36) (ie := 36) (ls' := [some (vR 12), some (vR 2)]) (st1 := [vI 6, vR 12]) (st2 := [vI ((z1 123) + 1), vR 12]) (bk5_141_14 call ((z1 123) + 1) 6 _ _) (fun q3 => ?_) (fun q3 => ?_)
    · have H := H.1 (cI2t q3 rfl rfl)
      refine xc_b (i' := 37) (ls' := [some (vR 12), some (vR 2)]) (st' := []) (L' := LW W (uZ (uZ z1 122 ((z1 122) + 1)) 123 6) f1) 1 (bk5_141_15 call 6 _ (uZ z1 122 ((z1 122) + 1)) f1) ?_
      subst H
      exact xc_ret (bk5_141_16 call _ _)
    · have H := H.2 (cI2f q3 rfl rfl)
      refine xc_b (i' := 37) (ls' := [some (vR 12), some (vR 2)]) (st' := []) (L' := LW W (uZ (uZ z1 122 ((z1 122) + 1)) 123 ((z1 123) + 1)) f1) 1 (bk5_141_15 call ((z1 123) + 1) _ (uZ z1 122 ((z1 122) + 1)) f1) ?_
      subst H
      exact xc_ret (bk5_141_16 call _ _)
set_option maxRecDepth 100000 in
theorem bb5_140_1 (call : QC FA) (z : Nat → Int32) (f : Nat → FA) (F : Nat) : xnG call 140 (F + 2) 0 [some (vR 12), some (vR 2)] [] (LW W z f) = xnG call 140 F 2 [some (vR 12), some (vR 2)] [vI (z 123)] (LW W z f) := rfl
set_option maxRecDepth 100000 in
theorem bb5_140_2 (call : QC FA) (x : Int32) (ls : List (Option PV)) (L : QH FA) (F : Nat) : xnG call 140 (F + 1) 2 ls [vI x] L = bif pcmp 0 x 0 then xnG call 140 F 10 ls [] L else xnG call 140 F 3 ls [] L := rfl
set_option maxRecDepth 100000 in
theorem bb5_140_3 (call : QC FA) (L : QH FA) (F : Nat) : xnG call 140 (F + 1) 10 [some (vR 12), some (vR 2)] [] L = xnG call 140 F 11 [some (vR 12), some (vR 2)] [vI 0] L := rfl
set_option maxRecDepth 100000 in
theorem bb5_140_4 (call : QC FA) (ls : List (Option PV)) (L : QH FA) (F : Nat) : xnG call 140 (F + 1) 11 ls [vI 0] L = some (some (vI 0), L) := rfl
set_option maxRecDepth 100000 in
theorem bb5_140_5 (call : QC FA) (z : Nat → Int32) (f : Nat → FA) (F : Nat) : xnG call 140 (F + 2) 3 [some (vR 12), some (vR 2)] [] (LW W z f) = xnG call 140 F 5 [some (vR 12), some (vR 2)] [vI (z 122)] (LW W z f) := rfl
set_option maxRecDepth 100000 in
theorem bb5_140_6 (call : QC FA) (x : Int32) (ls : List (Option PV)) (L : QH FA) (F : Nat) : xnG call 140 (F + 1) 5 ls [vI x] L = bif pcmp 2 x 0 then xnG call 140 F 10 ls [] L else xnG call 140 F 6 ls [] L := rfl
set_option maxRecDepth 100000 in
theorem bb5_140_7 (call : QC FA) (z : Nat → Int32) (f : Nat → FA) (F : Nat) : xnG call 140 (F + 3) 6 [some (vR 12), some (vR 2)] [] (LW W z f) = xnG call 140 F 9 [some (vR 12), some (vR 2)] [vI 6, vI (z 122)] (LW W z f) := rfl
set_option maxRecDepth 100000 in
theorem bb5_140_8 (call : QC FA) (x y : Int32) (ls : List (Option PV)) (L : QH FA) (F : Nat) : xnG call 140 (F + 1) 9 ls [vI y, vI x] L = bif pcmp 2 x y then xnG call 140 F 12 ls [] L else xnG call 140 F 10 ls [] L := rfl
set_option maxRecDepth 100000 in
theorem bb5_140_9 (call : QC FA) (z : Nat → Int32) (f : Nat → FA) (F : Nat) : xnG call 140 (F + 3) 12 [some (vR 12), some (vR 2)] [] (LW W z f) = xnG call 140 F 15 [some (vR 12), some (vR 2)] [vI (z 122), vR 12] (LW W z f) := rfl
set_option maxRecDepth 100000 in
theorem bb5_140_10 (call : QC FA) (x : Int32) (ls : List (Option PV)) (L : QH FA) (F : Nat) : xnG call 140 (F + 1) 15 ls [vI x, vR 12] L = bif pcmp 5 x 0 then xnG call 140 F 21 ls [vR 12] L else xnG call 140 F 16 ls [vR 12] L := rfl
set_option maxRecDepth 100000 in
theorem bb5_140_11 (call : QC FA) (z : Nat → Int32) (f : Nat → FA) (F : Nat) : xnG call 140 (F + 5) 16 [some (vR 12), some (vR 2)] [vR 12] (LW W z f) = xnG call 140 F 22 [some (vR 12), some (vR 2)] [vI ((z 122) - 1), vR 12] (LW W z f) := rfl
set_option maxRecDepth 100000 in
theorem bb5_140_12 (call : QC FA) (y : Int32) (ls : List (Option PV)) (z : Nat → Int32) (f : Nat → FA) (F : Nat) : xnG call 140 (F + 1) 22 ls [vI y, vR 12] (LW W z f) = xnG call 140 F 23 ls [] (LW W (uZ z 122 y) f) := rfl
set_option maxRecDepth 100000 in
theorem bb5_140_13 (call : QC FA) (z : Nat → Int32) (f : Nat → FA) (F : Nat) : xnG call 140 (F + 5) 23 [some (vR 12), some (vR 2)] [] (LW W z f) = xnG call 140 F 28 [some (vR 12), some (vR 2)] [vI ((z 123) - 1), vR 12] (LW W z f) := rfl
set_option maxRecDepth 100000 in
theorem bb5_140_14 (call : QC FA) (y : Int32) (ls : List (Option PV)) (z : Nat → Int32) (f : Nat → FA) (F : Nat) : xnG call 140 (F + 1) 28 ls [vI y, vR 12] (LW W z f) = xnG call 140 F 29 ls [] (LW W (uZ z 123 y) f) := rfl
set_option maxRecDepth 100000 in
theorem bb5_140_15 (call : QC FA) (z : Nat → Int32) (f : Nat → FA) (F : Nat) : xnG call 140 (F + 5) 29 [some (vR 12), some (vR 2)] [] (LW W z f) = xnG call 140 F 34 [some (vR 12), some (vR 2)] [vI (z 122), vR 13, vR 2] (LW W z f) := rfl
set_option maxRecDepth 100000 in
theorem bb5_140_16 (call : QC FA) (ls : List (Option PV)) (z : Nat → Int32) (f : Nat → FA) (F : Nat) : xnG call 140 (F + 1) 34 ls [vI 4, vR 13, vR 2] (LW W z f) = bif ((Nat.beq 1 1 || (Nat.beq 1 2 || Nat.beq 1 3)) && pin 4 6) then xnG call 140 F 35 ls [.inr (.inl (rgW (ix 4))), vR 2] (LW W z f) else none := rfl
set_option maxRecDepth 100000 in
theorem bb5_140_17 (call : QC FA) (ls : List (Option PV)) (z : Nat → Int32) (f : Nat → FA) (F : Nat) : xnG call 140 (F + 1) 35 ls [vR 26, vR 2] (LW W z f) = cbd (call 90 [vR 2, vR 26] (LW W z f)) (fun r L' => xnG call 140 F 36 ls (r.toList ++ []) L') := pcY (ih := xnG call 140 F) (call := call) (a := 90) (b := 1) (v := 0) (t := 36) (x := 2) (ls := ls) (As := [vR 26]) (st' := []) (L := LW W z f) rfl rfl rfl
set_option maxRecDepth 100000 in
theorem bb5_140_18 (call : QC FA) (L : QH FA) (F : Nat) : xnG call 140 (F + 1) 36 [some (vR 12), some (vR 2)] [] L = xnG call 140 F 37 [some (vR 12), some (vR 2)] [vI 1] L := rfl
set_option maxRecDepth 100000 in
theorem bb5_140_19 (call : QC FA) (ls : List (Option PV)) (L : QH FA) (F : Nat) : xnG call 140 (F + 1) 37 ls [vI 1] L = some (some (vI 1), L) := rfl
theorem vcb5_140_0 (call : QC FA) (z : Nat → Int32) (f : Nat → FA) (res : Option PV × QH FA) (H : ((z 123 = 0 → res = (some (vI 0), LW W (uZ z 122 5) f)) ∧ (¬ z 123 = 0 → (∃ (z1 : Nat → Int32) (f1 : Nat → FA), call 90 [vR 2, vR 26] (LW W (uZ (uZ (uZ z 122 5) 122 4) 123 ((z 123) - 1)) f) = some (none, LW W z1 f1) ∧ res = (some (vI 1), LW W z1 f1))))) : XC call (mP 140) 0 [some (vR 12), some (vR 2)] [] (LW W (uZ z 122 5) f) res := by
  refine xc_b (i' := 2) (ls' := [some (vR 12), some (vR 2)]) (st' := [vI (z 123)]) (L' := LW W (uZ z 122 5) f) 2 (bb5_140_1 call (uZ z 122 5) f) ?_
  refine xc_if (it := 10) (ie := 3) (ls' := [some (vR 12), some (vR 2)]) (st' := []) (bb5_140_2 call (z 123) _ _) (fun q1 => ?_) (fun q1 => ?_)
  · have H := H.1 (cI0t q1)
    refine xc_b (i' := 11) (ls' := [some (vR 12), some (vR 2)]) (st' := [vI 0]) (L' := LW W (uZ z 122 5) f) 1 (bb5_140_3 call _) ?_
    subst H
    exact xc_ret (bb5_140_4 call _ _)
  · have H := H.2 (cI0f q1)
    refine xc_b (i' := 5) (ls' := [some (vR 12), some (vR 2)]) (st' := [vI 5]) (L' := LW W (uZ z 122 5) f) 2 (bb5_140_5 call (uZ z 122 5) f) ?_
    refine xc_f (it := 10) (ie := 6) (ls' := [some (vR 12), some (vR 2)]) (st' := []) (bb5_140_6 call 5 _ _) (by decide) ?_
    refine xc_b (i' := 9) (ls' := [some (vR 12), some (vR 2)]) (st' := [vI 6, vI 5]) (L' := LW W (uZ z 122 5) f) 3 (bb5_140_7 call (uZ z 122 5) f) ?_
    refine xc_t (it := 12) (ie := 10) (ls' := [some (vR 12), some (vR 2)]) (st' := []) (bb5_140_8 call 5 6 _ _) (by decide) ?_
    refine xc_b (i' := 15) (ls' := [some (vR 12), some (vR 2)]) (st' := [vI 5, vR 12]) (L' := LW W (uZ z 122 5) f) 3 (bb5_140_9 call (uZ z 122 5) f) ?_
    refine xc_f (it := 21) (ie := 16) (ls' := [some (vR 12), some (vR 2)]) (st' := [vR 12]) (bb5_140_10 call 5 _ _) (by decide) ?_
    refine xc_b (i' := 22) (ls' := [some (vR 12), some (vR 2)]) (st' := [vI (5 - 1), vR 12]) (L' := LW W (uZ z 122 5) f) 5 (bb5_140_11 call (uZ z 122 5) f) ?_
    rw [show ((5 : Int32) - 1 : Int32) = 4 from by decide]
    refine xc_b (i' := 23) (ls' := [some (vR 12), some (vR 2)]) (st' := []) (L' := LW W (uZ (uZ z 122 5) 122 4) f) 1 (bb5_140_12 call 4 _ (uZ z 122 5) f) ?_
    refine xc_b (i' := 28) (ls' := [some (vR 12), some (vR 2)]) (st' := [vI ((z 123) - 1), vR 12]) (L' := LW W (uZ (uZ z 122 5) 122 4) f) 5 (bb5_140_13 call (uZ (uZ z 122 5) 122 4) f) ?_
    refine xc_b (i' := 29) (ls' := [some (vR 12), some (vR 2)]) (st' := []) (L' := LW W (uZ (uZ (uZ z 122 5) 122 4) 123 ((z 123) - 1)) f) 1 (bb5_140_14 call ((z 123) - 1) _ (uZ (uZ z 122 5) 122 4) f) ?_
    refine xc_b (i' := 34) (ls' := [some (vR 12), some (vR 2)]) (st' := [vI 4, vR 13, vR 2]) (L' := LW W (uZ (uZ (uZ z 122 5) 122 4) 123 ((z 123) - 1)) f) 5 (bb5_140_15 call (uZ (uZ (uZ z 122 5) 122 4) 123 ((z 123) - 1)) f) ?_
    refine xc_g (i' := 35) (ls' := [some (vR 12), some (vR 2)]) (st' := [.inr (.inl (rgW (ix 4))), vR 2]) (L' := LW W (uZ (uZ (uZ z 122 5) 122 4) 123 ((z 123) - 1)) f) (bb5_140_16 call _ (uZ (uZ (uZ z 122 5) 122 4) 123 ((z 123) - 1)) f) (by decide) ?_
    show XC call (mP 140) 35 [some (vR 12), some (vR 2)] [vR 26, vR 2] (LW W (uZ (uZ (uZ z 122 5) 122 4) 123 ((z 123) - 1)) f) res
    obtain ⟨z1, f1, hc, H⟩ := H
    refine xc_call (t := 36) (ls' := [some (vR 12), some (vR 2)]) (st' := []) (bb5_140_17 call _ (uZ (uZ (uZ z 122 5) 122 4) 123 ((z 123) - 1)) f) hc ?_
    show XC call (mP 140) 36 [some (vR 12), some (vR 2)] [] (LW W z1 f1) res
    refine xc_b (i' := 37) (ls' := [some (vR 12), some (vR 2)]) (st' := [vI 1]) (L' := LW W z1 f1) 1 (bb5_140_18 call _) ?_
    subst H
    exact xc_ret (bb5_140_19 call _ _)
set_option maxRecDepth 100000 in
theorem bth_90_1 (call : QC FA) (z : Nat → Int32) (f : Nat → FA) (F : Nat) : xnG call 90 (F + 7) 0 [some (vR 32), some (vR 2)] [] (LW W z f) = xnG call 90 F 7 [some (vR 32), some (vR 2)] [vI 120, vI 0, vR 33, vI 0, vR 3] (LW W z f) := rfl
set_option maxRecDepth 100000 in
theorem bth_90_2 (call : QC FA) (ls : List (Option PV)) (z : Nat → Int32) (f : Nat → FA) (F : Nat) : xnG call 90 (F + 1) 7 ls [vI 120, vI 0, vR 33, vI 0, vR 3] (LW W z f) = bif (Nat.beq 0 0 && (Nat.beq 0 0 && (pcmp 3 0 0 && (pcmp 3 0 0 && (pcmp 3 120 0 && (Nat.ble (ix 0 + ix 120) 120 && (Nat.ble (ix 0 + ix 120) 120 && Nat.ble 0 8))))))) then xnG call 90 F 8 ls [] (LW W z (uA f 33 (va_cpy (f 3) (f 33) (ix 0) (ix 0) (ix 120)))) else none := rfl
set_option maxRecDepth 100000 in
theorem bth_90_3 (call : QC FA) (z : Nat → Int32) (f : Nat → FA) (F : Nat) : xnG call 90 (F + 7) 8 [some (vR 32), some (vR 2)] [] (LW W z f) = xnG call 90 F 15 [some (vR 32), some (vR 2)] [vI 144, vI 0, vR 34, vI 0, vR 4] (LW W z f) := rfl
set_option maxRecDepth 100000 in
theorem bth_90_4 (call : QC FA) (ls : List (Option PV)) (z : Nat → Int32) (f : Nat → FA) (F : Nat) : xnG call 90 (F + 1) 15 ls [vI 144, vI 0, vR 34, vI 0, vR 4] (LW W z f) = bif (Nat.beq 0 0 && (Nat.beq 0 0 && (pcmp 3 0 0 && (pcmp 3 0 0 && (pcmp 3 144 0 && (Nat.ble (ix 0 + ix 144) 144 && (Nat.ble (ix 0 + ix 144) 144 && Nat.ble 0 8))))))) then xnG call 90 F 16 ls [] (LW W z (uA f 34 (va_cpy (f 4) (f 34) (ix 0) (ix 0) (ix 144)))) else none := rfl
set_option maxRecDepth 100000 in
theorem bth_90_5 (call : QC FA) (z : Nat → Int32) (f : Nat → FA) (F : Nat) : xnG call 90 (F + 3) 16 [some (vR 32), some (vR 2)] [] (LW W z f) = xnG call 90 F 19 [some (vR 32), some (vR 2)] [vI (z 22), vR 32] (LW W z f) := rfl
set_option maxRecDepth 100000 in
theorem bth_90_6 (call : QC FA) (y : Int32) (ls : List (Option PV)) (z : Nat → Int32) (f : Nat → FA) (F : Nat) : xnG call 90 (F + 1) 19 ls [vI y, vR 32] (LW W z f) = xnG call 90 F 20 ls [] (LW W (uZ z 322 y) f) := rfl
set_option maxRecDepth 100000 in
theorem bth_90_7 (call : QC FA) (z : Nat → Int32) (f : Nat → FA) (F : Nat) : xnG call 90 (F + 3) 20 [some (vR 32), some (vR 2)] [] (LW W z f) = xnG call 90 F 23 [some (vR 32), some (vR 2)] [vI (z 23), vR 32] (LW W z f) := rfl
set_option maxRecDepth 100000 in
theorem bth_90_8 (call : QC FA) (y : Int32) (ls : List (Option PV)) (z : Nat → Int32) (f : Nat → FA) (F : Nat) : xnG call 90 (F + 1) 23 ls [vI y, vR 32] (LW W z f) = xnG call 90 F 24 ls [] (LW W (uZ z 323 y) f) := rfl
set_option maxRecDepth 100000 in
theorem bth_90_9 (call : QC FA) (z : Nat → Int32) (f : Nat → FA) (F : Nat) : xnG call 90 (F + 3) 24 [some (vR 32), some (vR 2)] [] (LW W z f) = xnG call 90 F 27 [some (vR 32), some (vR 2)] [vI (z 24), vR 32] (LW W z f) := rfl
set_option maxRecDepth 100000 in
theorem bth_90_10 (call : QC FA) (y : Int32) (ls : List (Option PV)) (z : Nat → Int32) (f : Nat → FA) (F : Nat) : xnG call 90 (F + 1) 27 ls [vI y, vR 32] (LW W z f) = xnG call 90 F 28 ls [] (LW W (uZ z 324 y) f) := rfl
set_option maxRecDepth 100000 in
theorem bth_90_11 (call : QC FA) (z : Nat → Int32) (f : Nat → FA) (F : Nat) : xnG call 90 (F + 3) 28 [some (vR 32), some (vR 2)] [] (LW W z f) = xnG call 90 F 31 [some (vR 32), some (vR 2)] [vI (z 25), vR 32] (LW W z f) := rfl
set_option maxRecDepth 100000 in
theorem bth_90_12 (call : QC FA) (y : Int32) (ls : List (Option PV)) (z : Nat → Int32) (f : Nat → FA) (F : Nat) : xnG call 90 (F + 1) 31 ls [vI y, vR 32] (LW W z f) = xnG call 90 F 32 ls [] (LW W (uZ z 325 y) f) := rfl
set_option maxRecDepth 100000 in
theorem bth_90_13 (call : QC FA) (z : Nat → Int32) (f : Nat → FA) (F : Nat) : xnG call 90 (F + 3) 32 [some (vR 32), some (vR 2)] [] (LW W z f) = xnG call 90 F 35 [some (vR 32), some (vR 2)] [vI (z 26), vR 32] (LW W z f) := rfl
set_option maxRecDepth 100000 in
theorem bth_90_14 (call : QC FA) (y : Int32) (ls : List (Option PV)) (z : Nat → Int32) (f : Nat → FA) (F : Nat) : xnG call 90 (F + 1) 35 ls [vI y, vR 32] (LW W z f) = xnG call 90 F 36 ls [] (LW W (uZ z 326 y) f) := rfl
set_option maxRecDepth 100000 in
theorem bth_90_15 (call : QC FA) (z : Nat → Int32) (f : Nat → FA) (F : Nat) : xnG call 90 (F + 3) 36 [some (vR 32), some (vR 2)] [] (LW W z f) = xnG call 90 F 39 [some (vR 32), some (vR 2)] [vI (z 27), vR 32] (LW W z f) := rfl
set_option maxRecDepth 100000 in
theorem bth_90_16 (call : QC FA) (y : Int32) (ls : List (Option PV)) (z : Nat → Int32) (f : Nat → FA) (F : Nat) : xnG call 90 (F + 1) 39 ls [vI y, vR 32] (LW W z f) = xnG call 90 F 40 ls [] (LW W (uZ z 327 y) f) := rfl
set_option maxRecDepth 100000 in
theorem bth_90_17 (call : QC FA) (z : Nat → Int32) (f : Nat → FA) (F : Nat) : xnG call 90 (F + 3) 40 [some (vR 32), some (vR 2)] [] (LW W z f) = xnG call 90 F 43 [some (vR 32), some (vR 2)] [vI (z 28), vR 32] (LW W z f) := rfl
set_option maxRecDepth 100000 in
theorem bth_90_18 (call : QC FA) (y : Int32) (ls : List (Option PV)) (z : Nat → Int32) (f : Nat → FA) (F : Nat) : xnG call 90 (F + 1) 43 ls [vI y, vR 32] (LW W z f) = xnG call 90 F 44 ls [] (LW W (uZ z 328 y) f) := rfl
set_option maxRecDepth 100000 in
theorem bth_90_19 (call : QC FA) (z : Nat → Int32) (f : Nat → FA) (F : Nat) : xnG call 90 (F + 3) 44 [some (vR 32), some (vR 2)] [] (LW W z f) = xnG call 90 F 47 [some (vR 32), some (vR 2)] [vI (z 29), vR 32] (LW W z f) := rfl
set_option maxRecDepth 100000 in
theorem bth_90_20 (call : QC FA) (y : Int32) (ls : List (Option PV)) (z : Nat → Int32) (f : Nat → FA) (F : Nat) : xnG call 90 (F + 1) 47 ls [vI y, vR 32] (LW W z f) = xnG call 90 F 48 ls [] (LW W (uZ z 329 y) f) := rfl
set_option maxRecDepth 100000 in
theorem bth_90_21 (call : QC FA) (ls : List (Option PV)) (L : QH FA) (F : Nat) : xnG call 90 (F + 1) 48 ls [] L = some (none, L) := rfl
theorem vcth_90_0 (call : QC FA) (z : Nat → Int32) (f : Nat → FA) (res : Option PV × QH FA) (H : res = (none, LW W (uZ (uZ (uZ (uZ (uZ (uZ (uZ (uZ z 322 (z 22)) 323 (z 23)) 324 (z 24)) 325 (z 25)) 326 (z 26)) 327 (z 27)) 328 (z 28)) 329 (z 29)) (uA (uA f 33 (cpW (f 3) (f 33) 120)) 34 (cpW (f 4) (f 34) 144)))) : XC call (mP 90) 0 [some (vR 32), some (vR 2)] [] (LW W z f) res := by
  refine xc_b (i' := 7) (ls' := [some (vR 32), some (vR 2)]) (st' := [vI 120, vI 0, vR 33, vI 0, vR 3]) (L' := LW W z f) 7 (bth_90_1 call z f) ?_
  refine xc_g (i' := 8) (ls' := [some (vR 32), some (vR 2)]) (st' := []) (L' := LW W z (uA f 33 (va_cpy (f 3) (f 33) (ix 0) (ix 0) (ix 120)))) (bth_90_2 call _ z f) (by decide) ?_
  rw [cpW_e (f := f 3) (g := f 33) (a := 0) (b := 0) (n := 120) (N := 120) (by decide) (by decide) (by decide)]
  show XC call (mP 90) 8 [some (vR 32), some (vR 2)] [] (LW W z (uA f 33 (cpW (f 3) (f 33) 120))) res
  refine xc_b (i' := 15) (ls' := [some (vR 32), some (vR 2)]) (st' := [vI 144, vI 0, vR 34, vI 0, vR 4]) (L' := LW W z (uA f 33 (cpW (f 3) (f 33) 120))) 7 (bth_90_3 call z (uA f 33 (cpW (f 3) (f 33) 120))) ?_
  refine xc_g (i' := 16) (ls' := [some (vR 32), some (vR 2)]) (st' := []) (L' := LW W z (uA (uA f 33 (cpW (f 3) (f 33) 120)) 34 (va_cpy ((uA f 33 (cpW (f 3) (f 33) 120)) 4) ((uA f 33 (cpW (f 3) (f 33) 120)) 34) (ix 0) (ix 0) (ix 144)))) (bth_90_4 call _ z (uA f 33 (cpW (f 3) (f 33) 120))) (by decide) ?_
  rw [cpW_e (f := (uA f 33 (cpW (f 3) (f 33) 120)) 4) (g := (uA f 33 (cpW (f 3) (f 33) 120)) 34) (a := 0) (b := 0) (n := 144) (N := 144) (by decide) (by decide) (by decide)]
  show XC call (mP 90) 16 [some (vR 32), some (vR 2)] [] (LW W z (uA (uA f 33 (cpW (f 3) (f 33) 120)) 34 (cpW (f 4) (f 34) 144))) res
  refine xc_b (i' := 19) (ls' := [some (vR 32), some (vR 2)]) (st' := [vI (z 22), vR 32]) (L' := LW W z (uA (uA f 33 (cpW (f 3) (f 33) 120)) 34 (cpW (f 4) (f 34) 144))) 3 (bth_90_5 call z (uA (uA f 33 (cpW (f 3) (f 33) 120)) 34 (cpW (f 4) (f 34) 144))) ?_
  refine xc_b (i' := 20) (ls' := [some (vR 32), some (vR 2)]) (st' := []) (L' := LW W (uZ z 322 (z 22)) (uA (uA f 33 (cpW (f 3) (f 33) 120)) 34 (cpW (f 4) (f 34) 144))) 1 (bth_90_6 call (z 22) _ z (uA (uA f 33 (cpW (f 3) (f 33) 120)) 34 (cpW (f 4) (f 34) 144))) ?_
  refine xc_b (i' := 23) (ls' := [some (vR 32), some (vR 2)]) (st' := [vI (z 23), vR 32]) (L' := LW W (uZ z 322 (z 22)) (uA (uA f 33 (cpW (f 3) (f 33) 120)) 34 (cpW (f 4) (f 34) 144))) 3 (bth_90_7 call (uZ z 322 (z 22)) (uA (uA f 33 (cpW (f 3) (f 33) 120)) 34 (cpW (f 4) (f 34) 144))) ?_
  refine xc_b (i' := 24) (ls' := [some (vR 32), some (vR 2)]) (st' := []) (L' := LW W (uZ (uZ z 322 (z 22)) 323 (z 23)) (uA (uA f 33 (cpW (f 3) (f 33) 120)) 34 (cpW (f 4) (f 34) 144))) 1 (bth_90_8 call (z 23) _ (uZ z 322 (z 22)) (uA (uA f 33 (cpW (f 3) (f 33) 120)) 34 (cpW (f 4) (f 34) 144))) ?_
  refine xc_b (i' := 27) (ls' := [some (vR 32), some (vR 2)]) (st' := [vI (z 24), vR 32]) (L' := LW W (uZ (uZ z 322 (z 22)) 323 (z 23)) (uA (uA f 33 (cpW (f 3) (f 33) 120)) 34 (cpW (f 4) (f 34) 144))) 3 (bth_90_9 call (uZ (uZ z 322 (z 22)) 323 (z 23)) (uA (uA f 33 (cpW (f 3) (f 33) 120)) 34 (cpW (f 4) (f 34) 144))) ?_
  refine xc_b (i' := 28) (ls' := [some (vR 32), some (vR 2)]) (st' := []) (L' := LW W (uZ (uZ (uZ z 322 (z 22)) 323 (z 23)) 324 (z 24)) (uA (uA f 33 (cpW (f 3) (f 33) 120)) 34 (cpW (f 4) (f 34) 144))) 1 (bth_90_10 call (z 24) _ (uZ (uZ z 322 (z 22)) 323 (z 23)) (uA (uA f 33 (cpW (f 3) (f 33) 120)) 34 (cpW (f 4) (f 34) 144))) ?_
  refine xc_b (i' := 31) (ls' := [some (vR 32), some (vR 2)]) (st' := [vI (z 25), vR 32]) (L' := LW W (uZ (uZ (uZ z 322 (z 22)) 323 (z 23)) 324 (z 24)) (uA (uA f 33 (cpW (f 3) (f 33) 120)) 34 (cpW (f 4) (f 34) 144))) 3 (bth_90_11 call (uZ (uZ (uZ z 322 (z 22)) 323 (z 23)) 324 (z 24)) (uA (uA f 33 (cpW (f 3) (f 33) 120)) 34 (cpW (f 4) (f 34) 144))) ?_
  refine xc_b (i' := 32) (ls' := [some (vR 32), some (vR 2)]) (st' := []) (L' := LW W (uZ (uZ (uZ (uZ z 322 (z 22)) 323 (z 23)) 324 (z 24)) 325 (z 25)) (uA (uA f 33 (cpW (f 3) (f 33) 120)) 34 (cpW (f 4) (f 34) 144))) 1 (bth_90_12 call (z 25) _ (uZ (uZ (uZ z 322 (z 22)) 323 (z 23)) 324 (z 24)) (uA (uA f 33 (cpW (f 3) (f 33) 120)) 34 (cpW (f 4) (f 34) 144))) ?_
  refine xc_b (i' := 35) (ls' := [some (vR 32), some (vR 2)]) (st' := [vI (z 26), vR 32]) (L' := LW W (uZ (uZ (uZ (uZ z 322 (z 22)) 323 (z 23)) 324 (z 24)) 325 (z 25)) (uA (uA f 33 (cpW (f 3) (f 33) 120)) 34 (cpW (f 4) (f 34) 144))) 3 (bth_90_13 call (uZ (uZ (uZ (uZ z 322 (z 22)) 323 (z 23)) 324 (z 24)) 325 (z 25)) (uA (uA f 33 (cpW (f 3) (f 33) 120)) 34 (cpW (f 4) (f 34) 144))) ?_
  refine xc_b (i' := 36) (ls' := [some (vR 32), some (vR 2)]) (st' := []) (L' := LW W (uZ (uZ (uZ (uZ (uZ z 322 (z 22)) 323 (z 23)) 324 (z 24)) 325 (z 25)) 326 (z 26)) (uA (uA f 33 (cpW (f 3) (f 33) 120)) 34 (cpW (f 4) (f 34) 144))) 1 (bth_90_14 call (z 26) _ (uZ (uZ (uZ (uZ z 322 (z 22)) 323 (z 23)) 324 (z 24)) 325 (z 25)) (uA (uA f 33 (cpW (f 3) (f 33) 120)) 34 (cpW (f 4) (f 34) 144))) ?_
  refine xc_b (i' := 39) (ls' := [some (vR 32), some (vR 2)]) (st' := [vI (z 27), vR 32]) (L' := LW W (uZ (uZ (uZ (uZ (uZ z 322 (z 22)) 323 (z 23)) 324 (z 24)) 325 (z 25)) 326 (z 26)) (uA (uA f 33 (cpW (f 3) (f 33) 120)) 34 (cpW (f 4) (f 34) 144))) 3 (bth_90_15 call (uZ (uZ (uZ (uZ (uZ z 322 (z 22)) 323 (z 23)) 324 (z 24)) 325 (z 25)) 326 (z 26)) (uA (uA f 33 (cpW (f 3) (f 33) 120)) 34 (cpW (f 4) (f 34) 144))) ?_
  refine xc_b (i' := 40) (ls' := [some (vR 32), some (vR 2)]) (st' := []) (L' := LW W (uZ (uZ (uZ (uZ (uZ (uZ z 322 (z 22)) 323 (z 23)) 324 (z 24)) 325 (z 25)) 326 (z 26)) 327 (z 27)) (uA (uA f 33 (cpW (f 3) (f 33) 120)) 34 (cpW (f 4) (f 34) 144))) 1 (bth_90_16 call (z 27) _ (uZ (uZ (uZ (uZ (uZ z 322 (z 22)) 323 (z 23)) 324 (z 24)) 325 (z 25)) 326 (z 26)) (uA (uA f 33 (cpW (f 3) (f 33) 120)) 34 (cpW (f 4) (f 34) 144))) ?_
  refine xc_b (i' := 43) (ls' := [some (vR 32), some (vR 2)]) (st' := [vI (z 28), vR 32]) (L' := LW W (uZ (uZ (uZ (uZ (uZ (uZ z 322 (z 22)) 323 (z 23)) 324 (z 24)) 325 (z 25)) 326 (z 26)) 327 (z 27)) (uA (uA f 33 (cpW (f 3) (f 33) 120)) 34 (cpW (f 4) (f 34) 144))) 3 (bth_90_17 call (uZ (uZ (uZ (uZ (uZ (uZ z 322 (z 22)) 323 (z 23)) 324 (z 24)) 325 (z 25)) 326 (z 26)) 327 (z 27)) (uA (uA f 33 (cpW (f 3) (f 33) 120)) 34 (cpW (f 4) (f 34) 144))) ?_
  refine xc_b (i' := 44) (ls' := [some (vR 32), some (vR 2)]) (st' := []) (L' := LW W (uZ (uZ (uZ (uZ (uZ (uZ (uZ z 322 (z 22)) 323 (z 23)) 324 (z 24)) 325 (z 25)) 326 (z 26)) 327 (z 27)) 328 (z 28)) (uA (uA f 33 (cpW (f 3) (f 33) 120)) 34 (cpW (f 4) (f 34) 144))) 1 (bth_90_18 call (z 28) _ (uZ (uZ (uZ (uZ (uZ (uZ z 322 (z 22)) 323 (z 23)) 324 (z 24)) 325 (z 25)) 326 (z 26)) 327 (z 27)) (uA (uA f 33 (cpW (f 3) (f 33) 120)) 34 (cpW (f 4) (f 34) 144))) ?_
  refine xc_b (i' := 47) (ls' := [some (vR 32), some (vR 2)]) (st' := [vI (z 29), vR 32]) (L' := LW W (uZ (uZ (uZ (uZ (uZ (uZ (uZ z 322 (z 22)) 323 (z 23)) 324 (z 24)) 325 (z 25)) 326 (z 26)) 327 (z 27)) 328 (z 28)) (uA (uA f 33 (cpW (f 3) (f 33) 120)) 34 (cpW (f 4) (f 34) 144))) 3 (bth_90_19 call (uZ (uZ (uZ (uZ (uZ (uZ (uZ z 322 (z 22)) 323 (z 23)) 324 (z 24)) 325 (z 25)) 326 (z 26)) 327 (z 27)) 328 (z 28)) (uA (uA f 33 (cpW (f 3) (f 33) 120)) 34 (cpW (f 4) (f 34) 144))) ?_
  refine xc_b (i' := 48) (ls' := [some (vR 32), some (vR 2)]) (st' := []) (L' := LW W (uZ (uZ (uZ (uZ (uZ (uZ (uZ (uZ z 322 (z 22)) 323 (z 23)) 324 (z 24)) 325 (z 25)) 326 (z 26)) 327 (z 27)) 328 (z 28)) 329 (z 29)) (uA (uA f 33 (cpW (f 3) (f 33) 120)) 34 (cpW (f 4) (f 34) 144))) 1 (bth_90_20 call (z 29) _ (uZ (uZ (uZ (uZ (uZ (uZ (uZ z 322 (z 22)) 323 (z 23)) 324 (z 24)) 325 (z 25)) 326 (z 26)) 327 (z 27)) 328 (z 28)) (uA (uA f 33 (cpW (f 3) (f 33) 120)) 34 (cpW (f 4) (f 34) 144))) ?_
  subst H
  exact xc_ret (bth_90_21 call _ _)
set_option maxRecDepth 100000 in
theorem bfo_139_1 (call : QC FA) (L : QH FA) (F : Nat) : xnG call 139 (F + 2) 0 [some (vR 12)] [] L = xnG call 139 F 2 [some (vR 12)] [vI 0, vR 12] L := rfl
set_option maxRecDepth 100000 in
theorem bfo_139_2 (call : QC FA) (y : Int32) (ls : List (Option PV)) (z : Nat → Int32) (f : Nat → FA) (F : Nat) : xnG call 139 (F + 1) 2 ls [vI y, vR 12] (LW W z f) = xnG call 139 F 3 ls [] (LW W (uZ z 123 y) f) := rfl
set_option maxRecDepth 100000 in
theorem bfo_139_3 (call : QC FA) (ls : List (Option PV)) (L : QH FA) (F : Nat) : xnG call 139 (F + 1) 3 ls [] L = some (none, L) := rfl
theorem vcfo_139_0 (call : QC FA) (z : Nat → Int32) (f : Nat → FA) (res : Option PV × QH FA) (H : res = (none, LW W (uZ z 123 0) f)) : XC call (mP 139) 0 [some (vR 12)] [] (LW W z f) res := by
  refine xc_b (i' := 2) (ls' := [some (vR 12)]) (st' := [vI 0, vR 12]) (L' := LW W z f) 2 (bfo_139_1 call _) ?_
  refine xc_b (i' := 3) (ls' := [some (vR 12)]) (st' := []) (L' := LW W (uZ z 123 0) f) 1 (bfo_139_2 call 0 _ z f) ?_
  subst H
  exact xc_ret (bfo_139_3 call _ _)
theorem wTo0 (d : Nat) {z : Nat → Int32} {f : Nat → FA} : ∃ z' f', xcall (d + 1) 90 [vR 14, vR 2] (LW W z f) = some (none, LW W z' f') ∧ CPC 2 14 z f z' f' := by
  refine ⟨_, _, xcall_i (mq90 (cu := [])).2.2 rfl (vct0_90_0 (xcall d) z f _ rfl), ?_, ?_, ?_, ?_, ?_⟩
  · intro i h1 h2
    rcases (show i = 2 ∨ i = 3 ∨ i = 4 ∨ i = 5 ∨ i = 6 ∨ i = 7 ∨ i = 8 ∨ i = 9 by omega) with rfl | rfl | rfl | rfl | rfl | rfl | rfl | rfl <;> rfl
  · intro j hj
    rw [uZ_n (by omega), uZ_n (by omega), uZ_n (by omega), uZ_n (by omega), uZ_n (by omega), uZ_n (by omega), uZ_n (by omega), uZ_n (by omega)]
  · intro j hj
    show uA (uA f 15 (cpW (f 3) (f 15) 120)) 16 (cpW (f 4) (f 16) 144) 15 j = f 3 j
    rw [uA_ne (show (15 : Nat) ≠ 16 by decide), uA_self]
    exact if_pos hj
  · intro j hj
    show uA (uA f 15 (cpW (f 3) (f 15) 120)) 16 (cpW (f 4) (f 16) 144) 16 j = f 4 j
    rw [uA_self]
    exact if_pos hj
  · intro k h1 h2
    rw [uA_ne (show k ≠ 16 from h2), uA_ne (show k ≠ 15 from h1)]
theorem wFrom0 (d : Nat) {z : Nat → Int32} {f : Nat → FA} : ∃ z' f', xcall (d + 1) 90 [vR 2, vR 14] (LW W z f) = some (none, LW W z' f') ∧ CPC 14 2 z f z' f' := by
  refine ⟨_, _, xcall_i (mq90 (cu := [])).2.2 rfl (vcr0_90_0 (xcall d) z f _ rfl), ?_, ?_, ?_, ?_, ?_⟩
  · intro i h1 h2
    rcases (show i = 2 ∨ i = 3 ∨ i = 4 ∨ i = 5 ∨ i = 6 ∨ i = 7 ∨ i = 8 ∨ i = 9 by omega) with rfl | rfl | rfl | rfl | rfl | rfl | rfl | rfl <;> rfl
  · intro j hj
    rw [uZ_n (by omega), uZ_n (by omega), uZ_n (by omega), uZ_n (by omega), uZ_n (by omega), uZ_n (by omega), uZ_n (by omega), uZ_n (by omega)]
  · intro j hj
    show uA (uA f 3 (cpW (f 15) (f 3) 120)) 4 (cpW (f 16) (f 4) 144) 3 j = f 15 j
    rw [uA_ne (show (3 : Nat) ≠ 4 by decide), uA_self]
    exact if_pos hj
  · intro j hj
    show uA (uA f 3 (cpW (f 15) (f 3) 120)) 4 (cpW (f 16) (f 4) 144) 4 j = f 16 j
    rw [uA_self]
    exact if_pos hj
  · intro k h1 h2
    rw [uA_ne (show k ≠ 4 from h2), uA_ne (show k ≠ 3 from h1)]
theorem wTo1 (d : Nat) {z : Nat → Int32} {f : Nat → FA} : ∃ z' f', xcall (d + 1) 90 [vR 17, vR 2] (LW W z f) = some (none, LW W z' f') ∧ CPC 2 17 z f z' f' := by
  refine ⟨_, _, xcall_i (mq90 (cu := [])).2.2 rfl (vct1_90_0 (xcall d) z f _ rfl), ?_, ?_, ?_, ?_, ?_⟩
  · intro i h1 h2
    rcases (show i = 2 ∨ i = 3 ∨ i = 4 ∨ i = 5 ∨ i = 6 ∨ i = 7 ∨ i = 8 ∨ i = 9 by omega) with rfl | rfl | rfl | rfl | rfl | rfl | rfl | rfl <;> rfl
  · intro j hj
    rw [uZ_n (by omega), uZ_n (by omega), uZ_n (by omega), uZ_n (by omega), uZ_n (by omega), uZ_n (by omega), uZ_n (by omega), uZ_n (by omega)]
  · intro j hj
    show uA (uA f 18 (cpW (f 3) (f 18) 120)) 19 (cpW (f 4) (f 19) 144) 18 j = f 3 j
    rw [uA_ne (show (18 : Nat) ≠ 19 by decide), uA_self]
    exact if_pos hj
  · intro j hj
    show uA (uA f 18 (cpW (f 3) (f 18) 120)) 19 (cpW (f 4) (f 19) 144) 19 j = f 4 j
    rw [uA_self]
    exact if_pos hj
  · intro k h1 h2
    rw [uA_ne (show k ≠ 19 from h2), uA_ne (show k ≠ 18 from h1)]
theorem wFrom1 (d : Nat) {z : Nat → Int32} {f : Nat → FA} : ∃ z' f', xcall (d + 1) 90 [vR 2, vR 17] (LW W z f) = some (none, LW W z' f') ∧ CPC 17 2 z f z' f' := by
  refine ⟨_, _, xcall_i (mq90 (cu := [])).2.2 rfl (vcr1_90_0 (xcall d) z f _ rfl), ?_, ?_, ?_, ?_, ?_⟩
  · intro i h1 h2
    rcases (show i = 2 ∨ i = 3 ∨ i = 4 ∨ i = 5 ∨ i = 6 ∨ i = 7 ∨ i = 8 ∨ i = 9 by omega) with rfl | rfl | rfl | rfl | rfl | rfl | rfl | rfl <;> rfl
  · intro j hj
    rw [uZ_n (by omega), uZ_n (by omega), uZ_n (by omega), uZ_n (by omega), uZ_n (by omega), uZ_n (by omega), uZ_n (by omega), uZ_n (by omega)]
  · intro j hj
    show uA (uA f 3 (cpW (f 18) (f 3) 120)) 4 (cpW (f 19) (f 4) 144) 3 j = f 18 j
    rw [uA_ne (show (3 : Nat) ≠ 4 by decide), uA_self]
    exact if_pos hj
  · intro j hj
    show uA (uA f 3 (cpW (f 18) (f 3) 120)) 4 (cpW (f 19) (f 4) 144) 4 j = f 19 j
    rw [uA_self]
    exact if_pos hj
  · intro k h1 h2
    rw [uA_ne (show k ≠ 4 from h2), uA_ne (show k ≠ 3 from h1)]
theorem wTo2 (d : Nat) {z : Nat → Int32} {f : Nat → FA} : ∃ z' f', xcall (d + 1) 90 [vR 20, vR 2] (LW W z f) = some (none, LW W z' f') ∧ CPC 2 20 z f z' f' := by
  refine ⟨_, _, xcall_i (mq90 (cu := [])).2.2 rfl (vct2_90_0 (xcall d) z f _ rfl), ?_, ?_, ?_, ?_, ?_⟩
  · intro i h1 h2
    rcases (show i = 2 ∨ i = 3 ∨ i = 4 ∨ i = 5 ∨ i = 6 ∨ i = 7 ∨ i = 8 ∨ i = 9 by omega) with rfl | rfl | rfl | rfl | rfl | rfl | rfl | rfl <;> rfl
  · intro j hj
    rw [uZ_n (by omega), uZ_n (by omega), uZ_n (by omega), uZ_n (by omega), uZ_n (by omega), uZ_n (by omega), uZ_n (by omega), uZ_n (by omega)]
  · intro j hj
    show uA (uA f 21 (cpW (f 3) (f 21) 120)) 22 (cpW (f 4) (f 22) 144) 21 j = f 3 j
    rw [uA_ne (show (21 : Nat) ≠ 22 by decide), uA_self]
    exact if_pos hj
  · intro j hj
    show uA (uA f 21 (cpW (f 3) (f 21) 120)) 22 (cpW (f 4) (f 22) 144) 22 j = f 4 j
    rw [uA_self]
    exact if_pos hj
  · intro k h1 h2
    rw [uA_ne (show k ≠ 22 from h2), uA_ne (show k ≠ 21 from h1)]
theorem wFrom2 (d : Nat) {z : Nat → Int32} {f : Nat → FA} : ∃ z' f', xcall (d + 1) 90 [vR 2, vR 20] (LW W z f) = some (none, LW W z' f') ∧ CPC 20 2 z f z' f' := by
  refine ⟨_, _, xcall_i (mq90 (cu := [])).2.2 rfl (vcr2_90_0 (xcall d) z f _ rfl), ?_, ?_, ?_, ?_, ?_⟩
  · intro i h1 h2
    rcases (show i = 2 ∨ i = 3 ∨ i = 4 ∨ i = 5 ∨ i = 6 ∨ i = 7 ∨ i = 8 ∨ i = 9 by omega) with rfl | rfl | rfl | rfl | rfl | rfl | rfl | rfl <;> rfl
  · intro j hj
    rw [uZ_n (by omega), uZ_n (by omega), uZ_n (by omega), uZ_n (by omega), uZ_n (by omega), uZ_n (by omega), uZ_n (by omega), uZ_n (by omega)]
  · intro j hj
    show uA (uA f 3 (cpW (f 21) (f 3) 120)) 4 (cpW (f 22) (f 4) 144) 3 j = f 21 j
    rw [uA_ne (show (3 : Nat) ≠ 4 by decide), uA_self]
    exact if_pos hj
  · intro j hj
    show uA (uA f 3 (cpW (f 21) (f 3) 120)) 4 (cpW (f 22) (f 4) 144) 4 j = f 22 j
    rw [uA_self]
    exact if_pos hj
  · intro k h1 h2
    rw [uA_ne (show k ≠ 4 from h2), uA_ne (show k ≠ 3 from h1)]
theorem wTo3 (d : Nat) {z : Nat → Int32} {f : Nat → FA} : ∃ z' f', xcall (d + 1) 90 [vR 23, vR 2] (LW W z f) = some (none, LW W z' f') ∧ CPC 2 23 z f z' f' := by
  refine ⟨_, _, xcall_i (mq90 (cu := [])).2.2 rfl (vct3_90_0 (xcall d) z f _ rfl), ?_, ?_, ?_, ?_, ?_⟩
  · intro i h1 h2
    rcases (show i = 2 ∨ i = 3 ∨ i = 4 ∨ i = 5 ∨ i = 6 ∨ i = 7 ∨ i = 8 ∨ i = 9 by omega) with rfl | rfl | rfl | rfl | rfl | rfl | rfl | rfl <;> rfl
  · intro j hj
    rw [uZ_n (by omega), uZ_n (by omega), uZ_n (by omega), uZ_n (by omega), uZ_n (by omega), uZ_n (by omega), uZ_n (by omega), uZ_n (by omega)]
  · intro j hj
    show uA (uA f 24 (cpW (f 3) (f 24) 120)) 25 (cpW (f 4) (f 25) 144) 24 j = f 3 j
    rw [uA_ne (show (24 : Nat) ≠ 25 by decide), uA_self]
    exact if_pos hj
  · intro j hj
    show uA (uA f 24 (cpW (f 3) (f 24) 120)) 25 (cpW (f 4) (f 25) 144) 25 j = f 4 j
    rw [uA_self]
    exact if_pos hj
  · intro k h1 h2
    rw [uA_ne (show k ≠ 25 from h2), uA_ne (show k ≠ 24 from h1)]
theorem wFrom3 (d : Nat) {z : Nat → Int32} {f : Nat → FA} : ∃ z' f', xcall (d + 1) 90 [vR 2, vR 23] (LW W z f) = some (none, LW W z' f') ∧ CPC 23 2 z f z' f' := by
  refine ⟨_, _, xcall_i (mq90 (cu := [])).2.2 rfl (vcr3_90_0 (xcall d) z f _ rfl), ?_, ?_, ?_, ?_, ?_⟩
  · intro i h1 h2
    rcases (show i = 2 ∨ i = 3 ∨ i = 4 ∨ i = 5 ∨ i = 6 ∨ i = 7 ∨ i = 8 ∨ i = 9 by omega) with rfl | rfl | rfl | rfl | rfl | rfl | rfl | rfl <;> rfl
  · intro j hj
    rw [uZ_n (by omega), uZ_n (by omega), uZ_n (by omega), uZ_n (by omega), uZ_n (by omega), uZ_n (by omega), uZ_n (by omega), uZ_n (by omega)]
  · intro j hj
    show uA (uA f 3 (cpW (f 24) (f 3) 120)) 4 (cpW (f 25) (f 4) 144) 3 j = f 24 j
    rw [uA_ne (show (3 : Nat) ≠ 4 by decide), uA_self]
    exact if_pos hj
  · intro j hj
    show uA (uA f 3 (cpW (f 24) (f 3) 120)) 4 (cpW (f 25) (f 4) 144) 4 j = f 25 j
    rw [uA_self]
    exact if_pos hj
  · intro k h1 h2
    rw [uA_ne (show k ≠ 4 from h2), uA_ne (show k ≠ 3 from h1)]
theorem wTo4 (d : Nat) {z : Nat → Int32} {f : Nat → FA} : ∃ z' f', xcall (d + 1) 90 [vR 26, vR 2] (LW W z f) = some (none, LW W z' f') ∧ CPC 2 26 z f z' f' := by
  refine ⟨_, _, xcall_i (mq90 (cu := [])).2.2 rfl (vct4_90_0 (xcall d) z f _ rfl), ?_, ?_, ?_, ?_, ?_⟩
  · intro i h1 h2
    rcases (show i = 2 ∨ i = 3 ∨ i = 4 ∨ i = 5 ∨ i = 6 ∨ i = 7 ∨ i = 8 ∨ i = 9 by omega) with rfl | rfl | rfl | rfl | rfl | rfl | rfl | rfl <;> rfl
  · intro j hj
    rw [uZ_n (by omega), uZ_n (by omega), uZ_n (by omega), uZ_n (by omega), uZ_n (by omega), uZ_n (by omega), uZ_n (by omega), uZ_n (by omega)]
  · intro j hj
    show uA (uA f 27 (cpW (f 3) (f 27) 120)) 28 (cpW (f 4) (f 28) 144) 27 j = f 3 j
    rw [uA_ne (show (27 : Nat) ≠ 28 by decide), uA_self]
    exact if_pos hj
  · intro j hj
    show uA (uA f 27 (cpW (f 3) (f 27) 120)) 28 (cpW (f 4) (f 28) 144) 28 j = f 4 j
    rw [uA_self]
    exact if_pos hj
  · intro k h1 h2
    rw [uA_ne (show k ≠ 28 from h2), uA_ne (show k ≠ 27 from h1)]
theorem wFrom4 (d : Nat) {z : Nat → Int32} {f : Nat → FA} : ∃ z' f', xcall (d + 1) 90 [vR 2, vR 26] (LW W z f) = some (none, LW W z' f') ∧ CPC 26 2 z f z' f' := by
  refine ⟨_, _, xcall_i (mq90 (cu := [])).2.2 rfl (vcr4_90_0 (xcall d) z f _ rfl), ?_, ?_, ?_, ?_, ?_⟩
  · intro i h1 h2
    rcases (show i = 2 ∨ i = 3 ∨ i = 4 ∨ i = 5 ∨ i = 6 ∨ i = 7 ∨ i = 8 ∨ i = 9 by omega) with rfl | rfl | rfl | rfl | rfl | rfl | rfl | rfl <;> rfl
  · intro j hj
    rw [uZ_n (by omega), uZ_n (by omega), uZ_n (by omega), uZ_n (by omega), uZ_n (by omega), uZ_n (by omega), uZ_n (by omega), uZ_n (by omega)]
  · intro j hj
    show uA (uA f 3 (cpW (f 27) (f 3) 120)) 4 (cpW (f 28) (f 4) 144) 3 j = f 27 j
    rw [uA_ne (show (3 : Nat) ≠ 4 by decide), uA_self]
    exact if_pos hj
  · intro j hj
    show uA (uA f 3 (cpW (f 27) (f 3) 120)) 4 (cpW (f 28) (f 4) 144) 4 j = f 28 j
    rw [uA_self]
    exact if_pos hj
  · intro k h1 h2
    rw [uA_ne (show k ≠ 4 from h2), uA_ne (show k ≠ 3 from h1)]
theorem wTo5 (d : Nat) {z : Nat → Int32} {f : Nat → FA} : ∃ z' f', xcall (d + 1) 90 [vR 29, vR 2] (LW W z f) = some (none, LW W z' f') ∧ CPC 2 29 z f z' f' := by
  refine ⟨_, _, xcall_i (mq90 (cu := [])).2.2 rfl (vct5_90_0 (xcall d) z f _ rfl), ?_, ?_, ?_, ?_, ?_⟩
  · intro i h1 h2
    rcases (show i = 2 ∨ i = 3 ∨ i = 4 ∨ i = 5 ∨ i = 6 ∨ i = 7 ∨ i = 8 ∨ i = 9 by omega) with rfl | rfl | rfl | rfl | rfl | rfl | rfl | rfl <;> rfl
  · intro j hj
    rw [uZ_n (by omega), uZ_n (by omega), uZ_n (by omega), uZ_n (by omega), uZ_n (by omega), uZ_n (by omega), uZ_n (by omega), uZ_n (by omega)]
  · intro j hj
    show uA (uA f 30 (cpW (f 3) (f 30) 120)) 31 (cpW (f 4) (f 31) 144) 30 j = f 3 j
    rw [uA_ne (show (30 : Nat) ≠ 31 by decide), uA_self]
    exact if_pos hj
  · intro j hj
    show uA (uA f 30 (cpW (f 3) (f 30) 120)) 31 (cpW (f 4) (f 31) 144) 31 j = f 4 j
    rw [uA_self]
    exact if_pos hj
  · intro k h1 h2
    rw [uA_ne (show k ≠ 31 from h2), uA_ne (show k ≠ 30 from h1)]
theorem wFrom5 (d : Nat) {z : Nat → Int32} {f : Nat → FA} : ∃ z' f', xcall (d + 1) 90 [vR 2, vR 29] (LW W z f) = some (none, LW W z' f') ∧ CPC 29 2 z f z' f' := by
  refine ⟨_, _, xcall_i (mq90 (cu := [])).2.2 rfl (vcr5_90_0 (xcall d) z f _ rfl), ?_, ?_, ?_, ?_, ?_⟩
  · intro i h1 h2
    rcases (show i = 2 ∨ i = 3 ∨ i = 4 ∨ i = 5 ∨ i = 6 ∨ i = 7 ∨ i = 8 ∨ i = 9 by omega) with rfl | rfl | rfl | rfl | rfl | rfl | rfl | rfl <;> rfl
  · intro j hj
    rw [uZ_n (by omega), uZ_n (by omega), uZ_n (by omega), uZ_n (by omega), uZ_n (by omega), uZ_n (by omega), uZ_n (by omega), uZ_n (by omega)]
  · intro j hj
    show uA (uA f 3 (cpW (f 30) (f 3) 120)) 4 (cpW (f 31) (f 4) 144) 3 j = f 30 j
    rw [uA_ne (show (3 : Nat) ≠ 4 by decide), uA_self]
    exact if_pos hj
  · intro j hj
    show uA (uA f 3 (cpW (f 30) (f 3) 120)) 4 (cpW (f 31) (f 4) 144) 4 j = f 31 j
    rw [uA_self]
    exact if_pos hj
  · intro k h1 h2
    rw [uA_ne (show k ≠ 4 from h2), uA_ne (show k ≠ 3 from h1)]
theorem wThink (d : Nat) {z : Nat → Int32} {f : Nat → FA} : ∃ z' f', xcall (d + 1) 90 [vR 32, vR 2] (LW W z f) = some (none, LW W z' f') ∧ CPC 2 32 z f z' f' := by
  refine ⟨_, _, xcall_i (mq90 (cu := [])).2.2 rfl (vcth_90_0 (xcall d) z f _ rfl), ?_, ?_, ?_, ?_, ?_⟩
  · intro i h1 h2
    rcases (show i = 2 ∨ i = 3 ∨ i = 4 ∨ i = 5 ∨ i = 6 ∨ i = 7 ∨ i = 8 ∨ i = 9 by omega) with rfl | rfl | rfl | rfl | rfl | rfl | rfl | rfl <;> rfl
  · intro j hj
    rw [uZ_n (by omega), uZ_n (by omega), uZ_n (by omega), uZ_n (by omega), uZ_n (by omega), uZ_n (by omega), uZ_n (by omega), uZ_n (by omega)]
  · intro j hj
    show uA (uA f 33 (cpW (f 3) (f 33) 120)) 34 (cpW (f 4) (f 34) 144) 33 j = f 3 j
    rw [uA_ne (show (33 : Nat) ≠ 34 by decide), uA_self]
    exact if_pos hj
  · intro j hj
    show uA (uA f 33 (cpW (f 3) (f 33) 120)) 34 (cpW (f 4) (f 34) 144) 34 j = f 4 j
    rw [uA_self]
    exact if_pos hj
  · intro k h1 h2
    rw [uA_ne (show k ≠ 34 from h2), uA_ne (show k ≠ 33 from h1)]
theorem wForget (d : Nat) {z : Nat → Int32} {f : Nat → FA} : xcall (d + 1) 139 [vR 12] (LW W z f) = some (none, LW W (uZ z 123 0) f) := xcall_i (mq139 (cu := [])).2.2 rfl (vcfo_139_0 (xcall d) z f _ rfl)
theorem wKeep0 (d : Nat) {c : Nat} (hc : c ≤ 6) {z : Nat → Int32} {f : Nat → FA} (h1 : z 122 = nI 0) (h2 : z 123 = nI c) : ∃ z' f', xcall (d + 2) 141 [vR 12, vR 2] (LW W z f) = some (none, LW W (uZ (uZ z' 122 (nI 1)) 123 (nI (min (c + 1) 6))) f') ∧ CPC 2 14 z f z' f' := by
  obtain ⟨z', f', e1, e2⟩ := wTo0 (W := W) d (z := z) (f := f)
  have v := vck0_141_0 (W := W) (xcall (d + 1)) z f
  rw [uZ_id (show z 122 = 0 from h1)] at v
  have a1 : z' 122 + 1 = nI 1 := by rw [e2.2.1 122 (by omega), h1]; exact nI_add 0 1
  have a2 : z' 123 + 1 = nI (c + 1) := by rw [e2.2.1 123 (by omega), h2]; exact nI_add c 1
  refine ⟨z', f', xcall_i (mq141 (cu := [])).2.2 rfl (v _ ⟨_, _, e1, fun q1 => ?_, fun q1 => ?_⟩), e2⟩
  · rw [a1] at q1
    exact absurd q1 (by decide)
  · refine ⟨fun q2 => ?_, fun q2 => ?_⟩
    · rw [a2, I_nI (by omega)] at q2
      obtain rfl : c = 6 := by omega
      rw [a1]
      rfl
    · rw [a2, I_nI (by omega)] at q2
      rw [a1, a2, show min (c + 1) 6 = c + 1 by omega]
theorem wBack0 (d : Nat) {c : Nat} (h0 : 1 ≤ c) (hc : c ≤ 6) {z : Nat → Int32} {f : Nat → FA} (h1 : z 122 = nI 0) (h2 : z 123 = nI c) : ∃ z' f', xcall (d + 2) 140 [vR 12, vR 2] (LW W z f) = some (some (vI 1), LW W z' f') ∧ CPC 29 2 (uZ (uZ z 122 (nI 5)) 123 (nI (c - 1))) f z' f' := by
  obtain ⟨z', f', e1, e2⟩ := wFrom5 (W := W) d (z := uZ (uZ z 122 (nI 5)) 123 (nI (c - 1))) (f := f)
  have v := vcb0_140_0 (W := W) (xcall (d + 1)) z f
  rw [uZ_id (show z 122 = 0 from h1)] at v
  have a2 : z 123 - 1 = nI (c - 1) := by rw [h2]; exact nI_sub (b := 1) h0
  refine ⟨z', f', xcall_i (mq140 (cu := [])).2.2 rfl (v _ ⟨fun q1 => ?_, fun _ => ⟨_, _, ?_, rfl⟩⟩), e2⟩
  · rw [h2] at q1
    have := congrArg I q1
    rw [I_nI (by omega), show I 0 = 0 by decide] at this
    omega
  · rw [a2]
    exact e1
theorem wBackN0 (d : Nat) {z : Nat → Int32} {f : Nat → FA} (h1 : z 122 = nI 0) (h2 : z 123 = 0) : xcall (d + 2) 140 [vR 12, vR 2] (LW W z f) = some (some (vI 0), LW W z f) := by
  have v := vcb0_140_0 (W := W) (xcall (d + 1)) z f
  rw [uZ_id (show z 122 = 0 from h1)] at v
  exact xcall_i (mq140 (cu := [])).2.2 rfl (v _ ⟨fun _ => rfl, fun q => absurd h2 q⟩)
theorem wKeep1 (d : Nat) {c : Nat} (hc : c ≤ 6) {z : Nat → Int32} {f : Nat → FA} (h1 : z 122 = nI 1) (h2 : z 123 = nI c) : ∃ z' f', xcall (d + 2) 141 [vR 12, vR 2] (LW W z f) = some (none, LW W (uZ (uZ z' 122 (nI 2)) 123 (nI (min (c + 1) 6))) f') ∧ CPC 2 17 z f z' f' := by
  obtain ⟨z', f', e1, e2⟩ := wTo1 (W := W) d (z := z) (f := f)
  have v := vck1_141_0 (W := W) (xcall (d + 1)) z f
  rw [uZ_id (show z 122 = 1 from h1)] at v
  have a1 : z' 122 + 1 = nI 2 := by rw [e2.2.1 122 (by omega), h1]; exact nI_add 1 1
  have a2 : z' 123 + 1 = nI (c + 1) := by rw [e2.2.1 123 (by omega), h2]; exact nI_add c 1
  refine ⟨z', f', xcall_i (mq141 (cu := [])).2.2 rfl (v _ ⟨_, _, e1, fun q1 => ?_, fun q1 => ?_⟩), e2⟩
  · rw [a1] at q1
    exact absurd q1 (by decide)
  · refine ⟨fun q2 => ?_, fun q2 => ?_⟩
    · rw [a2, I_nI (by omega)] at q2
      obtain rfl : c = 6 := by omega
      rw [a1]
      rfl
    · rw [a2, I_nI (by omega)] at q2
      rw [a1, a2, show min (c + 1) 6 = c + 1 by omega]
theorem wBack1 (d : Nat) {c : Nat} (h0 : 1 ≤ c) (hc : c ≤ 6) {z : Nat → Int32} {f : Nat → FA} (h1 : z 122 = nI 1) (h2 : z 123 = nI c) : ∃ z' f', xcall (d + 2) 140 [vR 12, vR 2] (LW W z f) = some (some (vI 1), LW W z' f') ∧ CPC 14 2 (uZ (uZ z 122 (nI 0)) 123 (nI (c - 1))) f z' f' := by
  obtain ⟨z', f', e1, e2⟩ := wFrom0 (W := W) d (z := uZ (uZ z 122 (nI 0)) 123 (nI (c - 1))) (f := f)
  have v := vcb1_140_0 (W := W) (xcall (d + 1)) z f
  rw [uZ_id (show z 122 = 1 from h1)] at v
  have a2 : z 123 - 1 = nI (c - 1) := by rw [h2]; exact nI_sub (b := 1) h0
  refine ⟨z', f', xcall_i (mq140 (cu := [])).2.2 rfl (v _ ⟨fun q1 => ?_, fun _ => ⟨_, _, ?_, rfl⟩⟩), e2⟩
  · rw [h2] at q1
    have := congrArg I q1
    rw [I_nI (by omega), show I 0 = 0 by decide] at this
    omega
  · rw [a2]
    exact e1
theorem wBackN1 (d : Nat) {z : Nat → Int32} {f : Nat → FA} (h1 : z 122 = nI 1) (h2 : z 123 = 0) : xcall (d + 2) 140 [vR 12, vR 2] (LW W z f) = some (some (vI 0), LW W z f) := by
  have v := vcb1_140_0 (W := W) (xcall (d + 1)) z f
  rw [uZ_id (show z 122 = 1 from h1)] at v
  exact xcall_i (mq140 (cu := [])).2.2 rfl (v _ ⟨fun _ => rfl, fun q => absurd h2 q⟩)
theorem wKeep2 (d : Nat) {c : Nat} (hc : c ≤ 6) {z : Nat → Int32} {f : Nat → FA} (h1 : z 122 = nI 2) (h2 : z 123 = nI c) : ∃ z' f', xcall (d + 2) 141 [vR 12, vR 2] (LW W z f) = some (none, LW W (uZ (uZ z' 122 (nI 3)) 123 (nI (min (c + 1) 6))) f') ∧ CPC 2 20 z f z' f' := by
  obtain ⟨z', f', e1, e2⟩ := wTo2 (W := W) d (z := z) (f := f)
  have v := vck2_141_0 (W := W) (xcall (d + 1)) z f
  rw [uZ_id (show z 122 = 2 from h1)] at v
  have a1 : z' 122 + 1 = nI 3 := by rw [e2.2.1 122 (by omega), h1]; exact nI_add 2 1
  have a2 : z' 123 + 1 = nI (c + 1) := by rw [e2.2.1 123 (by omega), h2]; exact nI_add c 1
  refine ⟨z', f', xcall_i (mq141 (cu := [])).2.2 rfl (v _ ⟨_, _, e1, fun q1 => ?_, fun q1 => ?_⟩), e2⟩
  · rw [a1] at q1
    exact absurd q1 (by decide)
  · refine ⟨fun q2 => ?_, fun q2 => ?_⟩
    · rw [a2, I_nI (by omega)] at q2
      obtain rfl : c = 6 := by omega
      rw [a1]
      rfl
    · rw [a2, I_nI (by omega)] at q2
      rw [a1, a2, show min (c + 1) 6 = c + 1 by omega]
theorem wBack2 (d : Nat) {c : Nat} (h0 : 1 ≤ c) (hc : c ≤ 6) {z : Nat → Int32} {f : Nat → FA} (h1 : z 122 = nI 2) (h2 : z 123 = nI c) : ∃ z' f', xcall (d + 2) 140 [vR 12, vR 2] (LW W z f) = some (some (vI 1), LW W z' f') ∧ CPC 17 2 (uZ (uZ z 122 (nI 1)) 123 (nI (c - 1))) f z' f' := by
  obtain ⟨z', f', e1, e2⟩ := wFrom1 (W := W) d (z := uZ (uZ z 122 (nI 1)) 123 (nI (c - 1))) (f := f)
  have v := vcb2_140_0 (W := W) (xcall (d + 1)) z f
  rw [uZ_id (show z 122 = 2 from h1)] at v
  have a2 : z 123 - 1 = nI (c - 1) := by rw [h2]; exact nI_sub (b := 1) h0
  refine ⟨z', f', xcall_i (mq140 (cu := [])).2.2 rfl (v _ ⟨fun q1 => ?_, fun _ => ⟨_, _, ?_, rfl⟩⟩), e2⟩
  · rw [h2] at q1
    have := congrArg I q1
    rw [I_nI (by omega), show I 0 = 0 by decide] at this
    omega
  · rw [a2]
    exact e1
theorem wBackN2 (d : Nat) {z : Nat → Int32} {f : Nat → FA} (h1 : z 122 = nI 2) (h2 : z 123 = 0) : xcall (d + 2) 140 [vR 12, vR 2] (LW W z f) = some (some (vI 0), LW W z f) := by
  have v := vcb2_140_0 (W := W) (xcall (d + 1)) z f
  rw [uZ_id (show z 122 = 2 from h1)] at v
  exact xcall_i (mq140 (cu := [])).2.2 rfl (v _ ⟨fun _ => rfl, fun q => absurd h2 q⟩)
theorem wKeep3 (d : Nat) {c : Nat} (hc : c ≤ 6) {z : Nat → Int32} {f : Nat → FA} (h1 : z 122 = nI 3) (h2 : z 123 = nI c) : ∃ z' f', xcall (d + 2) 141 [vR 12, vR 2] (LW W z f) = some (none, LW W (uZ (uZ z' 122 (nI 4)) 123 (nI (min (c + 1) 6))) f') ∧ CPC 2 23 z f z' f' := by
  obtain ⟨z', f', e1, e2⟩ := wTo3 (W := W) d (z := z) (f := f)
  have v := vck3_141_0 (W := W) (xcall (d + 1)) z f
  rw [uZ_id (show z 122 = 3 from h1)] at v
  have a1 : z' 122 + 1 = nI 4 := by rw [e2.2.1 122 (by omega), h1]; exact nI_add 3 1
  have a2 : z' 123 + 1 = nI (c + 1) := by rw [e2.2.1 123 (by omega), h2]; exact nI_add c 1
  refine ⟨z', f', xcall_i (mq141 (cu := [])).2.2 rfl (v _ ⟨_, _, e1, fun q1 => ?_, fun q1 => ?_⟩), e2⟩
  · rw [a1] at q1
    exact absurd q1 (by decide)
  · refine ⟨fun q2 => ?_, fun q2 => ?_⟩
    · rw [a2, I_nI (by omega)] at q2
      obtain rfl : c = 6 := by omega
      rw [a1]
      rfl
    · rw [a2, I_nI (by omega)] at q2
      rw [a1, a2, show min (c + 1) 6 = c + 1 by omega]
theorem wBack3 (d : Nat) {c : Nat} (h0 : 1 ≤ c) (hc : c ≤ 6) {z : Nat → Int32} {f : Nat → FA} (h1 : z 122 = nI 3) (h2 : z 123 = nI c) : ∃ z' f', xcall (d + 2) 140 [vR 12, vR 2] (LW W z f) = some (some (vI 1), LW W z' f') ∧ CPC 20 2 (uZ (uZ z 122 (nI 2)) 123 (nI (c - 1))) f z' f' := by
  obtain ⟨z', f', e1, e2⟩ := wFrom2 (W := W) d (z := uZ (uZ z 122 (nI 2)) 123 (nI (c - 1))) (f := f)
  have v := vcb3_140_0 (W := W) (xcall (d + 1)) z f
  rw [uZ_id (show z 122 = 3 from h1)] at v
  have a2 : z 123 - 1 = nI (c - 1) := by rw [h2]; exact nI_sub (b := 1) h0
  refine ⟨z', f', xcall_i (mq140 (cu := [])).2.2 rfl (v _ ⟨fun q1 => ?_, fun _ => ⟨_, _, ?_, rfl⟩⟩), e2⟩
  · rw [h2] at q1
    have := congrArg I q1
    rw [I_nI (by omega), show I 0 = 0 by decide] at this
    omega
  · rw [a2]
    exact e1
theorem wBackN3 (d : Nat) {z : Nat → Int32} {f : Nat → FA} (h1 : z 122 = nI 3) (h2 : z 123 = 0) : xcall (d + 2) 140 [vR 12, vR 2] (LW W z f) = some (some (vI 0), LW W z f) := by
  have v := vcb3_140_0 (W := W) (xcall (d + 1)) z f
  rw [uZ_id (show z 122 = 3 from h1)] at v
  exact xcall_i (mq140 (cu := [])).2.2 rfl (v _ ⟨fun _ => rfl, fun q => absurd h2 q⟩)
theorem wKeep4 (d : Nat) {c : Nat} (hc : c ≤ 6) {z : Nat → Int32} {f : Nat → FA} (h1 : z 122 = nI 4) (h2 : z 123 = nI c) : ∃ z' f', xcall (d + 2) 141 [vR 12, vR 2] (LW W z f) = some (none, LW W (uZ (uZ z' 122 (nI 5)) 123 (nI (min (c + 1) 6))) f') ∧ CPC 2 26 z f z' f' := by
  obtain ⟨z', f', e1, e2⟩ := wTo4 (W := W) d (z := z) (f := f)
  have v := vck4_141_0 (W := W) (xcall (d + 1)) z f
  rw [uZ_id (show z 122 = 4 from h1)] at v
  have a1 : z' 122 + 1 = nI 5 := by rw [e2.2.1 122 (by omega), h1]; exact nI_add 4 1
  have a2 : z' 123 + 1 = nI (c + 1) := by rw [e2.2.1 123 (by omega), h2]; exact nI_add c 1
  refine ⟨z', f', xcall_i (mq141 (cu := [])).2.2 rfl (v _ ⟨_, _, e1, fun q1 => ?_, fun q1 => ?_⟩), e2⟩
  · rw [a1] at q1
    exact absurd q1 (by decide)
  · refine ⟨fun q2 => ?_, fun q2 => ?_⟩
    · rw [a2, I_nI (by omega)] at q2
      obtain rfl : c = 6 := by omega
      rw [a1]
      rfl
    · rw [a2, I_nI (by omega)] at q2
      rw [a1, a2, show min (c + 1) 6 = c + 1 by omega]
theorem wBack4 (d : Nat) {c : Nat} (h0 : 1 ≤ c) (hc : c ≤ 6) {z : Nat → Int32} {f : Nat → FA} (h1 : z 122 = nI 4) (h2 : z 123 = nI c) : ∃ z' f', xcall (d + 2) 140 [vR 12, vR 2] (LW W z f) = some (some (vI 1), LW W z' f') ∧ CPC 23 2 (uZ (uZ z 122 (nI 3)) 123 (nI (c - 1))) f z' f' := by
  obtain ⟨z', f', e1, e2⟩ := wFrom3 (W := W) d (z := uZ (uZ z 122 (nI 3)) 123 (nI (c - 1))) (f := f)
  have v := vcb4_140_0 (W := W) (xcall (d + 1)) z f
  rw [uZ_id (show z 122 = 4 from h1)] at v
  have a2 : z 123 - 1 = nI (c - 1) := by rw [h2]; exact nI_sub (b := 1) h0
  refine ⟨z', f', xcall_i (mq140 (cu := [])).2.2 rfl (v _ ⟨fun q1 => ?_, fun _ => ⟨_, _, ?_, rfl⟩⟩), e2⟩
  · rw [h2] at q1
    have := congrArg I q1
    rw [I_nI (by omega), show I 0 = 0 by decide] at this
    omega
  · rw [a2]
    exact e1
theorem wBackN4 (d : Nat) {z : Nat → Int32} {f : Nat → FA} (h1 : z 122 = nI 4) (h2 : z 123 = 0) : xcall (d + 2) 140 [vR 12, vR 2] (LW W z f) = some (some (vI 0), LW W z f) := by
  have v := vcb4_140_0 (W := W) (xcall (d + 1)) z f
  rw [uZ_id (show z 122 = 4 from h1)] at v
  exact xcall_i (mq140 (cu := [])).2.2 rfl (v _ ⟨fun _ => rfl, fun q => absurd h2 q⟩)
theorem wKeep5 (d : Nat) {c : Nat} (hc : c ≤ 6) {z : Nat → Int32} {f : Nat → FA} (h1 : z 122 = nI 5) (h2 : z 123 = nI c) : ∃ z' f', xcall (d + 2) 141 [vR 12, vR 2] (LW W z f) = some (none, LW W (uZ (uZ z' 122 (nI 0)) 123 (nI (min (c + 1) 6))) f') ∧ CPC 2 29 z f z' f' := by
  obtain ⟨z', f', e1, e2⟩ := wTo5 (W := W) d (z := z) (f := f)
  have v := vck5_141_0 (W := W) (xcall (d + 1)) z f
  rw [uZ_id (show z 122 = 5 from h1)] at v
  have a1 : z' 122 + 1 = nI 6 := by rw [e2.2.1 122 (by omega), h1]; exact nI_add 5 1
  have a2 : z' 123 + 1 = nI (c + 1) := by rw [e2.2.1 123 (by omega), h2]; exact nI_add c 1
  refine ⟨z', f', xcall_i (mq141 (cu := [])).2.2 rfl (v _ ⟨_, _, e1, fun q1 => ?_, fun q1 => ?_⟩), e2⟩
  · refine ⟨fun q2 => ?_, fun q2 => ?_⟩
    · rw [a2, I_nI (by omega)] at q2
      obtain rfl : c = 6 := by omega
      rfl
    · rw [a2, I_nI (by omega)] at q2
      rw [a2, show min (c + 1) 6 = c + 1 by omega]
      rfl
  · rw [a1] at q1
    exact absurd q1 (by decide)
theorem wBack5 (d : Nat) {c : Nat} (h0 : 1 ≤ c) (hc : c ≤ 6) {z : Nat → Int32} {f : Nat → FA} (h1 : z 122 = nI 5) (h2 : z 123 = nI c) : ∃ z' f', xcall (d + 2) 140 [vR 12, vR 2] (LW W z f) = some (some (vI 1), LW W z' f') ∧ CPC 26 2 (uZ (uZ z 122 (nI 4)) 123 (nI (c - 1))) f z' f' := by
  obtain ⟨z', f', e1, e2⟩ := wFrom4 (W := W) d (z := uZ (uZ z 122 (nI 4)) 123 (nI (c - 1))) (f := f)
  have v := vcb5_140_0 (W := W) (xcall (d + 1)) z f
  rw [uZ_id (show z 122 = 5 from h1)] at v
  have a2 : z 123 - 1 = nI (c - 1) := by rw [h2]; exact nI_sub (b := 1) h0
  refine ⟨z', f', xcall_i (mq140 (cu := [])).2.2 rfl (v _ ⟨fun q1 => ?_, fun _ => ⟨_, _, ?_, rfl⟩⟩), e2⟩
  · rw [h2] at q1
    have := congrArg I q1
    rw [I_nI (by omega), show I 0 = 0 by decide] at this
    omega
  · rw [a2]
    exact e1
theorem wBackN5 (d : Nat) {z : Nat → Int32} {f : Nat → FA} (h1 : z 122 = nI 5) (h2 : z 123 = 0) : xcall (d + 2) 140 [vR 12, vR 2] (LW W z f) = some (some (vI 0), LW W z f) := by
  have v := vcb5_140_0 (W := W) (xcall (d + 1)) z f
  rw [uZ_id (show z 122 = 5 from h1)] at v
  exact xcall_i (mq140 (cu := [])).2.2 rfl (v _ ⟨fun _ => rfl, fun q => absurd h2 q⟩)
theorem wKeep (d : Nat) {c p : Nat} (hp : p < 6) (hc : c ≤ 6) {z : Nat → Int32} {f : Nat → FA} (h1 : z 122 = nI p) (h2 : z 123 = nI c) : ∃ z' f', xcall (d + 2) 141 [vR 12, vR 2] (LW W z f) = some (none, LW W (uZ (uZ z' 122 (nI ((p + 1) % 6))) 123 (nI (min (c + 1) 6))) f') ∧ CPC 2 (14 + 3 * p) z f z' f' := by
  rcases (show p = 0 ∨ p = 1 ∨ p = 2 ∨ p = 3 ∨ p = 4 ∨ p = 5 by omega) with rfl | rfl | rfl | rfl | rfl | rfl
  · exact wKeep0 d hc h1 h2
  · exact wKeep1 d hc h1 h2
  · exact wKeep2 d hc h1 h2
  · exact wKeep3 d hc h1 h2
  · exact wKeep4 d hc h1 h2
  · exact wKeep5 d hc h1 h2
theorem wBack (d : Nat) {c p : Nat} (hp : p < 6) (h0 : 1 ≤ c) (hc : c ≤ 6) {z : Nat → Int32} {f : Nat → FA} (h1 : z 122 = nI p) (h2 : z 123 = nI c) : ∃ z' f', xcall (d + 2) 140 [vR 12, vR 2] (LW W z f) = some (some (vI 1), LW W z' f') ∧ CPC (14 + 3 * ((p + 5) % 6)) 2 (uZ (uZ z 122 (nI ((p + 5) % 6))) 123 (nI (c - 1))) f z' f' := by
  rcases (show p = 0 ∨ p = 1 ∨ p = 2 ∨ p = 3 ∨ p = 4 ∨ p = 5 by omega) with rfl | rfl | rfl | rfl | rfl | rfl
  · exact wBack0 d h0 hc h1 h2
  · exact wBack1 d h0 hc h1 h2
  · exact wBack2 d h0 hc h1 h2
  · exact wBack3 d h0 hc h1 h2
  · exact wBack4 d h0 hc h1 h2
  · exact wBack5 d h0 hc h1 h2
theorem wBackN (d : Nat) {p : Nat} (hp : p < 6) {z : Nat → Int32} {f : Nat → FA} (h1 : z 122 = nI p) (h2 : z 123 = 0) : xcall (d + 2) 140 [vR 12, vR 2] (LW W z f) = some (some (vI 0), LW W z f) := by
  rcases (show p = 0 ∨ p = 1 ∨ p = 2 ∨ p = 3 ∨ p = 4 ∨ p = 5 by omega) with rfl | rfl | rfl | rfl | rfl | rfl
  · exact wBackN0 d h1 h2
  · exact wBackN1 d h1 h2
  · exact wBackN2 d h1 h2
  · exact wBackN3 d h1 h2
  · exact wBackN4 d h1 h2
  · exact wBackN5 d h1 h2
/-- the same now, one kept more -/
theorem simKeep (d d' : Nat) {c c2 k nv : Nat} {z zr : Nat → Int32} {f r : Nat → FA} (h : RLn nv z f zr r) (g : RGA c c2 k nv z f zr r) : ∃ z' f' zr' r', xcall (d + 2) 141 [vR 12, vR 2] (LW W z f) = some (none, LW W z' f') ∧ mcall (d' + 3) 230 [vR 0] (LR zr r) = some (none, LR zr' r') ∧ RLn nv z' f' zr' r' ∧ RGA (min (c + 1) 6) (min (c2 + 1) 6) (min (k + 1) 6) nv z' f' zr' r' ∧ (∀ j, j < 122 → z' j = z j) ∧ (∀ j, j < 14 → f' j = f j) ∧ (∀ j, j ≠ 3 → zr' j = zr j) ∧ ∀ j, j ≠ 2 → r' j = r j := by
  obtain ⟨p, hp, hc, hc2, hk1, hk2, g1, g2, g3, g4⟩ := g
  obtain ⟨z', f', e1, e2⟩ := wKeep (W := W) d hp hc (f := f) g1 g2
  obtain ⟨G, k1, k2, k3⟩ := mKeep d' hc2 (r := r) g3
  have zlo : ∀ j, j < 122 → uZ (uZ z' 122 (nI ((p + 1) % 6))) 123 (nI (min (c + 1) 6)) j = z j := fun j hj => by rw [uZ_n (by omega), uZ_n (by omega)]; exact e2.2.1 j (by omega)
  have flo : ∀ j, j < 14 → f' j = f j := fun j hj => e2.2.2.2.2 j (by omega) (by omega)
  have rr : ∀ j, j ≠ 2 → uA r 2 G j = r j := fun j hj => uA_ne hj
  have zh : ∀ q i, q < 6 → 2 ≤ i → i < 10 → uZ (uZ z' 122 (nI ((p + 1) % 6))) 123 (nI (min (c + 1) 6)) (10 * (14 + 3 * q) + i) = z' (10 * (14 + 3 * q) + i) := fun q i h1 h2 h3 => by rw [uZ_n (by omega), uZ_n (by omega)]
  have hC : CRo 2 nv z f (r 1) (r 4) (r 5) (r 6) := h.1
  refine ⟨_, f', _, uA r 2 G, e1, k1, ⟨?_, ?_, ?_⟩, ⟨(p + 1) % 6, by omega, by omega, by omega, by omega, by omega, ?_, uZ_s, uZ_s, ?_⟩, zlo, flo, fun j hj => uZ_n hj, rr⟩
  · have : CRo 2 nv (uZ (uZ z' 122 (nI ((p + 1) % 6))) 123 (nI (min (c + 1) 6))) f' (r 1) (r 4) (r 5) (r 6) := hC.st (fun i h1 h2 => zlo _ (by omega)) (flo 3 (by decide)) (flo 4 (by decide))
    show CRo 2 nv _ f' (uA r 2 G 1) (uA r 2 G 4) (uA r 2 G 5) (uA r 2 G 6)
    rw [rr 1 (by decide), rr 4 (by decide), rr 5 (by decide), rr 6 (by decide)]
    exact this
  · intro j hj
    rw [flo 6 (by decide), rr 7 (by decide)]
    exact h.2.1 j hj
  · rw [uZ_n (by decide)]
    exact h.2.2
  · rw [uZ_n (by decide), uZ_s]
  · intro i hi
    rw [rr 4 (by decide), rr 5 (by decide), rr 6 (by decide), uA_self]
    cases i with
    | zero =>
      have ep : ((p + 1) % 6 + 5 - 0) % 6 = p := by omega
      rw [ep]
      have a := (hC.cp e2).st (z' := uZ (uZ z' 122 (nI ((p + 1) % 6))) 123 (nI (min (c + 1) 6))) (f' := f') (fun i h1 h2 => zh p i hp h1 h2) rfl rfl
      exact a.gg (fun x hx => k2 x hx)
    | succ i =>
      have ep : ((p + 1) % 6 + 5 - (i + 1)) % 6 = (p + 5 - i) % 6 := by omega
      have ne : (p + 5 - i) % 6 ≠ p := by omega
      rw [ep]
      have a := (g4 i (by omega)).st (z' := uZ (uZ z' 122 (nI ((p + 1) % 6))) 123 (nI (min (c + 1) 6))) (f' := f') (fun i' h1 h2 => (zh _ i' (by omega) h1 h2).trans (e2.2.1 _ (by omega))) (e2.2.2.2.2 _ (by omega) (by omega)) (e2.2.2.2.2 _ (by omega) (by omega))
      exact a.gg (fun x hx => by
        have := k3 i x (by omega) hx
        rw [show min (c2 + 1) 6 - 1 - (i + 1) = min (c2 + 1) 6 - 2 - i by omega]
        exact this)
/-- one step back: the same answer, the same now -/
theorem simBack (d d' : Nat) {c nv : Nat} {z zr : Nat → Int32} {f r : Nat → FA} (h : RLn nv z f zr r) (g : RGA c c c nv z f zr r) : ∃ a z' f' zr' r', (a = 0 ∨ a = 1) ∧ xcall (d + 2) 140 [vR 12, vR 2] (LW W z f) = some (some (vI a), LW W z' f') ∧ mcall (d' + 2) 283 [vR 0] (LR zr r) = some (some (vI a), LR zr' r') ∧ RLn nv z' f' zr' r' ∧ RGA (c - 1) (c - 1) (c - 1) nv z' f' zr' r' ∧ (∀ j, j < 22 ∨ (29 < j ∧ j < 122) → z' j = z j) ∧ (∀ j, j ≠ 3 → j ≠ 4 → f' j = f j) ∧ (∀ j, j ≠ 0 → j ≠ 3 → zr' j = zr j) ∧ ∀ j, j ≠ 1 → r' j = r j := by
  obtain ⟨p, hp, hc, hc2, hk1, hk2, g1, g2, g3, g4⟩ := g
  by_cases c0 : c = 0
  · subst c0
    refine ⟨0, z, f, _, r, Or.inl rfl, wBackN d hp g1 g2, mUndo0 d' g3, ⟨h.1, h.2.1, ?_⟩, ⟨p, hp, by omega, by omega, by omega, by omega, g1, g2, ?_, fun i hi => absurd hi (Nat.not_lt_zero i)⟩, fun _ _ => rfl, fun _ _ _ => rfl, fun j h1 h2 => uZ_n h1, fun _ _ => rfl⟩
    · rw [uZ_n (by decide)]
      exact h.2.2
    · rw [uZ_n (by decide)]
      exact g3
  · obtain ⟨z', f', e1, e2⟩ := wBack (W := W) d hp (by omega) hc (f := f) g1 g2
    obtain ⟨G, k1, k2⟩ := mUndo d' (c := c) (by omega) hc (r := r) g3
    have zo : ∀ j, (j < 22 ∨ 29 < j) → z' j = uZ (uZ z 122 (nI ((p + 5) % 6))) 123 (nI (c - 1)) j := fun j hj => e2.2.1 j (by omega)
    have fo : ∀ j, j ≠ 3 → j ≠ 4 → f' j = f j := fun j h1 h2 => e2.2.2.2.2 j h1 h2
    have rr : ∀ j, j ≠ 1 → uA r 1 G j = r j := fun j hj => uA_ne hj
    have sl : ∀ q, q < 6 → ∀ g w4 w5 w6, CRo (14 + 3 * q) nv z f g w4 w5 w6 → CRo (14 + 3 * q) nv (uZ (uZ z 122 (nI ((p + 5) % 6))) 123 (nI (c - 1))) f g w4 w5 w6 := fun q hq g w4 w5 w6 a => a.st (fun i h1 h2 => by rw [uZ_n (by omega), uZ_n (by omega)]) rfl rfl
    refine ⟨1, z', f', _, uA r 1 G, Or.inr rfl, e1, k1, ⟨?_, ?_, ?_⟩, ⟨(p + 5) % 6, by omega, by omega, by omega, by omega, by omega, ?_, ?_, uZ_s, ?_⟩, ?_, fo, fun j h1 h2 => by rw [uZ_n h2, uZ_n h1], rr⟩
    · show CRo 2 nv z' f' (uA r 1 G 1) (uA r 1 G 4) (uA r 1 G 5) (uA r 1 G 6)
      rw [uA_self, rr 4 (by decide), rr 5 (by decide), rr 6 (by decide)]
      have a := g4 0 (by omega)
      rw [show (p + 5 - 0) % 6 = (p + 5) % 6 by rw [Nat.sub_zero]] at a
      exact ((sl _ (by omega) _ _ _ _ a).cp e2).gg (fun x hx => k2 x hx)
    · intro j hj
      rw [fo 6 (by decide) (by decide), rr 7 (by decide)]
      exact h.2.1 j hj
    · rw [uZ_n (by decide), uZ_n (by decide)]
      exact h.2.2
    · rw [zo 122 (by omega), uZ_n (by decide), uZ_s]
    · rw [zo 123 (by omega), uZ_s]
    · intro i hi
      rw [rr 2 (by decide), rr 4 (by decide), rr 5 (by decide), rr 6 (by decide)]
      have a := sl _ (by omega) _ _ _ _ (g4 (i + 1) (by omega))
      rw [show (p + 5 - (i + 1)) % 6 = ((p + 5) % 6 + 5 - i) % 6 by omega, show c - 1 - (i + 1) = c - 1 - 1 - i by omega] at a
      exact a.st (fun i' h1 h2 => zo _ (by omega)) (fo _ (by omega) (by omega)) (fo _ (by omega) (by omega))
    · intro j hj
      rw [zo j (by omega), uZ_n (by omega), uZ_n (by omega)]
theorem RGA.zero {c c2 k nv : Nat} {z zr : Nat → Int32} {f r : Nat → FA} (g : RGA c c2 k nv z f zr r) : RGA c c2 0 nv z f zr r := by
  obtain ⟨p, hp, hc, hc2, hk1, hk2, g1, g2, g3, g4⟩ := g
  exact ⟨p, hp, hc, hc2, by omega, by omega, g1, g2, g3, fun i hi => absurd hi (Nat.not_lt_zero i)⟩
end TWs
