/-! the reference's heap as a list: numbers z, rows f -/
def LR (z : Nat → Int32) (f : Nat → FA) : QH FA := [.inr (12, [vI (z 0), vR 1, vR 2, vI (z 3), vR 3, vI (z 5), vI (z 6), vR 4, vR 5, vR 6, vR 7, vR 8, vI (z 12), vI (z 13), vI (z 14), vI (z 15), vI (z 16), vR 9, vR 10, vR 11, vR 12, vR 13, vR 14, vR 15, vR 16, vI (z 25), vI (z 26), vI (z 27), vR 17, vI (z 29), vI (z 30), vI (z 31), vI (z 32), vI (z 33), vI (z 34), vR 18, vI (z 36), vR 19, vI (z 38), vR 20, vR 21, vR 22, vR 23, vI (z 43), vR 24, vR 25, vI (z 46), vR 26, vR 27, vR 28, vI (z 50), vR 29, vI (z 52), vR 30, vI (z 54), vR 31, vR 32, vI (z 57), vR 33, vR 34, vR 35, vI (z 61), vR 36, vI (z 63), vR 37, vI (z 65), vR 38, vR 39, vR 40, vR 41, vI (z 70), vI (z 71), vI (z 72), vI (z 73), vI (z 74), vR 42]), .inl (.inl (0, 499, f 1)), .inl (.inl (0, 2994, f 2)), .inl (.inl (0, 499, f 3)), .inl (.inl (0, 20, f 4)), .inl (.inl (0, 20, f 5)), .inl (.inl (0, 20, f 6)), .inl (.inl (0, 750, f 7)), .inl (.inl (0, 400, f 8)), .inl (.inl (0, 133, f 9)), .inl (.inl (0, 2, f 10)), .inl (.inl (0, 48, f 11)), .inl (.inl (0, 48, f 12)), .inl (.inl (0, 48, f 13)), .inl (.inl (0, 48, f 14)), .inl (.inl (0, 1200, f 15)), .inl (.inl (0, 1200, f 16)), .inl (.inl (0, 40, f 17)), .inl (.inl (0, 96, f 18)), .inl (.inl (0, 160, f 19)), .inl (.inl (0, 40, f 20)), .inl (.inl (0, 10, f 21)), .inl (.inl (0, 420, f 22)), .inl (.inl (0, 144, f 23)), .inl (.inl (0, 6, f 24)), .inl (.inl (0, 6, f 25)), .inl (.inl (0, 16, f 26)), .inl (.inl (0, 153, f 27)), .inl (.inl (0, 153, f 28)), .inl (.inl (0, 15, f 29)), .inl (.inl (0, 15, f 30)), .inl (.inl (0, 8, f 31)), .inl (.inl (0, 401, f 32)), .inl (.inl (0, 8, f 33)), .inl (.inl (0, 8, f 34)), .inl (.inl (0, 256, f 35)), .inl (.inl (0, 12, f 36)), .inl (.inl (0, 8, f 37)), .inl (.inl (0, 8, f 38)), .inl (.inl (0, 256, f 39)), .inl (.inl (0, 19683, f 40)), .inl (.inl (0, 9, f 41)), .inl (.inl (0, 2900, f 42))]
def uZ (z : Nat → Int32) (j : Nat) (x : Int32) : Nat → Int32 := fun i => if i = j then x else z i
def uA (f : Nat → FA) (k : Nat) (g : FA) : Nat → FA := fun i => if i = k then g else f i
theorem len_of {N c : Nat} {lam : Nat → Nat} (hc : c < 2147483648) (hN : N < 2147483648) (h : vRel lam [] (.inl (2147483648 + c)) (vI (Int32.ofNat N))) : N = c := by
  obtain ⟨z, h1, h2⟩ := h
  have h2 : Int32.ofNat N = z := by injection h2
  rw [val_c (by omega)] at h1
  have h1 := Option.some.inj h1
  have k1 : ky (kv (2147483648 + c)) = 2147483648 + c := ky_kv (by omega)
  rw [h1, ← h2] at k1
  have e : ix (Int32.ofNat N) = N := by rw [ix_ofNat]; exact Nat.mod_eq_of_lt (by omega)
  rw [ky_small (by rw [e]; exact hN), e] at k1
  omega
theorem arr_of {lam : Nat → Nat} {h : PH} {k c p : Nat} {sg : List (Nat × Nat × Nat)} (hc : c < 2147483648) (hT : ∃ x, h[lam k]? = some x ∧ cellOK lam [] (.inl (.inl (.inl (2147483648 + c), p, sg))) x) : ∃ g : FA, h[lam k]? = some (eI c g) ∧ SegOK sg g ∧ PRD [] p g := by
  obtain ⟨x, h1, N, g, rfl, h2, h3, h4, h5⟩ := hT
  have := len_of hc h2 h3
  subst this
  exact ⟨g, h1, h4, h5⟩
theorem LR_arr {lam : Nat → Nat} {h : PH} (hT : HOK lam [] TRf h) : ∃ f : Nat → FA, h[lam 1]? = some (eI 499 (f 1)) ∧ h[lam 2]? = some (eI 2994 (f 2)) ∧ h[lam 3]? = some (eI 499 (f 3)) ∧ h[lam 4]? = some (eI 20 (f 4)) ∧ h[lam 5]? = some (eI 20 (f 5)) ∧ h[lam 6]? = some (eI 20 (f 6)) ∧ h[lam 7]? = some (eI 750 (f 7)) ∧ h[lam 8]? = some (eI 400 (f 8)) ∧ h[lam 9]? = some (eI 133 (f 9)) ∧ h[lam 10]? = some (eI 2 (f 10)) ∧ h[lam 11]? = some (eI 48 (f 11)) ∧ h[lam 12]? = some (eI 48 (f 12)) ∧ h[lam 13]? = some (eI 48 (f 13)) ∧ h[lam 14]? = some (eI 48 (f 14)) ∧ h[lam 15]? = some (eI 1200 (f 15)) ∧ h[lam 16]? = some (eI 1200 (f 16)) ∧ h[lam 17]? = some (eI 40 (f 17)) ∧ h[lam 18]? = some (eI 96 (f 18)) ∧ h[lam 19]? = some (eI 160 (f 19)) ∧ h[lam 20]? = some (eI 40 (f 20)) ∧ h[lam 21]? = some (eI 10 (f 21)) ∧ h[lam 22]? = some (eI 420 (f 22)) ∧ h[lam 23]? = some (eI 144 (f 23)) ∧ h[lam 24]? = some (eI 6 (f 24)) ∧ h[lam 25]? = some (eI 6 (f 25)) ∧ h[lam 26]? = some (eI 16 (f 26)) ∧ h[lam 27]? = some (eI 153 (f 27)) ∧ h[lam 28]? = some (eI 153 (f 28)) ∧ h[lam 29]? = some (eI 15 (f 29)) ∧ h[lam 30]? = some (eI 15 (f 30)) ∧ h[lam 31]? = some (eI 8 (f 31)) ∧ h[lam 32]? = some (eI 401 (f 32)) ∧ h[lam 33]? = some (eI 8 (f 33)) ∧ h[lam 34]? = some (eI 8 (f 34)) ∧ h[lam 35]? = some (eI 256 (f 35)) ∧ h[lam 36]? = some (eI 12 (f 36)) ∧ h[lam 37]? = some (eI 8 (f 37)) ∧ h[lam 38]? = some (eI 8 (f 38)) ∧ h[lam 39]? = some (eI 256 (f 39)) ∧ h[lam 40]? = some (eI 19683 (f 40)) ∧ h[lam 41]? = some (eI 9 (f 41)) ∧ h[lam 42]? = some (eI 2900 (f 42)) := by
  obtain ⟨g1, a1, -⟩ := arr_of (k := 1) (c := 499) (by decide) (hT 1 _ rfl)
  obtain ⟨g2, a2, -⟩ := arr_of (k := 2) (c := 2994) (by decide) (hT 2 _ rfl)
  obtain ⟨g3, a3, -⟩ := arr_of (k := 3) (c := 499) (by decide) (hT 3 _ rfl)
  obtain ⟨g4, a4, -⟩ := arr_of (k := 4) (c := 20) (by decide) (hT 4 _ rfl)
  obtain ⟨g5, a5, -⟩ := arr_of (k := 5) (c := 20) (by decide) (hT 5 _ rfl)
  obtain ⟨g6, a6, -⟩ := arr_of (k := 6) (c := 20) (by decide) (hT 6 _ rfl)
  obtain ⟨g7, a7, -⟩ := arr_of (k := 7) (c := 750) (by decide) (hT 7 _ rfl)
  obtain ⟨g8, a8, -⟩ := arr_of (k := 8) (c := 400) (by decide) (hT 8 _ rfl)
  obtain ⟨g9, a9, -⟩ := arr_of (k := 9) (c := 133) (by decide) (hT 9 _ rfl)
  obtain ⟨g10, a10, -⟩ := arr_of (k := 10) (c := 2) (by decide) (hT 10 _ rfl)
  obtain ⟨g11, a11, -⟩ := arr_of (k := 11) (c := 48) (by decide) (hT 11 _ rfl)
  obtain ⟨g12, a12, -⟩ := arr_of (k := 12) (c := 48) (by decide) (hT 12 _ rfl)
  obtain ⟨g13, a13, -⟩ := arr_of (k := 13) (c := 48) (by decide) (hT 13 _ rfl)
  obtain ⟨g14, a14, -⟩ := arr_of (k := 14) (c := 48) (by decide) (hT 14 _ rfl)
  obtain ⟨g15, a15, -⟩ := arr_of (k := 15) (c := 1200) (by decide) (hT 15 _ rfl)
  obtain ⟨g16, a16, -⟩ := arr_of (k := 16) (c := 1200) (by decide) (hT 16 _ rfl)
  obtain ⟨g17, a17, -⟩ := arr_of (k := 17) (c := 40) (by decide) (hT 17 _ rfl)
  obtain ⟨g18, a18, -⟩ := arr_of (k := 18) (c := 96) (by decide) (hT 18 _ rfl)
  obtain ⟨g19, a19, -⟩ := arr_of (k := 19) (c := 160) (by decide) (hT 19 _ rfl)
  obtain ⟨g20, a20, -⟩ := arr_of (k := 20) (c := 40) (by decide) (hT 20 _ rfl)
  obtain ⟨g21, a21, -⟩ := arr_of (k := 21) (c := 10) (by decide) (hT 21 _ rfl)
  obtain ⟨g22, a22, -⟩ := arr_of (k := 22) (c := 420) (by decide) (hT 22 _ rfl)
  obtain ⟨g23, a23, -⟩ := arr_of (k := 23) (c := 144) (by decide) (hT 23 _ rfl)
  obtain ⟨g24, a24, -⟩ := arr_of (k := 24) (c := 6) (by decide) (hT 24 _ rfl)
  obtain ⟨g25, a25, -⟩ := arr_of (k := 25) (c := 6) (by decide) (hT 25 _ rfl)
  obtain ⟨g26, a26, -⟩ := arr_of (k := 26) (c := 16) (by decide) (hT 26 _ rfl)
  obtain ⟨g27, a27, -⟩ := arr_of (k := 27) (c := 153) (by decide) (hT 27 _ rfl)
  obtain ⟨g28, a28, -⟩ := arr_of (k := 28) (c := 153) (by decide) (hT 28 _ rfl)
  obtain ⟨g29, a29, -⟩ := arr_of (k := 29) (c := 15) (by decide) (hT 29 _ rfl)
  obtain ⟨g30, a30, -⟩ := arr_of (k := 30) (c := 15) (by decide) (hT 30 _ rfl)
  obtain ⟨g31, a31, -⟩ := arr_of (k := 31) (c := 8) (by decide) (hT 31 _ rfl)
  obtain ⟨g32, a32, -⟩ := arr_of (k := 32) (c := 401) (by decide) (hT 32 _ rfl)
  obtain ⟨g33, a33, -⟩ := arr_of (k := 33) (c := 8) (by decide) (hT 33 _ rfl)
  obtain ⟨g34, a34, -⟩ := arr_of (k := 34) (c := 8) (by decide) (hT 34 _ rfl)
  obtain ⟨g35, a35, -⟩ := arr_of (k := 35) (c := 256) (by decide) (hT 35 _ rfl)
  obtain ⟨g36, a36, -⟩ := arr_of (k := 36) (c := 12) (by decide) (hT 36 _ rfl)
  obtain ⟨g37, a37, -⟩ := arr_of (k := 37) (c := 8) (by decide) (hT 37 _ rfl)
  obtain ⟨g38, a38, -⟩ := arr_of (k := 38) (c := 8) (by decide) (hT 38 _ rfl)
  obtain ⟨g39, a39, -⟩ := arr_of (k := 39) (c := 256) (by decide) (hT 39 _ rfl)
  obtain ⟨g40, a40, -⟩ := arr_of (k := 40) (c := 19683) (by decide) (hT 40 _ rfl)
  obtain ⟨g41, a41, -⟩ := arr_of (k := 41) (c := 9) (by decide) (hT 41 _ rfl)
  obtain ⟨g42, a42, -⟩ := arr_of (k := 42) (c := 2900) (by decide) (hT 42 _ rfl)
  exact ⟨fun k => match k with
    | 1 => g1
    | 2 => g2
    | 3 => g3
    | 4 => g4
    | 5 => g5
    | 6 => g6
    | 7 => g7
    | 8 => g8
    | 9 => g9
    | 10 => g10
    | 11 => g11
    | 12 => g12
    | 13 => g13
    | 14 => g14
    | 15 => g15
    | 16 => g16
    | 17 => g17
    | 18 => g18
    | 19 => g19
    | 20 => g20
    | 21 => g21
    | 22 => g22
    | 23 => g23
    | 24 => g24
    | 25 => g25
    | 26 => g26
    | 27 => g27
    | 28 => g28
    | 29 => g29
    | 30 => g30
    | 31 => g31
    | 32 => g32
    | 33 => g33
    | 34 => g34
    | 35 => g35
    | 36 => g36
    | 37 => g37
    | 38 => g38
    | 39 => g39
    | 40 => g40
    | 41 => g41
    | 42 => g42
    | _ => g1, a1, a2, a3, a4, a5, a6, a7, a8, a9, a10, a11, a12, a13, a14, a15, a16, a17, a18, a19, a20, a21, a22, a23, a24, a25, a26, a27, a28, a29, a30, a31, a32, a33, a34, a35, a36, a37, a38, a39, a40, a41, a42⟩
theorem LR_obj {lam : Nat → Nat} {h : PH} (hT : HOK lam [] TRf h) : ∃ z : Nat → Int32, h[lam 0]? = some (se rdF lam (.inr (12, [vI (z 0), vR 1, vR 2, vI (z 3), vR 3, vI (z 5), vI (z 6), vR 4, vR 5, vR 6, vR 7, vR 8, vI (z 12), vI (z 13), vI (z 14), vI (z 15), vI (z 16), vR 9, vR 10, vR 11, vR 12, vR 13, vR 14, vR 15, vR 16, vI (z 25), vI (z 26), vI (z 27), vR 17, vI (z 29), vI (z 30), vI (z 31), vI (z 32), vI (z 33), vI (z 34), vR 18, vI (z 36), vR 19, vI (z 38), vR 20, vR 21, vR 22, vR 23, vI (z 43), vR 24, vR 25, vI (z 46), vR 26, vR 27, vR 28, vI (z 50), vR 29, vI (z 52), vR 30, vI (z 54), vR 31, vR 32, vI (z 57), vR 33, vR 34, vR 35, vI (z 61), vR 36, vI (z 63), vR 37, vI (z 65), vR 38, vR 39, vR 40, vR 41, vI (z 70), vI (z 71), vI (z 72), vI (z 73), vI (z 74), vR 42]))) := by
  obtain ⟨x, h1, xs, rfl, h2⟩ := hT 0 _ rfl
  obtain ⟨y0, xs0, rfl, ⟨z0, rfl, -⟩, h0_⟩ := R2.uncons h2
  obtain ⟨y1, xs1, rfl, e1, h1_⟩ := R2.uncons h0_
  have e1 : y1 = vR (lam 1) := e1
  subst e1
  obtain ⟨y2, xs2, rfl, e2, h2_⟩ := R2.uncons h1_
  have e2 : y2 = vR (lam 2) := e2
  subst e2
  obtain ⟨y3, xs3, rfl, ⟨z3, rfl, -⟩, h3_⟩ := R2.uncons h2_
  obtain ⟨y4, xs4, rfl, e4, h4_⟩ := R2.uncons h3_
  have e4 : y4 = vR (lam 3) := e4
  subst e4
  obtain ⟨y5, xs5, rfl, ⟨z5, rfl, -⟩, h5_⟩ := R2.uncons h4_
  obtain ⟨y6, xs6, rfl, ⟨z6, rfl, -⟩, h6_⟩ := R2.uncons h5_
  obtain ⟨y7, xs7, rfl, e7, h7_⟩ := R2.uncons h6_
  have e7 : y7 = vR (lam 4) := e7
  subst e7
  obtain ⟨y8, xs8, rfl, e8, h8_⟩ := R2.uncons h7_
  have e8 : y8 = vR (lam 5) := e8
  subst e8
  obtain ⟨y9, xs9, rfl, e9, h9_⟩ := R2.uncons h8_
  have e9 : y9 = vR (lam 6) := e9
  subst e9
  obtain ⟨y10, xs10, rfl, e10, h10_⟩ := R2.uncons h9_
  have e10 : y10 = vR (lam 7) := e10
  subst e10
  obtain ⟨y11, xs11, rfl, e11, h11_⟩ := R2.uncons h10_
  have e11 : y11 = vR (lam 8) := e11
  subst e11
  obtain ⟨y12, xs12, rfl, ⟨z12, rfl, -⟩, h12_⟩ := R2.uncons h11_
  obtain ⟨y13, xs13, rfl, ⟨z13, rfl, -⟩, h13_⟩ := R2.uncons h12_
  obtain ⟨y14, xs14, rfl, ⟨z14, rfl, -⟩, h14_⟩ := R2.uncons h13_
  obtain ⟨y15, xs15, rfl, ⟨z15, rfl, -⟩, h15_⟩ := R2.uncons h14_
  obtain ⟨y16, xs16, rfl, ⟨z16, rfl, -⟩, h16_⟩ := R2.uncons h15_
  obtain ⟨y17, xs17, rfl, e17, h17_⟩ := R2.uncons h16_
  have e17 : y17 = vR (lam 9) := e17
  subst e17
  obtain ⟨y18, xs18, rfl, e18, h18_⟩ := R2.uncons h17_
  have e18 : y18 = vR (lam 10) := e18
  subst e18
  obtain ⟨y19, xs19, rfl, e19, h19_⟩ := R2.uncons h18_
  have e19 : y19 = vR (lam 11) := e19
  subst e19
  obtain ⟨y20, xs20, rfl, e20, h20_⟩ := R2.uncons h19_
  have e20 : y20 = vR (lam 12) := e20
  subst e20
  obtain ⟨y21, xs21, rfl, e21, h21_⟩ := R2.uncons h20_
  have e21 : y21 = vR (lam 13) := e21
  subst e21
  obtain ⟨y22, xs22, rfl, e22, h22_⟩ := R2.uncons h21_
  have e22 : y22 = vR (lam 14) := e22
  subst e22
  obtain ⟨y23, xs23, rfl, e23, h23_⟩ := R2.uncons h22_
  have e23 : y23 = vR (lam 15) := e23
  subst e23
  obtain ⟨y24, xs24, rfl, e24, h24_⟩ := R2.uncons h23_
  have e24 : y24 = vR (lam 16) := e24
  subst e24
  obtain ⟨y25, xs25, rfl, ⟨z25, rfl, -⟩, h25_⟩ := R2.uncons h24_
  obtain ⟨y26, xs26, rfl, ⟨z26, rfl, -⟩, h26_⟩ := R2.uncons h25_
  obtain ⟨y27, xs27, rfl, ⟨z27, rfl, -⟩, h27_⟩ := R2.uncons h26_
  obtain ⟨y28, xs28, rfl, e28, h28_⟩ := R2.uncons h27_
  have e28 : y28 = vR (lam 17) := e28
  subst e28
  obtain ⟨y29, xs29, rfl, ⟨z29, rfl, -⟩, h29_⟩ := R2.uncons h28_
  obtain ⟨y30, xs30, rfl, ⟨z30, rfl, -⟩, h30_⟩ := R2.uncons h29_
  obtain ⟨y31, xs31, rfl, ⟨z31, rfl, -⟩, h31_⟩ := R2.uncons h30_
  obtain ⟨y32, xs32, rfl, ⟨z32, rfl, -⟩, h32_⟩ := R2.uncons h31_
  obtain ⟨y33, xs33, rfl, ⟨z33, rfl, -⟩, h33_⟩ := R2.uncons h32_
  obtain ⟨y34, xs34, rfl, ⟨z34, rfl, -⟩, h34_⟩ := R2.uncons h33_
  obtain ⟨y35, xs35, rfl, e35, h35_⟩ := R2.uncons h34_
  have e35 : y35 = vR (lam 18) := e35
  subst e35
  obtain ⟨y36, xs36, rfl, ⟨z36, rfl, -⟩, h36_⟩ := R2.uncons h35_
  obtain ⟨y37, xs37, rfl, e37, h37_⟩ := R2.uncons h36_
  have e37 : y37 = vR (lam 19) := e37
  subst e37
  obtain ⟨y38, xs38, rfl, ⟨z38, rfl, -⟩, h38_⟩ := R2.uncons h37_
  obtain ⟨y39, xs39, rfl, e39, h39_⟩ := R2.uncons h38_
  have e39 : y39 = vR (lam 20) := e39
  subst e39
  obtain ⟨y40, xs40, rfl, e40, h40_⟩ := R2.uncons h39_
  have e40 : y40 = vR (lam 21) := e40
  subst e40
  obtain ⟨y41, xs41, rfl, e41, h41_⟩ := R2.uncons h40_
  have e41 : y41 = vR (lam 22) := e41
  subst e41
  obtain ⟨y42, xs42, rfl, e42, h42_⟩ := R2.uncons h41_
  have e42 : y42 = vR (lam 23) := e42
  subst e42
  obtain ⟨y43, xs43, rfl, ⟨z43, rfl, -⟩, h43_⟩ := R2.uncons h42_
  obtain ⟨y44, xs44, rfl, e44, h44_⟩ := R2.uncons h43_
  have e44 : y44 = vR (lam 24) := e44
  subst e44
  obtain ⟨y45, xs45, rfl, e45, h45_⟩ := R2.uncons h44_
  have e45 : y45 = vR (lam 25) := e45
  subst e45
  obtain ⟨y46, xs46, rfl, ⟨z46, rfl, -⟩, h46_⟩ := R2.uncons h45_
  obtain ⟨y47, xs47, rfl, e47, h47_⟩ := R2.uncons h46_
  have e47 : y47 = vR (lam 26) := e47
  subst e47
  obtain ⟨y48, xs48, rfl, e48, h48_⟩ := R2.uncons h47_
  have e48 : y48 = vR (lam 27) := e48
  subst e48
  obtain ⟨y49, xs49, rfl, e49, h49_⟩ := R2.uncons h48_
  have e49 : y49 = vR (lam 28) := e49
  subst e49
  obtain ⟨y50, xs50, rfl, ⟨z50, rfl, -⟩, h50_⟩ := R2.uncons h49_
  obtain ⟨y51, xs51, rfl, e51, h51_⟩ := R2.uncons h50_
  have e51 : y51 = vR (lam 29) := e51
  subst e51
  obtain ⟨y52, xs52, rfl, ⟨z52, rfl, -⟩, h52_⟩ := R2.uncons h51_
  obtain ⟨y53, xs53, rfl, e53, h53_⟩ := R2.uncons h52_
  have e53 : y53 = vR (lam 30) := e53
  subst e53
  obtain ⟨y54, xs54, rfl, ⟨z54, rfl, -⟩, h54_⟩ := R2.uncons h53_
  obtain ⟨y55, xs55, rfl, e55, h55_⟩ := R2.uncons h54_
  have e55 : y55 = vR (lam 31) := e55
  subst e55
  obtain ⟨y56, xs56, rfl, e56, h56_⟩ := R2.uncons h55_
  have e56 : y56 = vR (lam 32) := e56
  subst e56
  obtain ⟨y57, xs57, rfl, ⟨z57, rfl, -⟩, h57_⟩ := R2.uncons h56_
  obtain ⟨y58, xs58, rfl, e58, h58_⟩ := R2.uncons h57_
  have e58 : y58 = vR (lam 33) := e58
  subst e58
  obtain ⟨y59, xs59, rfl, e59, h59_⟩ := R2.uncons h58_
  have e59 : y59 = vR (lam 34) := e59
  subst e59
  obtain ⟨y60, xs60, rfl, e60, h60_⟩ := R2.uncons h59_
  have e60 : y60 = vR (lam 35) := e60
  subst e60
  obtain ⟨y61, xs61, rfl, ⟨z61, rfl, -⟩, h61_⟩ := R2.uncons h60_
  obtain ⟨y62, xs62, rfl, e62, h62_⟩ := R2.uncons h61_
  have e62 : y62 = vR (lam 36) := e62
  subst e62
  obtain ⟨y63, xs63, rfl, ⟨z63, rfl, -⟩, h63_⟩ := R2.uncons h62_
  obtain ⟨y64, xs64, rfl, e64, h64_⟩ := R2.uncons h63_
  have e64 : y64 = vR (lam 37) := e64
  subst e64
  obtain ⟨y65, xs65, rfl, ⟨z65, rfl, -⟩, h65_⟩ := R2.uncons h64_
  obtain ⟨y66, xs66, rfl, e66, h66_⟩ := R2.uncons h65_
  have e66 : y66 = vR (lam 38) := e66
  subst e66
  obtain ⟨y67, xs67, rfl, e67, h67_⟩ := R2.uncons h66_
  have e67 : y67 = vR (lam 39) := e67
  subst e67
  obtain ⟨y68, xs68, rfl, e68, h68_⟩ := R2.uncons h67_
  have e68 : y68 = vR (lam 40) := e68
  subst e68
  obtain ⟨y69, xs69, rfl, e69, h69_⟩ := R2.uncons h68_
  have e69 : y69 = vR (lam 41) := e69
  subst e69
  obtain ⟨y70, xs70, rfl, ⟨z70, rfl, -⟩, h70_⟩ := R2.uncons h69_
  obtain ⟨y71, xs71, rfl, ⟨z71, rfl, -⟩, h71_⟩ := R2.uncons h70_
  obtain ⟨y72, xs72, rfl, ⟨z72, rfl, -⟩, h72_⟩ := R2.uncons h71_
  obtain ⟨y73, xs73, rfl, ⟨z73, rfl, -⟩, h73_⟩ := R2.uncons h72_
  obtain ⟨y74, xs74, rfl, ⟨z74, rfl, -⟩, h74_⟩ := R2.uncons h73_
  obtain ⟨y75, xs75, rfl, e75, h75_⟩ := R2.uncons h74_
  have e75 : y75 = vR (lam 42) := e75
  subst e75
  cases xs75 with
  | cons _ _ => cases h75_
  | nil =>
    exact ⟨fun k => match k with
      | 0 => z0
      | 3 => z3
      | 5 => z5
      | 6 => z6
      | 12 => z12
      | 13 => z13
      | 14 => z14
      | 15 => z15
      | 16 => z16
      | 25 => z25
      | 26 => z26
      | 27 => z27
      | 29 => z29
      | 30 => z30
      | 31 => z31
      | 32 => z32
      | 33 => z33
      | 34 => z34
      | 36 => z36
      | 38 => z38
      | 43 => z43
      | 46 => z46
      | 50 => z50
      | 52 => z52
      | 54 => z54
      | 57 => z57
      | 61 => z61
      | 63 => z63
      | 65 => z65
      | 70 => z70
      | 71 => z71
      | 72 => z72
      | 73 => z73
      | 74 => z74
      | _ => 0, h1⟩
theorem LR_rep {lam : Nat → Nat} {h : PH} (hT : HOK lam [] TRf h) : ∃ z f, Rep rdF h lam 43 (LR z f) h := by
  obtain ⟨f, a1, a2, a3, a4, a5, a6, a7, a8, a9, a10, a11, a12, a13, a14, a15, a16, a17, a18, a19, a20, a21, a22, a23, a24, a25, a26, a27, a28, a29, a30, a31, a32, a33, a34, a35, a36, a37, a38, a39, a40, a41, a42⟩ := LR_arr hT
  obtain ⟨z, a0⟩ := LR_obj hT
  refine ⟨z, f, rfl, ?_, rfl, fun _ _ => rfl⟩
  intro k x hx
  have hk : k < 43 := (List.getElem?_eq_some_iff.mp hx).1
  match k, hk, hx with
  | 0, _, hx => have hx := Option.some.inj hx; subst hx; exact a0
  | 1, _, hx => have hx := Option.some.inj hx; subst hx; exact a1
  | 2, _, hx => have hx := Option.some.inj hx; subst hx; exact a2
  | 3, _, hx => have hx := Option.some.inj hx; subst hx; exact a3
  | 4, _, hx => have hx := Option.some.inj hx; subst hx; exact a4
  | 5, _, hx => have hx := Option.some.inj hx; subst hx; exact a5
  | 6, _, hx => have hx := Option.some.inj hx; subst hx; exact a6
  | 7, _, hx => have hx := Option.some.inj hx; subst hx; exact a7
  | 8, _, hx => have hx := Option.some.inj hx; subst hx; exact a8
  | 9, _, hx => have hx := Option.some.inj hx; subst hx; exact a9
  | 10, _, hx => have hx := Option.some.inj hx; subst hx; exact a10
  | 11, _, hx => have hx := Option.some.inj hx; subst hx; exact a11
  | 12, _, hx => have hx := Option.some.inj hx; subst hx; exact a12
  | 13, _, hx => have hx := Option.some.inj hx; subst hx; exact a13
  | 14, _, hx => have hx := Option.some.inj hx; subst hx; exact a14
  | 15, _, hx => have hx := Option.some.inj hx; subst hx; exact a15
  | 16, _, hx => have hx := Option.some.inj hx; subst hx; exact a16
  | 17, _, hx => have hx := Option.some.inj hx; subst hx; exact a17
  | 18, _, hx => have hx := Option.some.inj hx; subst hx; exact a18
  | 19, _, hx => have hx := Option.some.inj hx; subst hx; exact a19
  | 20, _, hx => have hx := Option.some.inj hx; subst hx; exact a20
  | 21, _, hx => have hx := Option.some.inj hx; subst hx; exact a21
  | 22, _, hx => have hx := Option.some.inj hx; subst hx; exact a22
  | 23, _, hx => have hx := Option.some.inj hx; subst hx; exact a23
  | 24, _, hx => have hx := Option.some.inj hx; subst hx; exact a24
  | 25, _, hx => have hx := Option.some.inj hx; subst hx; exact a25
  | 26, _, hx => have hx := Option.some.inj hx; subst hx; exact a26
  | 27, _, hx => have hx := Option.some.inj hx; subst hx; exact a27
  | 28, _, hx => have hx := Option.some.inj hx; subst hx; exact a28
  | 29, _, hx => have hx := Option.some.inj hx; subst hx; exact a29
  | 30, _, hx => have hx := Option.some.inj hx; subst hx; exact a30
  | 31, _, hx => have hx := Option.some.inj hx; subst hx; exact a31
  | 32, _, hx => have hx := Option.some.inj hx; subst hx; exact a32
  | 33, _, hx => have hx := Option.some.inj hx; subst hx; exact a33
  | 34, _, hx => have hx := Option.some.inj hx; subst hx; exact a34
  | 35, _, hx => have hx := Option.some.inj hx; subst hx; exact a35
  | 36, _, hx => have hx := Option.some.inj hx; subst hx; exact a36
  | 37, _, hx => have hx := Option.some.inj hx; subst hx; exact a37
  | 38, _, hx => have hx := Option.some.inj hx; subst hx; exact a38
  | 39, _, hx => have hx := Option.some.inj hx; subst hx; exact a39
  | 40, _, hx => have hx := Option.some.inj hx; subst hx; exact a40
  | 41, _, hx => have hx := Option.some.inj hx; subst hx; exact a41
  | 42, _, hx => have hx := Option.some.inj hx; subst hx; exact a42
