/-! the list of this row: door -/
abbrev pS : List (Nat × Nat × Nat) := [(22, 1, 57)]
abbrev qS : List (Nat × Nat × Nat) := [(51, 1, 508)]
def kt_party : SU := (173, 3, [.inr (.inl (some 0)), .inr (.inr (.inr (0, 4294967295)))], some (2147483647, 2147483654), [(12, 1), (13, 999)])
theorem kt_party_ok (l : Launch) (G : PG) (lam : Nat → Nat) (hl : LAMC lam) : SUOK lam TCl EXT l G kt_party := chk_ok (sums := []) (F := 20000) MT_ok (fun _ _ _ _ => trivial) (hiL hl (by decide +kernel)) sun (by decide +kernel)
def kt_house : SU := (164, 3, [.inr (.inl (some 0)), .inr (.inr (.inr (0, 4294967295)))], some (2147483647, 2147483664), [(14, 1), (15, 999)])
theorem kt_house_ok (l : Launch) (G : PG) (lam : Nat → Nat) (hl : LAMC lam) : SUOK lam TCl EXT l G kt_house := chk_ok (sums := []) (F := 20000) MT_ok (fun _ _ _ _ => trivial) (hiL hl (by decide +kernel)) sun (by decide +kernel)
def kt_wish : SU := (186, 3, [.inr (.inl (some 0)), .inr (.inr (.inr (0, 4294967295)))], some (2147483647, 2147483663), [(16, 1), (17, 999)])
theorem kt_wish_ok (l : Launch) (G : PG) (lam : Nat → Nat) (hl : LAMC lam) : SUOK lam TCl EXT l G kt_wish := chk_ok (sums := []) (F := 20000) MT_ok (fun _ _ _ _ => trivial) (hiL hl (by decide +kernel)) sun (by decide +kernel)
def kt_name : SU := (170, 3, [.inr (.inl (some 0)), .inr (.inr (.inr (0, 4294967295)))], some (2147483647, 2147483663), [(18, 1), (19, 999)])
theorem kt_name_ok (l : Launch) (G : PG) (lam : Nat → Nat) (hl : LAMC lam) : SUOK lam TCl EXT l G kt_name := chk_ok (sums := []) (F := 20000) MT_ok (fun _ _ _ _ => trivial) (hiL hl (by decide +kernel)) sun (by decide +kernel)
def kt_candle : SU := (153, 3, [.inr (.inl (some 0)), .inr (.inr (.inr (0, 4294967295)))], some (2147483647, 2147483656), [(20, 1), (21, 999)])
theorem kt_candle_ok (l : Launch) (G : PG) (lam : Nat → Nat) (hl : LAMC lam) : SUOK lam TCl EXT l G kt_candle := chk_ok (sums := []) (F := 20000) MT_ok (fun _ _ _ _ => trivial) (hiL hl (by decide +kernel)) sun (by decide +kernel)
def kt_door : SU := (157, 3, [.inr (.inl (some 0)), .inr (.inr (.inr (0, 4294967295))), .inr (.inr (.inr (0, 4294967295)))], some (2147483647, 2147483656), [(22, 1), (23, 999)])
theorem kt_door_ok (l : Launch) (G : PG) (lam : Nat → Nat) (hl : LAMC lam) : SUOK lam TCl EXT l G kt_door := chk_ok (sums := []) (F := 20000) MT_ok (fun _ _ _ _ => trivial) (hiL hl (by decide +kernel)) sun (by decide +kernel)
def kt_stands : SU := (178, 3, [.inr (.inl (some 0)), .inr (.inr (.inr (0, 4294967295)))], some (2147483647, 2147483660), [(24, 1), (25, 999)])
theorem kt_stands_ok (l : Launch) (G : PG) (lam : Nat → Nat) (hl : LAMC lam) : SUOK lam TCl EXT l G kt_stands := chk_ok (sums := []) (F := 20000) MT_ok (fun _ _ _ _ => trivial) (hiL hl (by decide +kernel)) sun (by decide +kernel)
def kt_bill : SU := (150, 3, [.inr (.inl (some 0)), .inr (.inr (.inr (0, 4294967295))), .inr (.inr (.inr (0, 4294967295)))], some (2147483647, 2147483660), [(26, 1), (27, 999)])
theorem kt_bill_ok (l : Launch) (G : PG) (lam : Nat → Nat) (hl : LAMC lam) : SUOK lam TCl EXT l G kt_bill := chk_ok (sums := []) (F := 20000) MT_ok (fun _ _ _ _ => trivial) (hiL hl (by decide +kernel)) sun (by decide +kernel)
def kt_before : SU := (149, 3, [.inr (.inl (some 0)), .inr (.inr (.inr (0, 4294967295))), .inr (.inr (.inr (0, 4294967295)))], some (2147483647, 2147483660), [(28, 1), (29, 999)])
theorem kt_before_ok (l : Launch) (G : PG) (lam : Nat → Nat) (hl : LAMC lam) : SUOK lam TCl EXT l G kt_before := chk_ok (sums := []) (F := 20000) MT_ok (fun _ _ _ _ => trivial) (hiL hl (by decide +kernel)) sun (by decide +kernel)
theorem sbt_C : ∀ n, n < 9 → sb2 (sbC 0 [] 0) TCl (fixF TCl 22 1 (cN n)) = true := by decide +kernel
theorem sbt_R : ∀ n, n < 9 → sb2 (sbC 0 [] 0) TRf (fixF TRf 0 57 (cN n)) = true := by decide +kernel
theorem isF_C : isF TCl 22 1 = true := by decide +kernel
theorem isF_R : isF TRf 0 57 = true := by decide +kernel
theorem tf_0 : chkE TCl TCl (fixF TCl 22 1 (cN 0)) [] MT 20000 (157, 3, [.inr (.inl (some 0)), .inr (.inr (.inr (2147483647, 2147483647))), .inr (.inr (.inr (0, 4294967295)))], some (2147483648, 2147483648), [(22, 1)]) = true := by decide +kernel
theorem rf_0 : chkE TRf TRf (fixF TRf 0 57 (cN 0)) [] MT 20000 (203, 2, [.inr (.inl (some 0)), .inr (.inr (.inr (2147483647, 2147483647))), .inr (.inr (.inr (0, 4294967295)))], some (2147483648, 2147483648), [(0, 0), (0, 57), (33, 999), (34, 999)]) = true := by decide +kernel
theorem tf_1 : ∀ n, n < 8 → chkE (fixF TCl 22 1 (cN n)) TCl (fixF TCl 22 1 (cN (n + 1))) [] MT 20000 (157, 3, [.inr (.inl (some 0)), .inr (.inr (.inr (2147483649, 2147483698))), .inr (.inr (.inr (2147483648, 2147483848)))], some (2147483648 + (n + 1), 2147483648 + (n + 1)), [(22, 1), (23, 999)]) = true := by decide +kernel
theorem tg_1 : chkE (fixF TCl 22 1 (cN 8)) TCl TCl [] MT 20000 (157, 3, [.inr (.inl (some 0)), .inr (.inr (.inr (2147483649, 2147483698))), .inr (.inr (.inr (2147483648, 2147483848)))], some (2147483647, 2147483647), []) = true := by decide +kernel
theorem rf_1 : ∀ n, n < 8 → chkE (fixF TRf 0 57 (cN n)) TRf (fixF TRf 0 57 (cN (n + 1))) [] MT 20000 (203, 2, [.inr (.inl (some 0)), .inr (.inr (.inr (2147483649, 2147483698))), .inr (.inr (.inr (2147483648, 2147483848)))], some (2147483648 + (n + 1), 2147483648 + (n + 1)), [(0, 0), (0, 57), (33, 999), (34, 999)]) = true := by decide +kernel
theorem rg_1 : chkE (fixF TRf 0 57 (cN 8)) TRf TRf [] MT 20000 (203, 2, [.inr (.inl (some 0)), .inr (.inr (.inr (2147483649, 2147483698))), .inr (.inr (.inr (2147483648, 2147483848)))], some (2147483647, 2147483647), [(0, 0)]) = true := by decide +kernel
theorem tf_2 : chkE TCl TCl TCl [] MT 20000 (157, 3, [.inr (.inl (some 0)), .inr (.inr (.inr (0, 2147483646))), .inr (.inr (.inr (0, 4294967295)))], some (2147483647, 2147483647), []) = true := by decide +kernel
theorem rf_2 : chkE TRf TRf TRf [] MT 20000 (203, 2, [.inr (.inl (some 0)), .inr (.inr (.inr (0, 2147483646))), .inr (.inr (.inr (0, 4294967295)))], some (2147483647, 2147483647), [(0, 0)]) = true := by decide +kernel
theorem tf_3 : chkE TCl TCl TCl [] MT 20000 (157, 3, [.inr (.inl (some 0)), .inr (.inr (.inr (2147483648, 2147483648))), .inr (.inr (.inr (0, 4294967295)))], some (2147483647, 2147483647), []) = true := by decide +kernel
theorem rf_3 : chkE TRf TRf TRf [] MT 20000 (203, 2, [.inr (.inl (some 0)), .inr (.inr (.inr (2147483648, 2147483648))), .inr (.inr (.inr (0, 4294967295)))], some (2147483647, 2147483647), [(0, 0)]) = true := by decide +kernel
theorem tf_4 : chkE TCl TCl TCl [] MT 20000 (157, 3, [.inr (.inl (some 0)), .inr (.inr (.inr (2147483699, 4294967295))), .inr (.inr (.inr (0, 4294967295)))], some (2147483647, 2147483647), []) = true := by decide +kernel
theorem rf_4 : chkE TRf TRf TRf [] MT 20000 (203, 2, [.inr (.inl (some 0)), .inr (.inr (.inr (2147483699, 4294967295))), .inr (.inr (.inr (0, 4294967295)))], some (2147483647, 2147483647), [(0, 0)]) = true := by decide +kernel
theorem tf_5 : chkE TCl TCl TCl [] MT 20000 (157, 3, [.inr (.inl (some 0)), .inr (.inr (.inr (2147483649, 2147483698))), .inr (.inr (.inr (0, 2147483647)))], some (2147483647, 2147483647), []) = true := by decide +kernel
theorem rf_5 : chkE TRf TRf TRf [] MT 20000 (203, 2, [.inr (.inl (some 0)), .inr (.inr (.inr (2147483649, 2147483698))), .inr (.inr (.inr (0, 2147483647)))], some (2147483647, 2147483647), [(0, 0)]) = true := by decide +kernel
theorem tf_6 : chkE TCl TCl TCl [] MT 20000 (157, 3, [.inr (.inl (some 0)), .inr (.inr (.inr (2147483649, 2147483698))), .inr (.inr (.inr (2147483849, 4294967295)))], some (2147483647, 2147483647), []) = true := by decide +kernel
theorem rf_6 : chkE TRf TRf TRf [] MT 20000 (203, 2, [.inr (.inl (some 0)), .inr (.inr (.inr (2147483649, 2147483698))), .inr (.inr (.inr (2147483849, 4294967295)))], some (2147483647, 2147483647), [(0, 0)]) = true := by decide +kernel
theorem own_0 (l : Launch) (G : PG) {lam : Nat → Nat} {b nc nm : Nat} {h : PH} (hB : LIB lam b nc nm h) (hR : RLX pS qS b nc nm h) {n : Nat} (hn : n ≤ 8) (g1 : FLD h (nc + 22) 1 (nI n)) (g2 : FLD h nm 57 (nI n)) {x1 x2 : Int32} (c : 2147483647 ≤ ky x1 ∧ ky x1 ≤ 2147483647) : PRX pS qS l G nc nm h 157 3 203 2 [vI x1, vI x2] := by
  have hb1 : b ≤ 1 := by have := hB.1; omega
  have hC : HOK lam [] TCl h := TB_TC hb1 hB.2.2.2.1
  have ecc : lam 22 = nc + 22 := hB.2.2.1 22 (by decide)
  have e0 : lam 0 = nc := hB.2.2.1 0 (by decide)
  have g1' : FLD h (lam 22) 1 (nI n) := by rw [ecc]; exact g1
  have l_x1 := ky_lim x1
  have l_x2 := ky_lim x2
  have hs : ∀ h2 : PH, LIB lam b nc nm h2 → HOK (lamM nm) [] TRf h2 := fun h2 q => q.2.2.2.2.1
  exact own_pair l G (n := n) (n' := 0) (v := nI 0) (Wc := [(22, 1), (23, 999)]) (Wr := [(0, 0), (0, 57), (33, 999), (34, 999)]) hB hR g2 (by decide) (by decide) (by decide) (by decide) (owc_n l G tf_0 (by decide) (sbt_C 0 (by decide)) isF_C (by decide) (by decide) hB hC ⟨by rw [← e0]; rfl, ⟨x1, rfl, by omega, by omega⟩, ⟨x2, rfl, by omega, by omega⟩, trivial⟩ (by decide) (fun z hz => inb_nIe (n := 0) (by decide) hz)) (fun h2 hB2 hn2 => owr_n l G rf_0 (by decide) (sbt_R 0 (by decide)) isF_R (by decide) hB2 (hs h2 hB2) ⟨rfl, ⟨x1, rfl, by omega, by omega⟩, ⟨x2, rfl, by omega, by omega⟩, trivial⟩ (by decide) (fun z hz => inb_nIe (n := 0) (by decide) hz))
theorem own_1 (l : Launch) (G : PG) {lam : Nat → Nat} {b nc nm : Nat} {h : PH} (hB : LIB lam b nc nm h) (hR : RLX pS qS b nc nm h) {n : Nat} (hn : n ≤ 8) (g1 : FLD h (nc + 22) 1 (nI n)) (g2 : FLD h nm 57 (nI n)) {x1 x2 : Int32} (c : 2147483649 ≤ ky x1 ∧ ky x1 ≤ 2147483698 ∧ 2147483648 ≤ ky x2 ∧ ky x2 ≤ 2147483848) : PRX pS qS l G nc nm h 157 3 203 2 [vI x1, vI x2] := by
  have hb1 : b ≤ 1 := by have := hB.1; omega
  have hC : HOK lam [] TCl h := TB_TC hb1 hB.2.2.2.1
  have ecc : lam 22 = nc + 22 := hB.2.2.1 22 (by decide)
  have e0 : lam 0 = nc := hB.2.2.1 0 (by decide)
  have g1' : FLD h (lam 22) 1 (nI n) := by rw [ecc]; exact g1
  have l_x1 := ky_lim x1
  have l_x2 := ky_lim x2
  have hs : ∀ h2 : PH, LIB lam b nc nm h2 → HOK (lamM nm) [] TRf h2 := fun h2 q => q.2.2.2.2.1
  by_cases cn : n < 8
  · exact own_pair l G (n := n) (n' := n + 1) (v := nI (n + 1)) (Wc := [(22, 1), (23, 999)]) (Wr := [(0, 0), (0, 57), (33, 999), (34, 999)]) hB hR g2 (by decide) (by decide) (by decide) (by decide) (owc_n l G (tf_1 n cn) (by decide) (sbt_C (n + 1) (by omega)) isF_C (by decide) (by decide) hB (HOK_fixF hC g1' (cN_in (by omega))) ⟨by rw [← e0]; rfl, ⟨x1, rfl, by omega, by omega⟩, ⟨x2, rfl, by omega, by omega⟩, trivial⟩ (by omega) (fun z hz => inb_nIe (by omega) hz)) (fun h2 hB2 hn2 => owr_n l G (rf_1 n cn) (by decide) (sbt_R (n + 1) (by omega)) isF_R (by decide) hB2 (HOK_fixF (hs h2 hB2) (k := 0) hn2 (cN_in (by omega))) ⟨rfl, ⟨x1, rfl, by omega, by omega⟩, ⟨x2, rfl, by omega, by omega⟩, trivial⟩ (by omega) (fun z hz => inb_nIe (by omega) hz))
  · obtain rfl : n = 8 := by omega
    exact own_pair l G (n := 8) (n' := 8) (v := -1) (Wc := [(22, 1), (23, 999)]) (Wr := [(0, 0), (0, 57), (33, 999), (34, 999)]) hB hR g2 (by decide) (by decide) (by decide) (by decide) (owc_s l G tg_1 sb_C hB (HOK_fixF hC g1' (cN_in (by decide))) ⟨by rw [← e0]; rfl, ⟨x1, rfl, by omega, by omega⟩, ⟨x2, rfl, by omega, by omega⟩, trivial⟩ g1 (fun z hz => inb_m1 hz)) (fun h2 hB2 hn2 => owr_s l G rg_1 (by decide) (by decide) sb_R (by decide) hB2 (HOK_fixF (hs h2 hB2) (k := 0) hn2 (cN_in (by decide))) ⟨rfl, ⟨x1, rfl, by omega, by omega⟩, ⟨x2, rfl, by omega, by omega⟩, trivial⟩ hn2 (fun z hz => inb_m1 hz))
theorem own_2 (l : Launch) (G : PG) {lam : Nat → Nat} {b nc nm : Nat} {h : PH} (hB : LIB lam b nc nm h) (hR : RLX pS qS b nc nm h) {n : Nat} (hn : n ≤ 8) (g1 : FLD h (nc + 22) 1 (nI n)) (g2 : FLD h nm 57 (nI n)) {x1 x2 : Int32} (c : ky x1 ≤ 2147483646) : PRX pS qS l G nc nm h 157 3 203 2 [vI x1, vI x2] := by
  have hb1 : b ≤ 1 := by have := hB.1; omega
  have hC : HOK lam [] TCl h := TB_TC hb1 hB.2.2.2.1
  have ecc : lam 22 = nc + 22 := hB.2.2.1 22 (by decide)
  have e0 : lam 0 = nc := hB.2.2.1 0 (by decide)
  have g1' : FLD h (lam 22) 1 (nI n) := by rw [ecc]; exact g1
  have l_x1 := ky_lim x1
  have l_x2 := ky_lim x2
  have hs : ∀ h2 : PH, LIB lam b nc nm h2 → HOK (lamM nm) [] TRf h2 := fun h2 q => q.2.2.2.2.1
  exact own_pair l G (n := n) (n' := n) (v := -1) (Wc := [(22, 1), (23, 999)]) (Wr := [(0, 0), (0, 57), (33, 999), (34, 999)]) hB hR g2 (by decide) (by decide) (by decide) (by decide) (owc_s l G tf_2 sb_C hB hC ⟨by rw [← e0]; rfl, ⟨x1, rfl, by omega, by omega⟩, ⟨x2, rfl, by omega, by omega⟩, trivial⟩ g1 (fun z hz => inb_m1 hz)) (fun h2 hB2 hn2 => owr_s l G rf_2 (by decide) (by decide) sb_R (by decide) hB2 (hs h2 hB2) ⟨rfl, ⟨x1, rfl, by omega, by omega⟩, ⟨x2, rfl, by omega, by omega⟩, trivial⟩ hn2 (fun z hz => inb_m1 hz))
theorem own_3 (l : Launch) (G : PG) {lam : Nat → Nat} {b nc nm : Nat} {h : PH} (hB : LIB lam b nc nm h) (hR : RLX pS qS b nc nm h) {n : Nat} (hn : n ≤ 8) (g1 : FLD h (nc + 22) 1 (nI n)) (g2 : FLD h nm 57 (nI n)) {x1 x2 : Int32} (c : 2147483648 ≤ ky x1 ∧ ky x1 ≤ 2147483648) : PRX pS qS l G nc nm h 157 3 203 2 [vI x1, vI x2] := by
  have hb1 : b ≤ 1 := by have := hB.1; omega
  have hC : HOK lam [] TCl h := TB_TC hb1 hB.2.2.2.1
  have ecc : lam 22 = nc + 22 := hB.2.2.1 22 (by decide)
  have e0 : lam 0 = nc := hB.2.2.1 0 (by decide)
  have g1' : FLD h (lam 22) 1 (nI n) := by rw [ecc]; exact g1
  have l_x1 := ky_lim x1
  have l_x2 := ky_lim x2
  have hs : ∀ h2 : PH, LIB lam b nc nm h2 → HOK (lamM nm) [] TRf h2 := fun h2 q => q.2.2.2.2.1
  exact own_pair l G (n := n) (n' := n) (v := -1) (Wc := [(22, 1), (23, 999)]) (Wr := [(0, 0), (0, 57), (33, 999), (34, 999)]) hB hR g2 (by decide) (by decide) (by decide) (by decide) (owc_s l G tf_3 sb_C hB hC ⟨by rw [← e0]; rfl, ⟨x1, rfl, by omega, by omega⟩, ⟨x2, rfl, by omega, by omega⟩, trivial⟩ g1 (fun z hz => inb_m1 hz)) (fun h2 hB2 hn2 => owr_s l G rf_3 (by decide) (by decide) sb_R (by decide) hB2 (hs h2 hB2) ⟨rfl, ⟨x1, rfl, by omega, by omega⟩, ⟨x2, rfl, by omega, by omega⟩, trivial⟩ hn2 (fun z hz => inb_m1 hz))
theorem own_4 (l : Launch) (G : PG) {lam : Nat → Nat} {b nc nm : Nat} {h : PH} (hB : LIB lam b nc nm h) (hR : RLX pS qS b nc nm h) {n : Nat} (hn : n ≤ 8) (g1 : FLD h (nc + 22) 1 (nI n)) (g2 : FLD h nm 57 (nI n)) {x1 x2 : Int32} (c : 2147483699 ≤ ky x1) : PRX pS qS l G nc nm h 157 3 203 2 [vI x1, vI x2] := by
  have hb1 : b ≤ 1 := by have := hB.1; omega
  have hC : HOK lam [] TCl h := TB_TC hb1 hB.2.2.2.1
  have ecc : lam 22 = nc + 22 := hB.2.2.1 22 (by decide)
  have e0 : lam 0 = nc := hB.2.2.1 0 (by decide)
  have g1' : FLD h (lam 22) 1 (nI n) := by rw [ecc]; exact g1
  have l_x1 := ky_lim x1
  have l_x2 := ky_lim x2
  have hs : ∀ h2 : PH, LIB lam b nc nm h2 → HOK (lamM nm) [] TRf h2 := fun h2 q => q.2.2.2.2.1
  exact own_pair l G (n := n) (n' := n) (v := -1) (Wc := [(22, 1), (23, 999)]) (Wr := [(0, 0), (0, 57), (33, 999), (34, 999)]) hB hR g2 (by decide) (by decide) (by decide) (by decide) (owc_s l G tf_4 sb_C hB hC ⟨by rw [← e0]; rfl, ⟨x1, rfl, by omega, by omega⟩, ⟨x2, rfl, by omega, by omega⟩, trivial⟩ g1 (fun z hz => inb_m1 hz)) (fun h2 hB2 hn2 => owr_s l G rf_4 (by decide) (by decide) sb_R (by decide) hB2 (hs h2 hB2) ⟨rfl, ⟨x1, rfl, by omega, by omega⟩, ⟨x2, rfl, by omega, by omega⟩, trivial⟩ hn2 (fun z hz => inb_m1 hz))
theorem own_5 (l : Launch) (G : PG) {lam : Nat → Nat} {b nc nm : Nat} {h : PH} (hB : LIB lam b nc nm h) (hR : RLX pS qS b nc nm h) {n : Nat} (hn : n ≤ 8) (g1 : FLD h (nc + 22) 1 (nI n)) (g2 : FLD h nm 57 (nI n)) {x1 x2 : Int32} (c : 2147483649 ≤ ky x1 ∧ ky x1 ≤ 2147483698 ∧ ky x2 ≤ 2147483647) : PRX pS qS l G nc nm h 157 3 203 2 [vI x1, vI x2] := by
  have hb1 : b ≤ 1 := by have := hB.1; omega
  have hC : HOK lam [] TCl h := TB_TC hb1 hB.2.2.2.1
  have ecc : lam 22 = nc + 22 := hB.2.2.1 22 (by decide)
  have e0 : lam 0 = nc := hB.2.2.1 0 (by decide)
  have g1' : FLD h (lam 22) 1 (nI n) := by rw [ecc]; exact g1
  have l_x1 := ky_lim x1
  have l_x2 := ky_lim x2
  have hs : ∀ h2 : PH, LIB lam b nc nm h2 → HOK (lamM nm) [] TRf h2 := fun h2 q => q.2.2.2.2.1
  exact own_pair l G (n := n) (n' := n) (v := -1) (Wc := [(22, 1), (23, 999)]) (Wr := [(0, 0), (0, 57), (33, 999), (34, 999)]) hB hR g2 (by decide) (by decide) (by decide) (by decide) (owc_s l G tf_5 sb_C hB hC ⟨by rw [← e0]; rfl, ⟨x1, rfl, by omega, by omega⟩, ⟨x2, rfl, by omega, by omega⟩, trivial⟩ g1 (fun z hz => inb_m1 hz)) (fun h2 hB2 hn2 => owr_s l G rf_5 (by decide) (by decide) sb_R (by decide) hB2 (hs h2 hB2) ⟨rfl, ⟨x1, rfl, by omega, by omega⟩, ⟨x2, rfl, by omega, by omega⟩, trivial⟩ hn2 (fun z hz => inb_m1 hz))
theorem own_6 (l : Launch) (G : PG) {lam : Nat → Nat} {b nc nm : Nat} {h : PH} (hB : LIB lam b nc nm h) (hR : RLX pS qS b nc nm h) {n : Nat} (hn : n ≤ 8) (g1 : FLD h (nc + 22) 1 (nI n)) (g2 : FLD h nm 57 (nI n)) {x1 x2 : Int32} (c : 2147483649 ≤ ky x1 ∧ ky x1 ≤ 2147483698 ∧ 2147483849 ≤ ky x2) : PRX pS qS l G nc nm h 157 3 203 2 [vI x1, vI x2] := by
  have hb1 : b ≤ 1 := by have := hB.1; omega
  have hC : HOK lam [] TCl h := TB_TC hb1 hB.2.2.2.1
  have ecc : lam 22 = nc + 22 := hB.2.2.1 22 (by decide)
  have e0 : lam 0 = nc := hB.2.2.1 0 (by decide)
  have g1' : FLD h (lam 22) 1 (nI n) := by rw [ecc]; exact g1
  have l_x1 := ky_lim x1
  have l_x2 := ky_lim x2
  have hs : ∀ h2 : PH, LIB lam b nc nm h2 → HOK (lamM nm) [] TRf h2 := fun h2 q => q.2.2.2.2.1
  exact own_pair l G (n := n) (n' := n) (v := -1) (Wc := [(22, 1), (23, 999)]) (Wr := [(0, 0), (0, 57), (33, 999), (34, 999)]) hB hR g2 (by decide) (by decide) (by decide) (by decide) (owc_s l G tf_6 sb_C hB hC ⟨by rw [← e0]; rfl, ⟨x1, rfl, by omega, by omega⟩, ⟨x2, rfl, by omega, by omega⟩, trivial⟩ g1 (fun z hz => inb_m1 hz)) (fun h2 hB2 hn2 => owr_s l G rf_6 (by decide) (by decide) sb_R (by decide) hB2 (hs h2 hB2) ⟨rfl, ⟨x1, rfl, by omega, by omega⟩, ⟨x2, rfl, by omega, by omega⟩, trivial⟩ hn2 (fun z hz => inb_m1 hz))
theorem own_row (l : Launch) (G : PG) {nc nm : Nat} {h : PH} (hI : LIX pS qS nc nm h) (x1 x2 : Int32) : PRX pS qS l G nc nm h 157 3 203 2 [vI x1, vI x2] := by
  obtain ⟨lam, b, hB, hR⟩ := hI
  obtain ⟨v, g1, g2⟩ := hR.1 (22, 1, 57) (List.mem_singleton.mpr rfl)
  have hb1 : b ≤ 1 := by have := hB.1; omega
  have hC : HOK lam [] TCl h := TB_TC hb1 hB.2.2.2.1
  have ecc : lam 22 = nc + 22 := hB.2.2.1 22 (by decide)
  obtain ⟨n, hn, rfl⟩ : ∃ n, n ≤ 8 ∧ v = nI n := by
    obtain ⟨y, q1, q2⟩ := HOK_fld (k := 22) (j := 1) hC rfl rfl
    rw [ecc] at q1
    cases FLD.inj g1 q1
    exact nI_of_inb (by decide) q2
  have l_x1 := ky_lim x1
  have l_x2 := ky_lim x2
  rcases (show (2147483647 ≤ ky x1 ∧ ky x1 ≤ 2147483647) ∨ (2147483649 ≤ ky x1 ∧ ky x1 ≤ 2147483698 ∧ 2147483648 ≤ ky x2 ∧ ky x2 ≤ 2147483848) ∨ (ky x1 ≤ 2147483646) ∨ (2147483648 ≤ ky x1 ∧ ky x1 ≤ 2147483648) ∨ (2147483699 ≤ ky x1) ∨ (2147483649 ≤ ky x1 ∧ ky x1 ≤ 2147483698 ∧ ky x2 ≤ 2147483647) ∨ (2147483649 ≤ ky x1 ∧ ky x1 ≤ 2147483698 ∧ 2147483849 ≤ ky x2) by omega) with c | c | c | c | c | c | c
  · exact own_0 l G hB hR hn g1 g2 c
  · exact own_1 l G hB hR hn g1 g2 c
  · exact own_2 l G hB hR hn g1 g2 c
  · exact own_3 l G hB hR hn g1 g2 c
  · exact own_4 l G hB hR hn g1 g2 c
  · exact own_5 l G hB hR hn g1 g2 c
  · exact own_6 l G hB hR hn g1 g2 c
