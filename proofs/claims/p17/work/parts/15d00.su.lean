/-- J6_bitCount_0f7a4 -/
def kc_q0 : SU := (79, 1, [.inr (.inr (.inr (0, 4294967295)))], some (2147483648, 2147483711), [])
set_option maxRecDepth 1000000 in
theorem kc_q0_ok (l : Launch) (G : PG) (lam : Nat → Nat) (hl : LAMC lam) : SUOK lam TCl EXT l G kc_q0 := chk_ok (sums := []) (F := 20000) MT_ok (fun _ _ _ _ => trivial) (hiL hl (by decide +kernel)) sun (by decide +kernel)
/-- J6_compare_7cf53 -/
def kc_q1 : SU := (9, 1, [.inr (.inr (.inr (0, 4294967295))), .inr (.inr (.inr (0, 4294967295)))], some (2147483647, 2147483649), [])
set_option maxRecDepth 1000000 in
theorem kc_q1_ok (l : Launch) (G : PG) (lam : Nat → Nat) (hl : LAMC lam) : SUOK lam TCl EXT l G kc_q1 := chk_ok (sums := []) (F := 20000) MT_ok (fun _ _ _ _ => trivial) (hiL hl (by decide +kernel)) sun (by decide +kernel)
/-- X8_number -/
def kc_q2 : SU := (18, 1, [.inr (.inl (some 103)), .inr (.inr (.inr (0, 4294967295))), .inr (.inr (.inr (0, 4294967295)))], some (0, 4294967295), [])
set_option maxRecDepth 1000000 in
theorem kc_q2_ok (l : Launch) (G : PG) (lam : Nat → Nat) (hl : LAMC lam) : SUOK lam TCl EXT l G kc_q2 := chk_ok (sums := []) (F := 20000) MT_ok (fun _ _ _ _ => trivial) (hiL hl (by decide +kernel)) sun (by decide +kernel)
/-- X8_number -/
def kc_q3 : SU := (18, 1, [.inr (.inl (some 106)), .inr (.inr (.inr (0, 4294967295))), .inr (.inr (.inr (0, 4294967295)))], some (0, 4294967295), [])
set_option maxRecDepth 1000000 in
theorem kc_q3_ok (l : Launch) (G : PG) (lam : Nat → Nat) (hl : LAMC lam) : SUOK lam TCl EXT l G kc_q3 := chk_ok (sums := []) (F := 20000) MT_ok (fun _ _ _ _ => trivial) (hiL hl (by decide +kernel)) sun (by decide +kernel)
/-- X8_number -/
def kc_q4 : SU := (18, 1, [.inr (.inl (some 109)), .inr (.inr (.inr (0, 4294967295))), .inr (.inr (.inr (0, 4294967295)))], some (0, 4294967295), [])
set_option maxRecDepth 1000000 in
theorem kc_q4_ok (l : Launch) (G : PG) (lam : Nat → Nat) (hl : LAMC lam) : SUOK lam TCl EXT l G kc_q4 := chk_ok (sums := []) (F := 20000) MT_ok (fun _ _ _ _ => trivial) (hiL hl (by decide +kernel)) sun (by decide +kernel)
/-- X8_number -/
def kc_q5 : SU := (18, 1, [.inr (.inl (some 112)), .inr (.inr (.inr (0, 4294967295))), .inr (.inr (.inr (0, 4294967295)))], some (0, 4294967295), [])
set_option maxRecDepth 1000000 in
theorem kc_q5_ok (l : Launch) (G : PG) (lam : Nat → Nat) (hl : LAMC lam) : SUOK lam TCl EXT l G kc_q5 := chk_ok (sums := []) (F := 20000) MT_ok (fun _ _ _ _ => trivial) (hiL hl (by decide +kernel)) sun (by decide +kernel)
/-- X8_join -/
def kc_q6 : SU := (21, 1, [.inr (.inr (.inr (0, 4294967295))), .inr (.inr (.inr (0, 4294967295))), .inr (.inr (.inr (0, 4294967295)))], some (0, 4294967295), [])
set_option maxRecDepth 1000000 in
theorem kc_q6_ok (l : Launch) (G : PG) (lam : Nat → Nat) (hl : LAMC lam) : SUOK lam TCl EXT l G kc_q6 := chk_ok (sums := []) (F := 20000) MT_ok (fun _ _ _ _ => trivial) (hiL hl (by decide +kernel)) sun (by decide +kernel)
/-- X8_part -/
def kc_q7 : SU := (20, 1, [.inr (.inr (.inr (0, 4294967295))), .inr (.inr (.inr (0, 2147483647)))], some (0, 4294967295), [])
set_option maxRecDepth 1000000 in
theorem kc_q7_ok (l : Launch) (G : PG) (lam : Nat → Nat) (hl : LAMC lam) : SUOK lam TCl EXT l G kc_q7 := chk_ok (sums := []) (F := 20000) MT_ok (fun _ _ _ _ => trivial) (hiL hl (by decide +kernel)) sun (by decide +kernel)
/-- X8_part -/
def kc_q8 : SU := (20, 1, [.inr (.inr (.inr (0, 4294967295))), .inr (.inr (.inr (2147483648, 2147483648)))], some (2147483648, 2147483648), [])
set_option maxRecDepth 1000000 in
theorem kc_q8_ok (l : Launch) (G : PG) (lam : Nat → Nat) (hl : LAMC lam) : SUOK lam TCl EXT l G kc_q8 := chk_ok (sums := []) (F := 20000) MT_ok (fun _ _ _ _ => trivial) (hiL hl (by decide +kernel)) sun (by decide +kernel)
/-- X8_part -/
def kc_q9 : SU := (20, 1, [.inr (.inr (.inr (0, 4294967295))), .inr (.inr (.inr (2147483649, 4294967295)))], some (0, 4294967295), [])
set_option maxRecDepth 1000000 in
theorem kc_q9_ok (l : Launch) (G : PG) (lam : Nat → Nat) (hl : LAMC lam) : SUOK lam TCl EXT l G kc_q9 := chk_ok (sums := []) (F := 20000) MT_ok (fun _ _ _ _ => trivial) (hiL hl (by decide +kernel)) sun (by decide +kernel)
/-- X8_part -/
def kc_q10 : SU := (20, 1, [.inr (.inr (.inr (0, 4294967295))), .inr (.inr (.inr (0, 4294967295)))], some (0, 4294967295), [])
theorem kc_q10_ok (l : Launch) (G : PG) (lam : Nat → Nat) (hl : LAMC lam) : SUOK lam TCl EXT l G kc_q10 := by
  intro cAs h hA hT hX
  obtain ⟨a, r1, rfl, ha, hA1⟩ := R2.uncons hA
  obtain ⟨b, r2, rfl, ⟨z, rfl, hz⟩, hA2⟩ := R2.uncons hA1
  by_cases h1 : ky z ≤ 2147483647
  · obtain ⟨Φ, p1, p2⟩ := kc_q7_ok l G lam hl (a :: vI z :: r2) h ⟨ha, ⟨z, rfl, hz.1, h1⟩, hA2⟩ hT hX
    exact ⟨Φ, p1, fun r h' q => ⟨by obtain ⟨w, e1, e2⟩ := (p2 r h' q).1; exact ⟨w, e1, inb_top w⟩, (p2 r h' q).2⟩⟩
  · by_cases h2 : ky z = 2147483648
    · obtain ⟨Φ, p1, p2⟩ := kc_q8_ok l G lam hl (a :: vI z :: r2) h ⟨ha, ⟨z, rfl, by omega, by omega⟩, hA2⟩ hT hX
      exact ⟨Φ, p1, fun r h' q => ⟨by obtain ⟨w, e1, e2⟩ := (p2 r h' q).1; exact ⟨w, e1, inb_top w⟩, (p2 r h' q).2⟩⟩
    · obtain ⟨Φ, p1, p2⟩ := kc_q9_ok l G lam hl (a :: vI z :: r2) h ⟨ha, ⟨z, rfl, by omega, hz.2⟩, hA2⟩ hT hX
      exact ⟨Φ, p1, fun r h' q => ⟨by obtain ⟨w, e1, e2⟩ := (p2 r h' q).1; exact ⟨w, e1, inb_top w⟩, (p2 r h' q).2⟩⟩
/-- X8_run -/
def kc_q11 : SU := (19, 2, [.inr (.inl (some 103)), .inr (.inr (.inr (0, 4294967295))), .inr (.inr (.inr (0, 4294967295))), .inr (.inl (some 96)), .inr (.inl (some 97))], some (0, 4294967295), [(97, 999)])
set_option maxRecDepth 1000000 in
theorem kc_q11_ok (l : Launch) (G : PG) (lam : Nat → Nat) (hl : LAMC lam) : SUOK lam TCl EXT l G kc_q11 := chk_ok (sums := [kc_q6, kc_q10]) (F := 20000) MT_ok (fun _ _ _ _ => trivial) (hiL hl (by decide +kernel)) (suc (kc_q6_ok l G lam hl) (suc (kc_q10_ok l G lam hl) sun)) (by decide +kernel)
/-- X8_tells -/
def kc_q12 : SU := (17, 3, [.inr (.inl (some 103)), .inr (.inr (.inr (0, 4294967295))), .inr (.inr (.inr (0, 4294967295))), .inr (.inl (some 96)), .inr (.inl (some 97))], some (0, 4294967295), [(97, 999)])
set_option maxRecDepth 1000000 in
theorem kc_q12_ok (l : Launch) (G : PG) (lam : Nat → Nat) (hl : LAMC lam) : SUOK lam TCl EXT l G kc_q12 := chk_ok (sums := [kc_q2, kc_q11]) (F := 20000) MT_ok (fun _ _ _ _ => trivial) (hiL hl (by decide +kernel)) (suc (kc_q2_ok l G lam hl) (suc (kc_q11_ok l G lam hl) sun)) (by decide +kernel)
/-- X8_run -/
def kc_q13 : SU := (19, 2, [.inr (.inl (some 103)), .inr (.inr (.inr (0, 4294967295))), .inr (.inr (.inr (0, 4294967295))), .inr (.inl (some 100)), .inr (.inl (some 101))], some (0, 4294967295), [(101, 999)])
set_option maxRecDepth 1000000 in
theorem kc_q13_ok (l : Launch) (G : PG) (lam : Nat → Nat) (hl : LAMC lam) : SUOK lam TCl EXT l G kc_q13 := chk_ok (sums := [kc_q6, kc_q10]) (F := 20000) MT_ok (fun _ _ _ _ => trivial) (hiL hl (by decide +kernel)) (suc (kc_q6_ok l G lam hl) (suc (kc_q10_ok l G lam hl) sun)) (by decide +kernel)
/-- X8_tells -/
def kc_q14 : SU := (17, 3, [.inr (.inl (some 103)), .inr (.inr (.inr (0, 4294967295))), .inr (.inr (.inr (0, 4294967295))), .inr (.inl (some 100)), .inr (.inl (some 101))], some (0, 4294967295), [(101, 999)])
set_option maxRecDepth 1000000 in
theorem kc_q14_ok (l : Launch) (G : PG) (lam : Nat → Nat) (hl : LAMC lam) : SUOK lam TCl EXT l G kc_q14 := chk_ok (sums := [kc_q2, kc_q13]) (F := 20000) MT_ok (fun _ _ _ _ => trivial) (hiL hl (by decide +kernel)) (suc (kc_q2_ok l G lam hl) (suc (kc_q13_ok l G lam hl) sun)) (by decide +kernel)
/-- X0_trait -/
def kc_q15 : SU := (13, 2, [.inr (.inl (some 2)), .inr (.inr (.inr (0, 4294967295))), .inr (.inr (.inr (0, 4294967295)))], some (0, 4294967295), [])
set_option maxRecDepth 1000000 in
theorem kc_q15_ok (l : Launch) (G : PG) (lam : Nat → Nat) (hl : LAMC lam) : SUOK lam TCl EXT l G kc_q15 := chk_ok (sums := []) (F := 20000) MT_ok (fun _ _ _ _ => trivial) (hiL hl (by decide +kernel)) sun (by decide +kernel)
/-- X0_setTrait -/
def kc_q16 : SU := (87, 2, [.inr (.inl (some 2)), .inr (.inr (.inr (0, 4294967295))), .inr (.inr (.inr (0, 4294967295))), .inr (.inr (.inr (0, 4294967295)))], none, [(3, 999)])
set_option maxRecDepth 1000000 in
theorem kc_q16_ok (l : Launch) (G : PG) (lam : Nat → Nat) (hl : LAMC lam) : SUOK lam TCl EXT l G kc_q16 := chk_ok (sums := []) (F := 20000) MT_ok (fun _ _ _ _ => trivial) (hiL hl (by decide +kernel)) sun (by decide +kernel)
/-- X0_mark -/
def kc_q17 : SU := (8, 1, [.inr (.inl (some 2)), .inr (.inr (.inr (0, 4294967295)))], some (0, 4294967295), [])
set_option maxRecDepth 1000000 in
theorem kc_q17_ok (l : Launch) (G : PG) (lam : Nat → Nat) (hl : LAMC lam) : SUOK lam TCl EXT l G kc_q17 := chk_ok (sums := []) (F := 20000) MT_ok (fun _ _ _ _ => trivial) (hiL hl (by decide +kernel)) sun (by decide +kernel)
/-- X0_thinMark -/
def kc_q18 : SU := (91, 3, [.inr (.inl (some 2)), .inr (.inr (.inr (0, 4294967295)))], none, [(4, 999)])
set_option maxRecDepth 1000000 in
theorem kc_q18_ok (l : Launch) (G : PG) (lam : Nat → Nat) (hl : LAMC lam) : SUOK lam TCl EXT l G kc_q18 := chk_ok (sums := [kc_q17, kc_q1]) (F := 20000) MT_ok (fun _ _ _ _ => trivial) (hiL hl (by decide +kernel)) (suc (kc_q17_ok l G lam hl) (suc (kc_q1_ok l G lam hl) sun)) (by decide +kernel)
/-- X0_marked -/
def kc_q19 : SU := (6, 1, [.inr (.inl (some 2)), .inr (.inr (.inr (0, 4294967295)))], some (2147483648, 2147483649), [])
set_option maxRecDepth 1000000 in
theorem kc_q19_ok (l : Launch) (G : PG) (lam : Nat → Nat) (hl : LAMC lam) : SUOK lam TCl EXT l G kc_q19 := chk_ok (sums := []) (F := 20000) MT_ok (fun _ _ _ _ => trivial) (hiL hl (by decide +kernel)) sun (by decide +kernel)
/-- X0_depth -/
def kc_q20 : SU := (15, 2, [.inr (.inl (some 2)), .inr (.inr (.inr (0, 4294967295)))], some (2147483648, 2147483663), [])
set_option maxRecDepth 1000000 in
theorem kc_q20_ok (l : Launch) (G : PG) (lam : Nat → Nat) (hl : LAMC lam) : SUOK lam TCl EXT l G kc_q20 := chk_ok (sums := [kc_q17]) (F := 20000) MT_ok (fun _ _ _ _ => trivial) (hiL hl (by decide +kernel)) (suc (kc_q17_ok l G lam hl) sun) (by decide +kernel)
/-- X0_way -/
def kc_q21 : SU := (7, 2, [.inr (.inl (some 2)), .inr (.inr (.inr (0, 4294967295)))], some (2147483647, 2147483649), [])
set_option maxRecDepth 1000000 in
theorem kc_q21_ok (l : Launch) (G : PG) (lam : Nat → Nat) (hl : LAMC lam) : SUOK lam TCl EXT l G kc_q21 := chk_ok (sums := [kc_q17, kc_q1]) (F := 20000) MT_ok (fun _ _ _ _ => trivial) (hiL hl (by decide +kernel)) (suc (kc_q17_ok l G lam hl) (suc (kc_q1_ok l G lam hl) sun)) (by decide +kernel)
/-- X0_owner -/
def kc_q22 : SU := (11, 2, [.inr (.inl (some 2)), .inr (.inr (.inr (0, 4294967295)))], some (0, 4294967295), [])
set_option maxRecDepth 1000000 in
theorem kc_q22_ok (l : Launch) (G : PG) (lam : Nat → Nat) (hl : LAMC lam) : SUOK lam TCl EXT l G kc_q22 := chk_ok (sums := [kc_q17]) (F := 20000) MT_ok (fun _ _ _ _ => trivial) (hiL hl (by decide +kernel)) (suc (kc_q17_ok l G lam hl) sun) (by decide +kernel)
/-- X0_besides -/
def kc_q23 : SU := (16, 2, [.inr (.inl (some 2)), .inr (.inr (.inr (2147483648, 2147483791)))], some (2147483648, 2147483652), [])
set_option maxRecDepth 1000000 in
theorem kc_q23_ok (l : Launch) (G : PG) (lam : Nat → Nat) (hl : LAMC lam) : SUOK lam TCl EXT l G kc_q23 := chk_ok (sums := [kc_q19]) (F := 20000) MT_ok (fun _ _ _ _ => trivial) (hiL hl (by decide +kernel)) (suc (kc_q19_ok l G lam hl) sun) (by decide +kernel)
/-- X0_putMark -/
def kc_q24 : SU := (86, 1, [.inr (.inl (some 2)), .inr (.inr (.inr (0, 4294967295))), .inr (.inr (.inr (0, 4294967295))), .inr (.inr (.inr (0, 4294967295))), .inr (.inr (.inr (0, 4294967295)))], none, [(4, 999)])
set_option maxRecDepth 1000000 in
theorem kc_q24_ok (l : Launch) (G : PG) (lam : Nat → Nat) (hl : LAMC lam) : SUOK lam TCl EXT l G kc_q24 := chk_ok (sums := []) (F := 20000) MT_ok (fun _ _ _ _ => trivial) (hiL hl (by decide +kernel)) sun (by decide +kernel)
/-- X0_takeMark -/
def kc_q25 : SU := (89, 1, [.inr (.inl (some 2)), .inr (.inr (.inr (0, 4294967295)))], none, [(4, 999)])
set_option maxRecDepth 1000000 in
theorem kc_q25_ok (l : Launch) (G : PG) (lam : Nat → Nat) (hl : LAMC lam) : SUOK lam TCl EXT l G kc_q25 := chk_ok (sums := []) (F := 20000) MT_ok (fun _ _ _ _ => trivial) (hiL hl (by decide +kernel)) sun (by decide +kernel)
/-- X0_mayPress -/
def kc_q26 : SU := (84, 3, [.inr (.inl (some 2)), .inr (.inr (.inr (0, 4294967295)))], some (2147483648, 2147483649), [])
set_option maxRecDepth 1000000 in
theorem kc_q26_ok (l : Launch) (G : PG) (lam : Nat → Nat) (hl : LAMC lam) : SUOK lam TCl EXT l G kc_q26 := chk_ok (sums := [kc_q15]) (F := 20000) MT_ok (fun _ _ _ _ => trivial) (hiL hl (by decide +kernel)) (suc (kc_q15_ok l G lam hl) sun) (by decide +kernel)
/-- X0_takeAllMarks -/
def kc_q27 : SU := (88, 2, [.inr (.inl (some 2))], none, [(4, 999)])
set_option maxRecDepth 1000000 in
theorem kc_q27_ok (l : Launch) (G : PG) (lam : Nat → Nat) (hl : LAMC lam) : SUOK lam TCl EXT l G kc_q27 := chk_ok (sums := []) (F := 20000) MT_ok (fun _ _ _ _ => trivial) (hiL hl (by decide +kernel)) sun (by decide +kernel)
/-- X0_countMarks -/
def kc_q28 : SU := (82, 1, [.inr (.inl (some 2))], some (0, 4294967295), [])
set_option maxRecDepth 1000000 in
theorem kc_q28_ok (l : Launch) (G : PG) (lam : Nat → Nat) (hl : LAMC lam) : SUOK lam TCl EXT l G kc_q28 := chk_ok (sums := []) (F := 20000) MT_ok (fun _ _ _ _ => trivial) (hiL hl (by decide +kernel)) sun (by decide +kernel)
/-- X0_drawThousand -/
def kc_q29 : SU := (83, 1, [.inr (.inl (some 2))], some (0, 4294967295), [(2, 8)])
set_option maxRecDepth 1000000 in
theorem kc_q29_ok (l : Launch) (G : PG) (lam : Nat → Nat) (hl : LAMC lam) : SUOK lam TCl EXT l G kc_q29 := chk_ok (sums := []) (F := 20000) MT_ok (fun _ _ _ _ => trivial) (hiL hl (by decide +kernel)) sun (by decide +kernel)
/-- X0_alike -/
def kc_q31 : SU := (80, 3, [.inr (.inl (some 2)), .inr (.inr (.inr (0, 4294967295))), .inr (.inr (.inr (0, 4294967295)))], some (0, 4294967295), [])
set_option maxRecDepth 1000000 in
theorem kc_q31_ok (l : Launch) (G : PG) (lam : Nat → Nat) (hl : LAMC lam) : SUOK lam TCl EXT l G kc_q31 := chk_ok (sums := [kc_q15, kc_q0]) (F := 20000) MT_ok (fun _ _ _ _ => trivial) (hiL hl (by decide +kernel)) (suc (kc_q15_ok l G lam hl) (suc (kc_q0_ok l G lam hl) sun)) (by decide +kernel)
/-- X0_nearest -/
def kc_q32 : SU := (85, 3, [.inr (.inl (some 2)), .inr (.inr (.inr (0, 4294967295)))], some (2147483647, 4294967294), [])
set_option maxRecDepth 1000000 in
theorem kc_q32_ok (l : Launch) (G : PG) (lam : Nat → Nat) (hl : LAMC lam) : SUOK lam TCl EXT l G kc_q32 := chk_ok (sums := [kc_q15, kc_q0]) (F := 20000) MT_ok (fun _ _ _ _ => trivial) (hiL hl (by decide +kernel)) (suc (kc_q15_ok l G lam hl) (suc (kc_q0_ok l G lam hl) sun)) (by decide +kernel)
/-- X0_trait -/
def kc_q33 : SU := (13, 2, [.inr (.inl (some 83)), .inr (.inr (.inr (0, 4294967295))), .inr (.inr (.inr (0, 4294967295)))], some (0, 4294967295), [])
set_option maxRecDepth 1000000 in
theorem kc_q33_ok (l : Launch) (G : PG) (lam : Nat → Nat) (hl : LAMC lam) : SUOK lam TCl EXT l G kc_q33 := chk_ok (sums := []) (F := 20000) MT_ok (fun _ _ _ _ => trivial) (hiL hl (by decide +kernel)) sun (by decide +kernel)
/-- X0_setTrait -/
def kc_q34 : SU := (87, 2, [.inr (.inl (some 83)), .inr (.inr (.inr (0, 4294967295))), .inr (.inr (.inr (0, 4294967295))), .inr (.inr (.inr (0, 4294967295)))], none, [(84, 999)])
set_option maxRecDepth 1000000 in
theorem kc_q34_ok (l : Launch) (G : PG) (lam : Nat → Nat) (hl : LAMC lam) : SUOK lam TCl EXT l G kc_q34 := chk_ok (sums := []) (F := 20000) MT_ok (fun _ _ _ _ => trivial) (hiL hl (by decide +kernel)) sun (by decide +kernel)
/-- X0_mark -/
def kc_q35 : SU := (8, 1, [.inr (.inl (some 83)), .inr (.inr (.inr (0, 4294967295)))], some (0, 4294967295), [])
set_option maxRecDepth 1000000 in
theorem kc_q35_ok (l : Launch) (G : PG) (lam : Nat → Nat) (hl : LAMC lam) : SUOK lam TCl EXT l G kc_q35 := chk_ok (sums := []) (F := 20000) MT_ok (fun _ _ _ _ => trivial) (hiL hl (by decide +kernel)) sun (by decide +kernel)
/-- X0_thinMark -/
def kc_q36 : SU := (91, 3, [.inr (.inl (some 83)), .inr (.inr (.inr (0, 4294967295)))], none, [(85, 999)])
set_option maxRecDepth 1000000 in
theorem kc_q36_ok (l : Launch) (G : PG) (lam : Nat → Nat) (hl : LAMC lam) : SUOK lam TCl EXT l G kc_q36 := chk_ok (sums := [kc_q35, kc_q1]) (F := 20000) MT_ok (fun _ _ _ _ => trivial) (hiL hl (by decide +kernel)) (suc (kc_q35_ok l G lam hl) (suc (kc_q1_ok l G lam hl) sun)) (by decide +kernel)
/-- X0_marked -/
def kc_q37 : SU := (6, 1, [.inr (.inl (some 83)), .inr (.inr (.inr (0, 4294967295)))], some (2147483648, 2147483649), [])
set_option maxRecDepth 1000000 in
theorem kc_q37_ok (l : Launch) (G : PG) (lam : Nat → Nat) (hl : LAMC lam) : SUOK lam TCl EXT l G kc_q37 := chk_ok (sums := []) (F := 20000) MT_ok (fun _ _ _ _ => trivial) (hiL hl (by decide +kernel)) sun (by decide +kernel)
/-- X0_depth -/
def kc_q38 : SU := (15, 2, [.inr (.inl (some 83)), .inr (.inr (.inr (0, 4294967295)))], some (2147483648, 2147483663), [])
set_option maxRecDepth 1000000 in
theorem kc_q38_ok (l : Launch) (G : PG) (lam : Nat → Nat) (hl : LAMC lam) : SUOK lam TCl EXT l G kc_q38 := chk_ok (sums := [kc_q35]) (F := 20000) MT_ok (fun _ _ _ _ => trivial) (hiL hl (by decide +kernel)) (suc (kc_q35_ok l G lam hl) sun) (by decide +kernel)
/-- X0_way -/
def kc_q39 : SU := (7, 2, [.inr (.inl (some 83)), .inr (.inr (.inr (0, 4294967295)))], some (2147483647, 2147483649), [])
set_option maxRecDepth 1000000 in
theorem kc_q39_ok (l : Launch) (G : PG) (lam : Nat → Nat) (hl : LAMC lam) : SUOK lam TCl EXT l G kc_q39 := chk_ok (sums := [kc_q35, kc_q1]) (F := 20000) MT_ok (fun _ _ _ _ => trivial) (hiL hl (by decide +kernel)) (suc (kc_q35_ok l G lam hl) (suc (kc_q1_ok l G lam hl) sun)) (by decide +kernel)
