/-- X4_seatsOf -/
def kc_q120 : SU := (114, 2, [.inr (.inl (some 89)), .inr (.inl (some 12)), .inr (.inr (.inr (2147483649, 2147483688))), .inr (.inr (.inr (2147483648, 2147483649))), .inr (.inr (.inr (0, 4294967295)))], some (0, 4294967295), [(90, 999)])
set_option maxRecDepth 1000000 in
theorem kc_q120_ok (l : Launch) (G : PG) (lam : Nat → Nat) (hl : LAMC lam) : SUOK lam TCl EXT l G kc_q120 := chk_ok (sums := [kc_q84]) (F := 20000) MT_ok (fun _ _ _ _ => trivial) (hiL hl (by decide +kernel)) (suc (kc_q84_ok l G lam hl) sun) (by decide +kernel)
/-- X4_lastParish -/
def kc_q121 : SU := (108, 1, [.inr (.inl (some 89)), .inr (.inr (.inr (2147483648, 2147483664))), .inr (.inr (.inr (2147483648, 2147483649)))], some (0, 4294967295), [])
set_option maxRecDepth 1000000 in
theorem kc_q121_ok (l : Launch) (G : PG) (lam : Nat → Nat) (hl : LAMC lam) : SUOK lam TCl EXT l G kc_q121 := chk_ok (sums := []) (F := 20000) MT_ok (fun _ _ _ _ => trivial) (hiL hl (by decide +kernel)) sun (by decide +kernel)
/-- X4_parishesFor -/
def kc_q122 : SU := (113, 2, [.inr (.inl (some 89)), .inr (.inl (some 14)), .inr (.inr (.inr (2147483649, 2147483656))), .inr (.inr (.inr (2147483648, 2147483649)))], some (0, 4294967295), [(90, 999), (91, 999)])
set_option maxRecDepth 1000000 in
theorem kc_q122_ok (l : Launch) (G : PG) (lam : Nat → Nat) (hl : LAMC lam) : SUOK lam TCl EXT l G kc_q122 := chk_ok (sums := [kc_q86, kc_q121]) (F := 20000) MT_ok (fun _ _ _ _ => trivial) (hiL hl (by decide +kernel)) (suc (kc_q86_ok l G lam hl) (suc (kc_q121_ok l G lam hl) sun)) (by decide +kernel)
/-- X4_middleOf -/
def kc_q123 : SU := (109, 2, [.inr (.inl (some 89)), .inr (.inl (some 16))], some (2147483647, 2147483747), [])
set_option maxRecDepth 1000000 in
theorem kc_q123_ok (l : Launch) (G : PG) (lam : Nat → Nat) (hl : LAMC lam) : SUOK lam TCl EXT l G kc_q123 := chk_ok (sums := [kc_q88]) (F := 20000) MT_ok (fun _ _ _ _ => trivial) (hiL hl (by decide +kernel)) (suc (kc_q88_ok l G lam hl) sun) (by decide +kernel)
/-- X4_farFromMiddle -/
def kc_q124 : SU := (106, 3, [.inr (.inl (some 89)), .inr (.inl (some 16))], some (0, 4294967295), [])
set_option maxRecDepth 1000000 in
theorem kc_q124_ok (l : Launch) (G : PG) (lam : Nat → Nat) (hl : LAMC lam) : SUOK lam TCl EXT l G kc_q124 := chk_ok (sums := [kc_q123, kc_q88]) (F := 20000) MT_ok (fun _ _ _ _ => trivial) (hiL hl (by decide +kernel)) (suc (kc_q123_ok l G lam hl) (suc (kc_q88_ok l G lam hl) sun)) (by decide +kernel)
/-- X4_timesTold -/
def kc_q125 : SU := (117, 2, [.inr (.inl (some 18)), .inr (.inr (.inr (0, 4294967295)))], some (0, 4294967295), [])
set_option maxRecDepth 1000000 in
theorem kc_q125_ok (l : Launch) (G : PG) (lam : Nat → Nat) (hl : LAMC lam) : SUOK lam TCl EXT l G kc_q125 := chk_ok (sums := [kc_q90]) (F := 20000) MT_ok (fun _ _ _ _ => trivial) (hiL hl (by decide +kernel)) (suc (kc_q90_ok l G lam hl) sun) (by decide +kernel)
/-- X4_moreThanHalf -/
def kc_q126 : SU := (110, 3, [.inr (.inl (some 89)), .inr (.inl (some 18))], some (2147483647, 2147483657), [])
set_option maxRecDepth 1000000 in
theorem kc_q126_ok (l : Launch) (G : PG) (lam : Nat → Nat) (hl : LAMC lam) : SUOK lam TCl EXT l G kc_q126 := chk_ok (sums := [kc_q125]) (F := 20000) MT_ok (fun _ _ _ _ => trivial) (hiL hl (by decide +kernel)) (suc (kc_q125_ok l G lam hl) sun) (by decide +kernel)
/-- X4_mostTold -/
def kc_q127 : SU := (112, 3, [.inr (.inl (some 89)), .inr (.inl (some 18))], some (2147483648, 4294967295), [])
set_option maxRecDepth 1000000 in
theorem kc_q127_ok (l : Launch) (G : PG) (lam : Nat → Nat) (hl : LAMC lam) : SUOK lam TCl EXT l G kc_q127 := chk_ok (sums := [kc_q125]) (F := 20000) MT_ok (fun _ _ _ _ => trivial) (hiL hl (by decide +kernel)) (suc (kc_q125_ok l G lam hl) sun) (by decide +kernel)
/-- X4_sums -/
def kc_q128 : SU := (116, 2, [.inr (.inl (some 89)), .inr (.inl (some 20)), .inr (.inr (.inr (2147483648, 2147484048))), .inr (.inr (.inr (2147483648, 2147483649)))], some (0, 4294967295), [(90, 999)])
set_option maxRecDepth 1000000 in
theorem kc_q128_ok (l : Launch) (G : PG) (lam : Nat → Nat) (hl : LAMC lam) : SUOK lam TCl EXT l G kc_q128 := chk_ok (sums := [kc_q92]) (F := 20000) MT_ok (fun _ _ _ _ => trivial) (hiL hl (by decide +kernel)) (suc (kc_q92_ok l G lam hl) sun) (by decide +kernel)
/-- X4_mostStacked -/
def kc_q129 : SU := (111, 2, [.inr (.inl (some 89)), .inr (.inl (some 22))], some (2147483648, 2147483711), [(90, 999)])
set_option maxRecDepth 1000000 in
theorem kc_q129_ok (l : Launch) (G : PG) (lam : Nat → Nat) (hl : LAMC lam) : SUOK lam TCl EXT l G kc_q129 := chk_ok (sums := [kc_q94, kc_q0]) (F := 20000) MT_ok (fun _ _ _ _ => trivial) (hiL hl (by decide +kernel)) (suc (kc_q94_ok l G lam hl) (suc (kc_q0_ok l G lam hl) sun)) (by decide +kernel)
/-- X4_shown -/
def kc_q130 : SU := (115, 2, [.inr (.inl (some 89)), .inr (.inl (some 24)), .inr (.inr (.inr (0, 4294967295))), .inr (.inr (.inr (2147483648, 2147483649)))], some (0, 4294967295), [])
set_option maxRecDepth 1000000 in
theorem kc_q130_ok (l : Launch) (G : PG) (lam : Nat → Nat) (hl : LAMC lam) : SUOK lam TCl EXT l G kc_q130 := chk_ok (sums := [kc_q96]) (F := 20000) MT_ok (fun _ _ _ _ => trivial) (hiL hl (by decide +kernel)) (suc (kc_q96_ok l G lam hl) sun) (by decide +kernel)
/-- X4_goTogether -/
def kc_q131 : SU := (107, 2, [.inr (.inl (some 26)), .inr (.inr (.inr (2147483648, 2147483903)))], some (2147483648, 2147483649), [])
set_option maxRecDepth 1000000 in
theorem kc_q131_ok (l : Launch) (G : PG) (lam : Nat → Nat) (hl : LAMC lam) : SUOK lam TCl EXT l G kc_q131 := chk_ok (sums := [kc_q98]) (F := 20000) MT_ok (fun _ _ _ _ => trivial) (hiL hl (by decide +kernel)) (suc (kc_q98_ok l G lam hl) sun) (by decide +kernel)
/-- X4_together -/
def kc_q132 : SU := (118, 3, [.inr (.inl (some 89)), .inr (.inl (some 26)), .inr (.inr (.inr (0, 4294967295)))], some (0, 4294967295), [])
set_option maxRecDepth 1000000 in
theorem kc_q132_ok (l : Launch) (G : PG) (lam : Nat → Nat) (hl : LAMC lam) : SUOK lam TCl EXT l G kc_q132 := chk_ok (sums := [kc_q131, kc_q0]) (F := 20000) MT_ok (fun _ _ _ _ => trivial) (hiL hl (by decide +kernel)) (suc (kc_q131_ok l G lam hl) (suc (kc_q0_ok l G lam hl) sun)) (by decide +kernel)
/-- X4_rowsOfAll -/
def kc_q133 : SU := (1, 2, [.inr (.inl (some 89)), .inr (.inl (some 28))], some (0, 4294967295), [(90, 999), (91, 999)])
set_option maxRecDepth 1000000 in
theorem kc_q133_ok (l : Launch) (G : PG) (lam : Nat → Nat) (hl : LAMC lam) : SUOK lam TCl EXT l G kc_q133 := chk_ok (sums := [kc_q100]) (F := 20000) MT_ok (fun _ _ _ _ => trivial) (hiL hl (by decide +kernel)) (suc (kc_q100_ok l G lam hl) sun) (by decide +kernel)
/-- X11_cellAt -/
def kc_q134 : SU := (28, 1, [.inr (.inr (.inr (0, 4294967295))), .inr (.inr (.inr (0, 4294967295)))], some (2147483647, 2147483791), [])
set_option maxRecDepth 1000000 in
theorem kc_q134_ok (l : Launch) (G : PG) (lam : Nat → Nat) (hl : LAMC lam) : SUOK lam TCl EXT l G kc_q134 := chk_ok (sums := []) (F := 20000) MT_ok (fun _ _ _ _ => trivial) (hiL hl (by decide +kernel)) sun (by decide +kernel)
/-- X6_reach -/
def kc_q135 : SU := (27, 2, [.inr (.inl (some 86)), .inr (.inr (.inr (0, 4294967295))), .inr (.inr (.inr (0, 4294967295)))], none, [(86, 2), (87, 999), (88, 999)])
set_option maxRecDepth 1000000 in
theorem kc_q135_ok (l : Launch) (G : PG) (lam : Nat → Nat) (hl : LAMC lam) : SUOK lam TCl EXT l G kc_q135 := chk_ok (sums := [kc_q134]) (F := 20000) MT_ok (fun _ _ _ _ => trivial) (hiL hl (by decide +kernel)) (suc (kc_q134_ok l G lam hl) sun) (by decide +kernel)
/-- X6_spread -/
def kc_q136 : SU := (26, 3, [.inr (.inl (some 86)), .inr (.inr (.inr (2147483648, 2147483791)))], none, [(86, 2), (86, 3), (87, 999), (88, 999)])
set_option maxRecDepth 1000000 in
theorem kc_q136_ok (l : Launch) (G : PG) (lam : Nat → Nat) (hl : LAMC lam) : SUOK lam TCl EXT l G kc_q136 := chk_ok (sums := [kc_q135]) (F := 20000) MT_ok (fun _ _ _ _ => trivial) (hiL hl (by decide +kernel)) (suc (kc_q135_ok l G lam hl) sun) (by decide +kernel)
/-- X6_pieces -/
def kc_q137 : SU := (25, 4, [.inr (.inl (some 86)), .inr (.inl (some 2)), .inr (.inr (.inr (2147483648, 2147483649))), .inr (.inr (.inr (0, 4294967295)))], some (0, 4294967295), [(86, 2), (86, 3), (87, 999), (88, 999)])
set_option maxRecDepth 1000000 in
theorem kc_q137_ok (l : Launch) (G : PG) (lam : Nat → Nat) (hl : LAMC lam) : SUOK lam TCl EXT l G kc_q137 := chk_ok (sums := [kc_q19, kc_q136]) (F := 20000) MT_ok (fun _ _ _ _ => trivial) (hiL hl (by decide +kernel)) (suc (kc_q19_ok l G lam hl) (suc (kc_q136_ok l G lam hl) sun)) (by decide +kernel)
/-- X6_unlike -/
def kc_q138 : SU := (31, 3, [.inr (.inl (some 86)), .inr (.inl (some 2))], some (0, 4294967295), [])
set_option maxRecDepth 1000000 in
theorem kc_q138_ok (l : Launch) (G : PG) (lam : Nat → Nat) (hl : LAMC lam) : SUOK lam TCl EXT l G kc_q138 := chk_ok (sums := [kc_q21]) (F := 20000) MT_ok (fun _ _ _ _ => trivial) (hiL hl (by decide +kernel)) (suc (kc_q21_ok l G lam hl) sun) (by decide +kernel)
/-- X6_bareSquare -/
def kc_q139 : SU := (32, 2, [.inr (.inl (some 86)), .inr (.inl (some 2)), .inr (.inr (.inr (0, 4294967295)))], some (2147483647, 4294967295), [(87, 999)])
set_option maxRecDepth 1000000 in
theorem kc_q139_ok (l : Launch) (G : PG) (lam : Nat → Nat) (hl : LAMC lam) : SUOK lam TCl EXT l G kc_q139 := chk_ok (sums := [kc_q19]) (F := 20000) MT_ok (fun _ _ _ _ => trivial) (hiL hl (by decide +kernel)) (suc (kc_q19_ok l G lam hl) sun) (by decide +kernel)
/-- X0_takeOver -/
def kc_q140 : SU := (90, 1, [.inr (.inl (some 61)), .inr (.inl (some 2))], none, [(61, 2), (61, 3), (61, 4), (61, 5), (61, 6), (61, 7), (61, 8), (61, 9), (62, 999), (63, 999)])
set_option maxRecDepth 1000000 in
theorem kc_q140_ok (l : Launch) (G : PG) (lam : Nat → Nat) (hl : LAMC lam) : SUOK lam TCl EXT l G kc_q140 := chk_ok (sums := []) (F := 20000) MT_ok (fun _ _ _ _ => trivial) (hiL hl (by decide +kernel)) sun (by decide +kernel)
/-- X0_takeOver -/
def kc_q141 : SU := (90, 1, [.inr (.inl (some 2)), .inr (.inl (some 61))], none, [(2, 2), (2, 3), (2, 4), (2, 5), (2, 6), (2, 7), (2, 8), (2, 9), (3, 999), (4, 999)])
set_option maxRecDepth 1000000 in
theorem kc_q141_ok (l : Launch) (G : PG) (lam : Nat → Nat) (hl : LAMC lam) : SUOK lam TCl EXT l G kc_q141 := chk_ok (sums := []) (F := 20000) MT_ok (fun _ _ _ _ => trivial) (hiL hl (by decide +kernel)) sun (by decide +kernel)
/-- X0_takeOver -/
def kc_q142 : SU := (90, 1, [.inr (.inl (some 64)), .inr (.inl (some 2))], none, [(64, 2), (64, 3), (64, 4), (64, 5), (64, 6), (64, 7), (64, 8), (64, 9), (65, 999), (66, 999)])
set_option maxRecDepth 1000000 in
theorem kc_q142_ok (l : Launch) (G : PG) (lam : Nat → Nat) (hl : LAMC lam) : SUOK lam TCl EXT l G kc_q142 := chk_ok (sums := []) (F := 20000) MT_ok (fun _ _ _ _ => trivial) (hiL hl (by decide +kernel)) sun (by decide +kernel)
/-- X0_takeOver -/
def kc_q143 : SU := (90, 1, [.inr (.inl (some 2)), .inr (.inl (some 64))], none, [(2, 2), (2, 3), (2, 4), (2, 5), (2, 6), (2, 7), (2, 8), (2, 9), (3, 999), (4, 999)])
set_option maxRecDepth 1000000 in
theorem kc_q143_ok (l : Launch) (G : PG) (lam : Nat → Nat) (hl : LAMC lam) : SUOK lam TCl EXT l G kc_q143 := chk_ok (sums := []) (F := 20000) MT_ok (fun _ _ _ _ => trivial) (hiL hl (by decide +kernel)) sun (by decide +kernel)
/-- X0_takeOver -/
def kc_q144 : SU := (90, 1, [.inr (.inl (some 67)), .inr (.inl (some 2))], none, [(67, 2), (67, 3), (67, 4), (67, 5), (67, 6), (67, 7), (67, 8), (67, 9), (68, 999), (69, 999)])
set_option maxRecDepth 1000000 in
theorem kc_q144_ok (l : Launch) (G : PG) (lam : Nat → Nat) (hl : LAMC lam) : SUOK lam TCl EXT l G kc_q144 := chk_ok (sums := []) (F := 20000) MT_ok (fun _ _ _ _ => trivial) (hiL hl (by decide +kernel)) sun (by decide +kernel)
/-- X0_takeOver -/
def kc_q145 : SU := (90, 1, [.inr (.inl (some 2)), .inr (.inl (some 67))], none, [(2, 2), (2, 3), (2, 4), (2, 5), (2, 6), (2, 7), (2, 8), (2, 9), (3, 999), (4, 999)])
set_option maxRecDepth 1000000 in
theorem kc_q145_ok (l : Launch) (G : PG) (lam : Nat → Nat) (hl : LAMC lam) : SUOK lam TCl EXT l G kc_q145 := chk_ok (sums := []) (F := 20000) MT_ok (fun _ _ _ _ => trivial) (hiL hl (by decide +kernel)) sun (by decide +kernel)
/-- X0_takeOver -/
def kc_q146 : SU := (90, 1, [.inr (.inl (some 70)), .inr (.inl (some 2))], none, [(70, 2), (70, 3), (70, 4), (70, 5), (70, 6), (70, 7), (70, 8), (70, 9), (71, 999), (72, 999)])
set_option maxRecDepth 1000000 in
theorem kc_q146_ok (l : Launch) (G : PG) (lam : Nat → Nat) (hl : LAMC lam) : SUOK lam TCl EXT l G kc_q146 := chk_ok (sums := []) (F := 20000) MT_ok (fun _ _ _ _ => trivial) (hiL hl (by decide +kernel)) sun (by decide +kernel)
/-- X0_takeOver -/
def kc_q147 : SU := (90, 1, [.inr (.inl (some 2)), .inr (.inl (some 70))], none, [(2, 2), (2, 3), (2, 4), (2, 5), (2, 6), (2, 7), (2, 8), (2, 9), (3, 999), (4, 999)])
set_option maxRecDepth 1000000 in
theorem kc_q147_ok (l : Launch) (G : PG) (lam : Nat → Nat) (hl : LAMC lam) : SUOK lam TCl EXT l G kc_q147 := chk_ok (sums := []) (F := 20000) MT_ok (fun _ _ _ _ => trivial) (hiL hl (by decide +kernel)) sun (by decide +kernel)
/-- X0_takeOver -/
def kc_q148 : SU := (90, 1, [.inr (.inl (some 73)), .inr (.inl (some 2))], none, [(73, 2), (73, 3), (73, 4), (73, 5), (73, 6), (73, 7), (73, 8), (73, 9), (74, 999), (75, 999)])
set_option maxRecDepth 1000000 in
theorem kc_q148_ok (l : Launch) (G : PG) (lam : Nat → Nat) (hl : LAMC lam) : SUOK lam TCl EXT l G kc_q148 := chk_ok (sums := []) (F := 20000) MT_ok (fun _ _ _ _ => trivial) (hiL hl (by decide +kernel)) sun (by decide +kernel)
/-- X0_takeOver -/
def kc_q149 : SU := (90, 1, [.inr (.inl (some 2)), .inr (.inl (some 73))], none, [(2, 2), (2, 3), (2, 4), (2, 5), (2, 6), (2, 7), (2, 8), (2, 9), (3, 999), (4, 999)])
set_option maxRecDepth 1000000 in
theorem kc_q149_ok (l : Launch) (G : PG) (lam : Nat → Nat) (hl : LAMC lam) : SUOK lam TCl EXT l G kc_q149 := chk_ok (sums := []) (F := 20000) MT_ok (fun _ _ _ _ => trivial) (hiL hl (by decide +kernel)) sun (by decide +kernel)
/-- X0_takeOver -/
def kc_q150 : SU := (90, 1, [.inr (.inl (some 76)), .inr (.inl (some 2))], none, [(76, 2), (76, 3), (76, 4), (76, 5), (76, 6), (76, 7), (76, 8), (76, 9), (77, 999), (78, 999)])
set_option maxRecDepth 1000000 in
theorem kc_q150_ok (l : Launch) (G : PG) (lam : Nat → Nat) (hl : LAMC lam) : SUOK lam TCl EXT l G kc_q150 := chk_ok (sums := []) (F := 20000) MT_ok (fun _ _ _ _ => trivial) (hiL hl (by decide +kernel)) sun (by decide +kernel)
/-- X0_takeOver -/
def kc_q151 : SU := (90, 1, [.inr (.inl (some 2)), .inr (.inl (some 76))], none, [(2, 2), (2, 3), (2, 4), (2, 5), (2, 6), (2, 7), (2, 8), (2, 9), (3, 999), (4, 999)])
set_option maxRecDepth 1000000 in
theorem kc_q151_ok (l : Launch) (G : PG) (lam : Nat → Nat) (hl : LAMC lam) : SUOK lam TCl EXT l G kc_q151 := chk_ok (sums := []) (F := 20000) MT_ok (fun _ _ _ _ => trivial) (hiL hl (by decide +kernel)) sun (by decide +kernel)
/-- X0_takeOver -/
def kc_q152 : SU := (90, 1, [.inr (.inl (some 83)), .inr (.inl (some 2))], none, [(83, 2), (83, 3), (83, 4), (83, 5), (83, 6), (83, 7), (83, 8), (83, 9), (84, 999), (85, 999)])
set_option maxRecDepth 1000000 in
theorem kc_q152_ok (l : Launch) (G : PG) (lam : Nat → Nat) (hl : LAMC lam) : SUOK lam TCl EXT l G kc_q152 := chk_ok (sums := []) (F := 20000) MT_ok (fun _ _ _ _ => trivial) (hiL hl (by decide +kernel)) sun (by decide +kernel)
/-- X7_keep -/
def kc_q155 : SU := (141, 2, [.inr (.inl (some 59)), .inr (.inl (some 2))], none, [(59, 1), (59, 2), (61, 2), (61, 3), (61, 4), (61, 5), (61, 6), (61, 7), (61, 8), (61, 9), (62, 999), (63, 999), (64, 2), (64, 3), (64, 4), (64, 5), (64, 6), (64, 7), (64, 8), (64, 9), (65, 999), (66, 999), (67, 2), (67, 3), (67, 4), (67, 5), (67, 6), (67, 7), (67, 8), (67, 9), (68, 999), (69, 999), (70, 2), (70, 3), (70, 4), (70, 5), (70, 6), (70, 7), (70, 8), (70, 9), (71, 999), (72, 999), (73, 2), (73, 3), (73, 4), (73, 5), (73, 6), (73, 7), (73, 8), (73, 9), (74, 999), (75, 999), (76, 2), (76, 3), (76, 4), (76, 5), (76, 6), (76, 7), (76, 8), (76, 9), (77, 999), (78, 999)])
set_option maxRecDepth 1000000 in
theorem kc_q155_ok (l : Launch) (G : PG) (lam : Nat → Nat) (hl : LAMC lam) : SUOK lam TCl EXT l G kc_q155 := chk_ok (sums := [kc_q150, kc_q148, kc_q146, kc_q144, kc_q142, kc_q140]) (F := 20000) MT_ok (fun _ _ _ _ => trivial) (hiL hl (by decide +kernel)) (suc (kc_q150_ok l G lam hl) (suc (kc_q148_ok l G lam hl) (suc (kc_q146_ok l G lam hl) (suc (kc_q144_ok l G lam hl) (suc (kc_q142_ok l G lam hl) (suc (kc_q140_ok l G lam hl) sun)))))) (by decide +kernel)
/-- X7_goBack -/
def kc_q156 : SU := (140, 2, [.inr (.inl (some 59)), .inr (.inl (some 2))], some (2147483648, 2147483649), [(2, 2), (2, 3), (2, 4), (2, 5), (2, 6), (2, 7), (2, 8), (2, 9), (3, 999), (4, 999), (59, 1), (59, 2)])
set_option maxRecDepth 1000000 in
theorem kc_q156_ok (l : Launch) (G : PG) (lam : Nat → Nat) (hl : LAMC lam) : SUOK lam TCl EXT l G kc_q156 := chk_ok (sums := [kc_q149, kc_q147, kc_q145, kc_q143, kc_q141, kc_q151]) (F := 20000) MT_ok (fun _ _ _ _ => trivial) (hiL hl (by decide +kernel)) (suc (kc_q149_ok l G lam hl) (suc (kc_q147_ok l G lam hl) (suc (kc_q145_ok l G lam hl) (suc (kc_q143_ok l G lam hl) (suc (kc_q141_ok l G lam hl) (suc (kc_q151_ok l G lam hl) sun)))))) (by decide +kernel)
/-- X7_forget -/
def kc_q157 : SU := (139, 1, [.inr (.inl (some 59))], none, [(59, 2)])
set_option maxRecDepth 1000000 in
theorem kc_q157_ok (l : Launch) (G : PG) (lam : Nat → Nat) (hl : LAMC lam) : SUOK lam TCl EXT l G kc_q157 := chk_ok (sums := []) (F := 20000) MT_ok (fun _ _ _ _ => trivial) (hiL hl (by decide +kernel)) sun (by decide +kernel)
/-- X10_twinsOf -/
def kc_q158 : SU := (148, 2, [.inr (.inl (some 1)), .inr (.inr (.inr (0, 4294967295)))], some (0, 4294967295), [])
set_option maxRecDepth 1000000 in
theorem kc_q158_ok (l : Launch) (G : PG) (lam : Nat → Nat) (hl : LAMC lam) : SUOK lam TCl EXT l G kc_q158 := chk_ok (sums := [kc_q5]) (F := 20000) MT_ok (fun _ _ _ _ => trivial) (hiL hl (by decide +kernel)) (suc (kc_q5_ok l G lam hl) sun) (by decide +kernel)
/-- X10_takenFor -/
def kc_q159 : SU := (146, 3, [.inr (.inl (some 1)), .inr (.inr (.inr (0, 4294967295)))], some (0, 4294967295), [])
set_option maxRecDepth 1000000 in
theorem kc_q159_ok (l : Launch) (G : PG) (lam : Nat → Nat) (hl : LAMC lam) : SUOK lam TCl EXT l G kc_q159 := chk_ok (sums := [kc_q158]) (F := 20000) MT_ok (fun _ _ _ _ => trivial) (hiL hl (by decide +kernel)) (suc (kc_q158_ok l G lam hl) sun) (by decide +kernel)
