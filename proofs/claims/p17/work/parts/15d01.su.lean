/-- X0_owner -/
def kc_q40 : SU := (11, 2, [.inr (.inl (some 83)), .inr (.inr (.inr (0, 4294967295)))], some (0, 4294967295), [])
set_option maxRecDepth 1000000 in
theorem kc_q40_ok (l : Launch) (G : PG) (lam : Nat → Nat) (hl : LAMC lam) : SUOK lam TCl EXT l G kc_q40 := chk_ok (sums := [kc_q35]) (F := 20000) MT_ok (fun _ _ _ _ => trivial) (hiL hl (by decide +kernel)) (suc (kc_q35_ok l G lam hl) sun) (by decide +kernel)
/-- X0_besides -/
def kc_q41 : SU := (16, 2, [.inr (.inl (some 83)), .inr (.inr (.inr (2147483648, 2147483791)))], some (2147483648, 2147483652), [])
set_option maxRecDepth 1000000 in
theorem kc_q41_ok (l : Launch) (G : PG) (lam : Nat → Nat) (hl : LAMC lam) : SUOK lam TCl EXT l G kc_q41 := chk_ok (sums := [kc_q37]) (F := 20000) MT_ok (fun _ _ _ _ => trivial) (hiL hl (by decide +kernel)) (suc (kc_q37_ok l G lam hl) sun) (by decide +kernel)
/-- X0_putMark -/
def kc_q42 : SU := (86, 1, [.inr (.inl (some 83)), .inr (.inr (.inr (0, 4294967295))), .inr (.inr (.inr (0, 4294967295))), .inr (.inr (.inr (0, 4294967295))), .inr (.inr (.inr (0, 4294967295)))], none, [(85, 999)])
set_option maxRecDepth 1000000 in
theorem kc_q42_ok (l : Launch) (G : PG) (lam : Nat → Nat) (hl : LAMC lam) : SUOK lam TCl EXT l G kc_q42 := chk_ok (sums := []) (F := 20000) MT_ok (fun _ _ _ _ => trivial) (hiL hl (by decide +kernel)) sun (by decide +kernel)
/-- X0_takeMark -/
def kc_q43 : SU := (89, 1, [.inr (.inl (some 83)), .inr (.inr (.inr (0, 4294967295)))], none, [(85, 999)])
set_option maxRecDepth 1000000 in
theorem kc_q43_ok (l : Launch) (G : PG) (lam : Nat → Nat) (hl : LAMC lam) : SUOK lam TCl EXT l G kc_q43 := chk_ok (sums := []) (F := 20000) MT_ok (fun _ _ _ _ => trivial) (hiL hl (by decide +kernel)) sun (by decide +kernel)
/-- X0_mayPress -/
def kc_q44 : SU := (84, 3, [.inr (.inl (some 83)), .inr (.inr (.inr (0, 4294967295)))], some (2147483648, 2147483649), [])
set_option maxRecDepth 1000000 in
theorem kc_q44_ok (l : Launch) (G : PG) (lam : Nat → Nat) (hl : LAMC lam) : SUOK lam TCl EXT l G kc_q44 := chk_ok (sums := [kc_q33]) (F := 20000) MT_ok (fun _ _ _ _ => trivial) (hiL hl (by decide +kernel)) (suc (kc_q33_ok l G lam hl) sun) (by decide +kernel)
/-- X0_takeAllMarks -/
def kc_q45 : SU := (88, 2, [.inr (.inl (some 83))], none, [(85, 999)])
set_option maxRecDepth 1000000 in
theorem kc_q45_ok (l : Launch) (G : PG) (lam : Nat → Nat) (hl : LAMC lam) : SUOK lam TCl EXT l G kc_q45 := chk_ok (sums := []) (F := 20000) MT_ok (fun _ _ _ _ => trivial) (hiL hl (by decide +kernel)) sun (by decide +kernel)
/-- X0_countMarks -/
def kc_q46 : SU := (82, 1, [.inr (.inl (some 83))], some (0, 4294967295), [])
set_option maxRecDepth 1000000 in
theorem kc_q46_ok (l : Launch) (G : PG) (lam : Nat → Nat) (hl : LAMC lam) : SUOK lam TCl EXT l G kc_q46 := chk_ok (sums := []) (F := 20000) MT_ok (fun _ _ _ _ => trivial) (hiL hl (by decide +kernel)) sun (by decide +kernel)
/-- X0_cameOfAll -/
def kc_q48 : SU := (81, 3, [.inr (.inl (some 83))], some (0, 4294967295), [])
set_option maxRecDepth 1000000 in
theorem kc_q48_ok (l : Launch) (G : PG) (lam : Nat → Nat) (hl : LAMC lam) : SUOK lam TCl EXT l G kc_q48 := chk_ok (sums := [kc_q33]) (F := 20000) MT_ok (fun _ _ _ _ => trivial) (hiL hl (by decide +kernel)) (suc (kc_q33_ok l G lam hl) sun) (by decide +kernel)
/-- X3_write -/
def kc_q51 : SU := (105, 1, [.inr (.inl (some 5)), .inr (.inr (.inr (0, 4294967295))), .inr (.inl (some 2)), .inr (.inr (.inr (0, 4294967295))), .inr (.inr (.inr (0, 4294967295))), .inr (.inr (.inr (0, 4294967295)))], some (0, 4294967295), [(6, 999)])
set_option maxRecDepth 1000000 in
theorem kc_q51_ok (l : Launch) (G : PG) (lam : Nat → Nat) (hl : LAMC lam) : SUOK lam TCl EXT l G kc_q51 := chk_ok (sums := []) (F := 20000) MT_ok (fun _ _ _ _ => trivial) (hiL hl (by decide +kernel)) sun (by decide +kernel)
/-- X3_number -/
def kc_q52 : SU := (103, 1, [.inr (.inl (some 5)), .inr (.inr (.inr (0, 4294967295))), .inr (.inr (.inr (0, 4294967295)))], some (0, 4294967295), [])
set_option maxRecDepth 1000000 in
theorem kc_q52_ok (l : Launch) (G : PG) (lam : Nat → Nat) (hl : LAMC lam) : SUOK lam TCl EXT l G kc_q52 := chk_ok (sums := []) (F := 20000) MT_ok (fun _ _ _ _ => trivial) (hiL hl (by decide +kernel)) sun (by decide +kernel)
/-- X1_held -/
def kc_q53 : SU := (22, 1, [.inr (.inr (.inr (0, 4294967295))), .inr (.inr (.inr (0, 4294967295)))], some (2147483648, 4294967295), [])
set_option maxRecDepth 1000000 in
theorem kc_q53_ok (l : Launch) (G : PG) (lam : Nat → Nat) (hl : LAMC lam) : SUOK lam TCl EXT l G kc_q53 := chk_ok (sums := []) (F := 20000) MT_ok (fun _ _ _ _ => trivial) (hiL hl (by decide +kernel)) sun (by decide +kernel)
/-- X1_layValues -/
def kc_q54 : SU := (12, 3, [.inr (.inl (some 95)), .inr (.inr (.inr (0, 4294967295))), .inr (.inr (.inr (2147483647, 2147483791)))], none, [(96, 999)])
set_option maxRecDepth 1000000 in
theorem kc_q54_ok (l : Launch) (G : PG) (lam : Nat → Nat) (hl : LAMC lam) : SUOK lam TCl EXT l G kc_q54 := chk_ok (sums := [kc_q21, kc_q15, kc_q20, kc_q23]) (F := 20000) MT_ok (fun _ _ _ _ => trivial) (hiL hl (by decide +kernel)) (suc (kc_q21_ok l G lam hl) (suc (kc_q15_ok l G lam hl) (suc (kc_q20_ok l G lam hl) (suc (kc_q23_ok l G lam hl) sun)))) (by decide +kernel)
/-- X1_comes -/
def kc_q55 : SU := (92, 4, [.inr (.inl (some 95)), .inr (.inr (.inr (0, 4294967295)))], some (2147483648, 4294967295), [(96, 999), (97, 999)])
set_option maxRecDepth 1000000 in
theorem kc_q55_ok (l : Launch) (G : PG) (lam : Nat → Nat) (hl : LAMC lam) : SUOK lam TCl EXT l G kc_q55 := chk_ok (sums := [kc_q54, kc_q15, kc_q12, kc_q53]) (F := 20000) MT_ok (fun _ _ _ _ => trivial) (hiL hl (by decide +kernel)) (suc (kc_q54_ok l G lam hl) (suc (kc_q15_ok l G lam hl) (suc (kc_q12_ok l G lam hl) (suc (kc_q53_ok l G lam hl) sun)))) (by decide +kernel)
/-- X1_melts -/
def kc_q56 : SU := (96, 4, [.inr (.inl (some 95)), .inr (.inr (.inr (2147483648, 2147483791)))], some (2147483648, 4294967295), [(96, 999), (97, 999)])
set_option maxRecDepth 1000000 in
theorem kc_q56_ok (l : Launch) (G : PG) (lam : Nat → Nat) (hl : LAMC lam) : SUOK lam TCl EXT l G kc_q56 := chk_ok (sums := [kc_q22, kc_q54, kc_q20, kc_q12, kc_q53]) (F := 20000) MT_ok (fun _ _ _ _ => trivial) (hiL hl (by decide +kernel)) (suc (kc_q22_ok l G lam hl) (suc (kc_q54_ok l G lam hl) (suc (kc_q20_ok l G lam hl) (suc (kc_q12_ok l G lam hl) (suc (kc_q53_ok l G lam hl) sun))))) (by decide +kernel)
/-- X1_weighs -/
def kc_q57 : SU := (10, 4, [.inr (.inl (some 95)), .inr (.inr (.inr (2147483648, 2147483791)))], some (2147483648, 4294967295), [(96, 999), (97, 999)])
set_option maxRecDepth 1000000 in
theorem kc_q57_ok (l : Launch) (G : PG) (lam : Nat → Nat) (hl : LAMC lam) : SUOK lam TCl EXT l G kc_q57 := chk_ok (sums := [kc_q22, kc_q54, kc_q20, kc_q12, kc_q53]) (F := 20000) MT_ok (fun _ _ _ _ => trivial) (hiL hl (by decide +kernel)) (suc (kc_q22_ok l G lam hl) (suc (kc_q54_ok l G lam hl) (suc (kc_q20_ok l G lam hl) (suc (kc_q12_ok l G lam hl) (suc (kc_q53_ok l G lam hl) sun))))) (by decide +kernel)
/-- X1_sum -/
def kc_q58 : SU := (5, 5, [.inr (.inl (some 95))], some (0, 4294967295), [(96, 999), (97, 999)])
set_option maxRecDepth 1000000 in
theorem kc_q58_ok (l : Launch) (G : PG) (lam : Nat → Nat) (hl : LAMC lam) : SUOK lam TCl EXT l G kc_q58 := chk_ok (sums := [kc_q19, kc_q21, kc_q57]) (F := 20000) MT_ok (fun _ _ _ _ => trivial) (hiL hl (by decide +kernel)) (suc (kc_q19_ok l G lam hl) (suc (kc_q21_ok l G lam hl) (suc (kc_q57_ok l G lam hl) sun))) (by decide +kernel)
/-- X1_turned -/
def kc_q59 : SU := (23, 5, [.inr (.inl (some 95))], some (0, 4294967295), [(96, 999), (97, 999), (98, 999)])
set_option maxRecDepth 1000000 in
theorem kc_q59_ok (l : Launch) (G : PG) (lam : Nat → Nat) (hl : LAMC lam) : SUOK lam TCl EXT l G kc_q59 := chk_ok (sums := [kc_q19, kc_q57, kc_q21]) (F := 20000) MT_ok (fun _ _ _ _ => trivial) (hiL hl (by decide +kernel)) (suc (kc_q19_ok l G lam hl) (suc (kc_q57_ok l G lam hl) (suc (kc_q21_ok l G lam hl) sun))) (by decide +kernel)
/-- X1_note -/
def kc_q60 : SU := (97, 2, [.inr (.inl (some 95)), .inr (.inr (.inr (0, 4294967295))), .inr (.inr (.inr (0, 4294967295))), .inr (.inr (.inr (0, 4294967295)))], none, [(2, 9), (6, 999)])
set_option maxRecDepth 1000000 in
theorem kc_q60_ok (l : Launch) (G : PG) (lam : Nat → Nat) (hl : LAMC lam) : SUOK lam TCl EXT l G kc_q60 := chk_ok (sums := [kc_q51]) (F := 20000) MT_ok (fun _ _ _ _ => trivial) (hiL hl (by decide +kernel)) (suc (kc_q51_ok l G lam hl) sun) (by decide +kernel)
/-- X1_happens -/
def kc_q61 : SU := (93, 2, [.inr (.inl (some 95)), .inr (.inr (.inr (0, 4294967295)))], some (2147483648, 2147483649), [(2, 8)])
set_option maxRecDepth 1000000 in
theorem kc_q61_ok (l : Launch) (G : PG) (lam : Nat → Nat) (hl : LAMC lam) : SUOK lam TCl EXT l G kc_q61 := chk_ok (sums := [kc_q29]) (F := 20000) MT_ok (fun _ _ _ _ => trivial) (hiL hl (by decide +kernel)) (suc (kc_q29_ok l G lam hl) sun) (by decide +kernel)
/-- X1_leaveThumb -/
def kc_q62 : SU := (94, 3, [.inr (.inl (some 95)), .inr (.inr (.inr (0, 4294967295))), .inr (.inr (.inr (0, 4294967295)))], some (0, 4294967295), [(2, 9), (3, 999), (4, 999), (6, 999)])
set_option maxRecDepth 1000000 in
theorem kc_q62_ok (l : Launch) (G : PG) (lam : Nat → Nat) (hl : LAMC lam) : SUOK lam TCl EXT l G kc_q62 := chk_ok (sums := [kc_q15, kc_q19, kc_q24, kc_q16, kc_q60]) (F := 20000) MT_ok (fun _ _ _ _ => trivial) (hiL hl (by decide +kernel)) (suc (kc_q15_ok l G lam hl) (suc (kc_q19_ok l G lam hl) (suc (kc_q24_ok l G lam hl) (suc (kc_q16_ok l G lam hl) (suc (kc_q60_ok l G lam hl) sun))))) (by decide +kernel)
/-- X1_takeAway -/
def kc_q63 : SU := (101, 3, [.inr (.inl (some 95)), .inr (.inr (.inr (0, 4294967295))), .inr (.inr (.inr (0, 4294967295)))], none, [(2, 9), (4, 999), (6, 999)])
set_option maxRecDepth 1000000 in
theorem kc_q63_ok (l : Launch) (G : PG) (lam : Nat → Nat) (hl : LAMC lam) : SUOK lam TCl EXT l G kc_q63 := chk_ok (sums := [kc_q19, kc_q22, kc_q25, kc_q60]) (F := 20000) MT_ok (fun _ _ _ _ => trivial) (hiL hl (by decide +kernel)) (suc (kc_q19_ok l G lam hl) (suc (kc_q22_ok l G lam hl) (suc (kc_q25_ok l G lam hl) (suc (kc_q60_ok l G lam hl) sun)))) (by decide +kernel)
/-- X1_readDoor -/
def kc_q64 : SU := (99, 6, [.inr (.inl (some 95))], none, [(2, 4), (2, 5), (2, 6), (2, 7), (2, 9), (4, 999), (6, 999), (96, 999), (97, 999)])
set_option maxRecDepth 1000000 in
theorem kc_q64_ok (l : Launch) (G : PG) (lam : Nat → Nat) (hl : LAMC lam) : SUOK lam TCl EXT l G kc_q64 := chk_ok (sums := [kc_q58, kc_q60, kc_q27]) (F := 20000) MT_ok (fun _ _ _ _ => trivial) (hiL hl (by decide +kernel)) (suc (kc_q58_ok l G lam hl) (suc (kc_q60_ok l G lam hl) (suc (kc_q27_ok l G lam hl) sun))) (by decide +kernel)
/-- X1_meltAll -/
def kc_q65 : SU := (95, 5, [.inr (.inl (some 95))], none, [(2, 8), (2, 9), (4, 999), (6, 999), (96, 999), (97, 999)])
set_option maxRecDepth 1000000 in
theorem kc_q65_ok (l : Launch) (G : PG) (lam : Nat → Nat) (hl : LAMC lam) : SUOK lam TCl EXT l G kc_q65 := chk_ok (sums := [kc_q19, kc_q56, kc_q61, kc_q20, kc_q18, kc_q63]) (F := 20000) MT_ok (fun _ _ _ _ => trivial) (hiL hl (by decide +kernel)) (suc (kc_q19_ok l G lam hl) (suc (kc_q56_ok l G lam hl) (suc (kc_q61_ok l G lam hl) (suc (kc_q20_ok l G lam hl) (suc (kc_q18_ok l G lam hl) (suc (kc_q63_ok l G lam hl) sun)))))) (by decide +kernel)
/-- X1_thumbsOfHour -/
def kc_q66 : SU := (102, 5, [.inr (.inl (some 95))], some (0, 4294967295), [(2, 8), (2, 9), (3, 999), (4, 999), (6, 999), (96, 999), (97, 999)])
set_option maxRecDepth 1000000 in
theorem kc_q66_ok (l : Launch) (G : PG) (lam : Nat → Nat) (hl : LAMC lam) : SUOK lam TCl EXT l G kc_q66 := chk_ok (sums := [kc_q3, kc_q26, kc_q55, kc_q61, kc_q62]) (F := 20000) MT_ok (fun _ _ _ _ => trivial) (hiL hl (by decide +kernel)) (suc (kc_q3_ok l G lam hl) (suc (kc_q26_ok l G lam hl) (suc (kc_q55_ok l G lam hl) (suc (kc_q61_ok l G lam hl) (suc (kc_q62_ok l G lam hl) sun))))) (by decide +kernel)
/-- X1_skyOfHour -/
def kc_q67 : SU := (100, 4, [.inr (.inl (some 95))], none, [(2, 3), (2, 9), (3, 999), (4, 999), (6, 999)])
set_option maxRecDepth 1000000 in
theorem kc_q67_ok (l : Launch) (G : PG) (lam : Nat → Nat) (hl : LAMC lam) : SUOK lam TCl EXT l G kc_q67 := chk_ok (sums := [kc_q4, kc_q16, kc_q63]) (F := 20000) MT_ok (fun _ _ _ _ => trivial) (hiL hl (by decide +kernel)) (suc (kc_q4_ok l G lam hl) (suc (kc_q16_ok l G lam hl) (suc (kc_q63_ok l G lam hl) sun))) (by decide +kernel)
/-- X1_oneHour -/
def kc_q68 : SU := (98, 7, [.inr (.inl (some 95))], some (0, 4294967295), [(2, 3), (2, 4), (2, 5), (2, 6), (2, 7), (2, 8), (2, 9), (3, 999), (4, 999), (6, 999), (96, 999), (97, 999)])
set_option maxRecDepth 1000000 in
theorem kc_q68_ok (l : Launch) (G : PG) (lam : Nat → Nat) (hl : LAMC lam) : SUOK lam TCl EXT l G kc_q68 := chk_ok (sums := [kc_q67, kc_q66, kc_q65, kc_q64]) (F := 20000) MT_ok (fun _ _ _ _ => trivial) (hiL hl (by decide +kernel)) (suc (kc_q67_ok l G lam hl) (suc (kc_q66_ok l G lam hl) (suc (kc_q65_ok l G lam hl) (suc (kc_q64_ok l G lam hl) sun)))) (by decide +kernel)
/-- X1_layValues -/
def kc_q69 : SU := (12, 3, [.inr (.inl (some 99)), .inr (.inr (.inr (0, 4294967295))), .inr (.inr (.inr (2147483647, 2147483791)))], none, [(100, 999)])
set_option maxRecDepth 1000000 in
theorem kc_q69_ok (l : Launch) (G : PG) (lam : Nat → Nat) (hl : LAMC lam) : SUOK lam TCl EXT l G kc_q69 := chk_ok (sums := [kc_q39, kc_q33, kc_q38, kc_q41]) (F := 20000) MT_ok (fun _ _ _ _ => trivial) (hiL hl (by decide +kernel)) (suc (kc_q39_ok l G lam hl) (suc (kc_q33_ok l G lam hl) (suc (kc_q38_ok l G lam hl) (suc (kc_q41_ok l G lam hl) sun)))) (by decide +kernel)
/-- X1_comes -/
def kc_q70 : SU := (92, 4, [.inr (.inl (some 99)), .inr (.inr (.inr (0, 4294967295)))], some (2147483648, 4294967295), [(100, 999), (101, 999)])
set_option maxRecDepth 1000000 in
theorem kc_q70_ok (l : Launch) (G : PG) (lam : Nat → Nat) (hl : LAMC lam) : SUOK lam TCl EXT l G kc_q70 := chk_ok (sums := [kc_q69, kc_q33, kc_q14, kc_q53]) (F := 20000) MT_ok (fun _ _ _ _ => trivial) (hiL hl (by decide +kernel)) (suc (kc_q69_ok l G lam hl) (suc (kc_q33_ok l G lam hl) (suc (kc_q14_ok l G lam hl) (suc (kc_q53_ok l G lam hl) sun)))) (by decide +kernel)
/-- X1_melts -/
def kc_q71 : SU := (96, 4, [.inr (.inl (some 99)), .inr (.inr (.inr (2147483648, 2147483791)))], some (2147483648, 4294967295), [(100, 999), (101, 999)])
set_option maxRecDepth 1000000 in
theorem kc_q71_ok (l : Launch) (G : PG) (lam : Nat → Nat) (hl : LAMC lam) : SUOK lam TCl EXT l G kc_q71 := chk_ok (sums := [kc_q40, kc_q69, kc_q38, kc_q14, kc_q53]) (F := 20000) MT_ok (fun _ _ _ _ => trivial) (hiL hl (by decide +kernel)) (suc (kc_q40_ok l G lam hl) (suc (kc_q69_ok l G lam hl) (suc (kc_q38_ok l G lam hl) (suc (kc_q14_ok l G lam hl) (suc (kc_q53_ok l G lam hl) sun))))) (by decide +kernel)
/-- X1_weighs -/
def kc_q72 : SU := (10, 4, [.inr (.inl (some 99)), .inr (.inr (.inr (2147483648, 2147483791)))], some (2147483648, 4294967295), [(100, 999), (101, 999)])
set_option maxRecDepth 1000000 in
theorem kc_q72_ok (l : Launch) (G : PG) (lam : Nat → Nat) (hl : LAMC lam) : SUOK lam TCl EXT l G kc_q72 := chk_ok (sums := [kc_q40, kc_q69, kc_q38, kc_q14, kc_q53]) (F := 20000) MT_ok (fun _ _ _ _ => trivial) (hiL hl (by decide +kernel)) (suc (kc_q40_ok l G lam hl) (suc (kc_q69_ok l G lam hl) (suc (kc_q38_ok l G lam hl) (suc (kc_q14_ok l G lam hl) (suc (kc_q53_ok l G lam hl) sun))))) (by decide +kernel)
/-- X1_sum -/
def kc_q73 : SU := (5, 5, [.inr (.inl (some 99))], some (0, 4294967295), [(100, 999), (101, 999)])
set_option maxRecDepth 1000000 in
theorem kc_q73_ok (l : Launch) (G : PG) (lam : Nat → Nat) (hl : LAMC lam) : SUOK lam TCl EXT l G kc_q73 := chk_ok (sums := [kc_q37, kc_q39, kc_q72]) (F := 20000) MT_ok (fun _ _ _ _ => trivial) (hiL hl (by decide +kernel)) (suc (kc_q37_ok l G lam hl) (suc (kc_q39_ok l G lam hl) (suc (kc_q72_ok l G lam hl) sun))) (by decide +kernel)
/-- X1_note -/
def kc_q75 : SU := (97, 1, [.inr (.inl (some 99)), .inr (.inr (.inr (0, 4294967295))), .inr (.inr (.inr (0, 4294967295))), .inr (.inr (.inr (0, 4294967295)))], none, [])
set_option maxRecDepth 1000000 in
theorem kc_q75_ok (l : Launch) (G : PG) (lam : Nat → Nat) (hl : LAMC lam) : SUOK lam TCl EXT l G kc_q75 := chk_ok (sums := []) (F := 20000) MT_ok (fun _ _ _ _ => trivial) (hiL hl (by decide +kernel)) sun (by decide +kernel)
/-- X1_happens -/
def kc_q76 : SU := (93, 1, [.inr (.inl (some 99)), .inr (.inr (.inr (0, 4294967295)))], some (2147483648, 2147483649), [])
set_option maxRecDepth 1000000 in
theorem kc_q76_ok (l : Launch) (G : PG) (lam : Nat → Nat) (hl : LAMC lam) : SUOK lam TCl EXT l G kc_q76 := chk_ok (sums := []) (F := 20000) MT_ok (fun _ _ _ _ => trivial) (hiL hl (by decide +kernel)) sun (by decide +kernel)
/-- X1_leaveThumb -/
def kc_q77 : SU := (94, 3, [.inr (.inl (some 99)), .inr (.inr (.inr (0, 4294967295))), .inr (.inr (.inr (0, 4294967295)))], some (0, 4294967295), [(84, 999), (85, 999)])
set_option maxRecDepth 1000000 in
theorem kc_q77_ok (l : Launch) (G : PG) (lam : Nat → Nat) (hl : LAMC lam) : SUOK lam TCl EXT l G kc_q77 := chk_ok (sums := [kc_q33, kc_q37, kc_q42, kc_q34, kc_q75]) (F := 20000) MT_ok (fun _ _ _ _ => trivial) (hiL hl (by decide +kernel)) (suc (kc_q33_ok l G lam hl) (suc (kc_q37_ok l G lam hl) (suc (kc_q42_ok l G lam hl) (suc (kc_q34_ok l G lam hl) (suc (kc_q75_ok l G lam hl) sun))))) (by decide +kernel)
/-- X1_takeAway -/
def kc_q78 : SU := (101, 3, [.inr (.inl (some 99)), .inr (.inr (.inr (0, 4294967295))), .inr (.inr (.inr (0, 4294967295)))], none, [(85, 999)])
set_option maxRecDepth 1000000 in
theorem kc_q78_ok (l : Launch) (G : PG) (lam : Nat → Nat) (hl : LAMC lam) : SUOK lam TCl EXT l G kc_q78 := chk_ok (sums := [kc_q37, kc_q40, kc_q43, kc_q75]) (F := 20000) MT_ok (fun _ _ _ _ => trivial) (hiL hl (by decide +kernel)) (suc (kc_q37_ok l G lam hl) (suc (kc_q40_ok l G lam hl) (suc (kc_q43_ok l G lam hl) (suc (kc_q75_ok l G lam hl) sun)))) (by decide +kernel)
/-- X1_readDoor -/
def kc_q79 : SU := (99, 6, [.inr (.inl (some 99))], none, [(83, 4), (83, 5), (83, 6), (83, 7), (85, 999), (100, 999), (101, 999)])
set_option maxRecDepth 1000000 in
theorem kc_q79_ok (l : Launch) (G : PG) (lam : Nat → Nat) (hl : LAMC lam) : SUOK lam TCl EXT l G kc_q79 := chk_ok (sums := [kc_q73, kc_q75, kc_q45]) (F := 20000) MT_ok (fun _ _ _ _ => trivial) (hiL hl (by decide +kernel)) (suc (kc_q73_ok l G lam hl) (suc (kc_q75_ok l G lam hl) (suc (kc_q45_ok l G lam hl) sun))) (by decide +kernel)
