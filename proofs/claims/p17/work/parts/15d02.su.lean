/-- X1_meltAll -/
def kc_q80 : SU := (95, 5, [.inr (.inl (some 99))], none, [(85, 999), (100, 999), (101, 999)])
set_option maxRecDepth 1000000 in
theorem kc_q80_ok (l : Launch) (G : PG) (lam : Nat → Nat) (hl : LAMC lam) : SUOK lam TCl EXT l G kc_q80 := chk_ok (sums := [kc_q37, kc_q71, kc_q76, kc_q38, kc_q36, kc_q78]) (F := 20000) MT_ok (fun _ _ _ _ => trivial) (hiL hl (by decide +kernel)) (suc (kc_q37_ok l G lam hl) (suc (kc_q71_ok l G lam hl) (suc (kc_q76_ok l G lam hl) (suc (kc_q38_ok l G lam hl) (suc (kc_q36_ok l G lam hl) (suc (kc_q78_ok l G lam hl) sun)))))) (by decide +kernel)
/-- X1_thumbsOfHour -/
def kc_q81 : SU := (102, 5, [.inr (.inl (some 99))], some (0, 4294967295), [(84, 999), (85, 999), (100, 999), (101, 999)])
set_option maxRecDepth 1000000 in
theorem kc_q81_ok (l : Launch) (G : PG) (lam : Nat → Nat) (hl : LAMC lam) : SUOK lam TCl EXT l G kc_q81 := chk_ok (sums := [kc_q3, kc_q44, kc_q70, kc_q76, kc_q77]) (F := 20000) MT_ok (fun _ _ _ _ => trivial) (hiL hl (by decide +kernel)) (suc (kc_q3_ok l G lam hl) (suc (kc_q44_ok l G lam hl) (suc (kc_q70_ok l G lam hl) (suc (kc_q76_ok l G lam hl) (suc (kc_q77_ok l G lam hl) sun))))) (by decide +kernel)
/-- X1_skyOfHour -/
def kc_q82 : SU := (100, 4, [.inr (.inl (some 99))], none, [(83, 3), (84, 999), (85, 999)])
set_option maxRecDepth 1000000 in
theorem kc_q82_ok (l : Launch) (G : PG) (lam : Nat → Nat) (hl : LAMC lam) : SUOK lam TCl EXT l G kc_q82 := chk_ok (sums := [kc_q4, kc_q34, kc_q78]) (F := 20000) MT_ok (fun _ _ _ _ => trivial) (hiL hl (by decide +kernel)) (suc (kc_q4_ok l G lam hl) (suc (kc_q34_ok l G lam hl) (suc (kc_q78_ok l G lam hl) sun))) (by decide +kernel)
/-- X1_oneHour -/
def kc_q83 : SU := (98, 7, [.inr (.inl (some 99))], some (0, 4294967295), [(83, 3), (83, 4), (83, 5), (83, 6), (83, 7), (84, 999), (85, 999), (100, 999), (101, 999)])
set_option maxRecDepth 1000000 in
theorem kc_q83_ok (l : Launch) (G : PG) (lam : Nat → Nat) (hl : LAMC lam) : SUOK lam TCl EXT l G kc_q83 := chk_ok (sums := [kc_q82, kc_q81, kc_q80, kc_q79]) (F := 20000) MT_ok (fun _ _ _ _ => trivial) (hiL hl (by decide +kernel)) (suc (kc_q82_ok l G lam hl) (suc (kc_q81_ok l G lam hl) (suc (kc_q80_ok l G lam hl) (suc (kc_q79_ok l G lam hl) sun)))) (by decide +kernel)
/-- X9_item -/
def kc_q84 : SU := (3, 1, [.inr (.inl (some 12)), .inr (.inr (.inr (0, 4294967295)))], some (0, 4294967295), [])
set_option maxRecDepth 1000000 in
theorem kc_q84_ok (l : Launch) (G : PG) (lam : Nat → Nat) (hl : LAMC lam) : SUOK lam TCl EXT l G kc_q84 := chk_ok (sums := []) (F := 20000) MT_ok (fun _ _ _ _ => trivial) (hiL hl (by decide +kernel)) sun (by decide +kernel)
/-- X9_add -/
def kc_q85 : SU := (142, 1, [.inr (.inl (some 12)), .inr (.inr (.inr (0, 4294967295)))], some (2147483647, 2147483654), [(12, 1), (13, 999)])
set_option maxRecDepth 1000000 in
theorem kc_q85_ok (l : Launch) (G : PG) (lam : Nat → Nat) (hl : LAMC lam) : SUOK lam TCl EXT l G kc_q85 := chk_ok (sums := []) (F := 20000) MT_ok (fun _ _ _ _ => trivial) (hiL hl (by decide +kernel)) sun (by decide +kernel)
/-- X9_item -/
def kc_q86 : SU := (3, 1, [.inr (.inl (some 14)), .inr (.inr (.inr (0, 4294967295)))], some (0, 4294967295), [])
set_option maxRecDepth 1000000 in
theorem kc_q86_ok (l : Launch) (G : PG) (lam : Nat → Nat) (hl : LAMC lam) : SUOK lam TCl EXT l G kc_q86 := chk_ok (sums := []) (F := 20000) MT_ok (fun _ _ _ _ => trivial) (hiL hl (by decide +kernel)) sun (by decide +kernel)
/-- X9_add -/
def kc_q87 : SU := (142, 1, [.inr (.inl (some 14)), .inr (.inr (.inr (0, 4294967295)))], some (2147483647, 2147483664), [(14, 1), (15, 999)])
set_option maxRecDepth 1000000 in
theorem kc_q87_ok (l : Launch) (G : PG) (lam : Nat → Nat) (hl : LAMC lam) : SUOK lam TCl EXT l G kc_q87 := chk_ok (sums := []) (F := 20000) MT_ok (fun _ _ _ _ => trivial) (hiL hl (by decide +kernel)) sun (by decide +kernel)
/-- X9_item -/
def kc_q88 : SU := (3, 1, [.inr (.inl (some 16)), .inr (.inr (.inr (0, 4294967295)))], some (0, 4294967295), [])
set_option maxRecDepth 1000000 in
theorem kc_q88_ok (l : Launch) (G : PG) (lam : Nat → Nat) (hl : LAMC lam) : SUOK lam TCl EXT l G kc_q88 := chk_ok (sums := []) (F := 20000) MT_ok (fun _ _ _ _ => trivial) (hiL hl (by decide +kernel)) sun (by decide +kernel)
/-- X9_add -/
def kc_q89 : SU := (142, 1, [.inr (.inl (some 16)), .inr (.inr (.inr (0, 4294967295)))], some (2147483647, 2147483663), [(16, 1), (17, 999)])
set_option maxRecDepth 1000000 in
theorem kc_q89_ok (l : Launch) (G : PG) (lam : Nat → Nat) (hl : LAMC lam) : SUOK lam TCl EXT l G kc_q89 := chk_ok (sums := []) (F := 20000) MT_ok (fun _ _ _ _ => trivial) (hiL hl (by decide +kernel)) sun (by decide +kernel)
/-- X9_item -/
def kc_q90 : SU := (3, 1, [.inr (.inl (some 18)), .inr (.inr (.inr (0, 4294967295)))], some (0, 4294967295), [])
set_option maxRecDepth 1000000 in
theorem kc_q90_ok (l : Launch) (G : PG) (lam : Nat → Nat) (hl : LAMC lam) : SUOK lam TCl EXT l G kc_q90 := chk_ok (sums := []) (F := 20000) MT_ok (fun _ _ _ _ => trivial) (hiL hl (by decide +kernel)) sun (by decide +kernel)
/-- X9_add -/
def kc_q91 : SU := (142, 1, [.inr (.inl (some 18)), .inr (.inr (.inr (0, 4294967295)))], some (2147483647, 2147483663), [(18, 1), (19, 999)])
set_option maxRecDepth 1000000 in
theorem kc_q91_ok (l : Launch) (G : PG) (lam : Nat → Nat) (hl : LAMC lam) : SUOK lam TCl EXT l G kc_q91 := chk_ok (sums := []) (F := 20000) MT_ok (fun _ _ _ _ => trivial) (hiL hl (by decide +kernel)) sun (by decide +kernel)
/-- X9_item -/
def kc_q92 : SU := (3, 1, [.inr (.inl (some 20)), .inr (.inr (.inr (0, 4294967295)))], some (0, 4294967295), [])
set_option maxRecDepth 1000000 in
theorem kc_q92_ok (l : Launch) (G : PG) (lam : Nat → Nat) (hl : LAMC lam) : SUOK lam TCl EXT l G kc_q92 := chk_ok (sums := []) (F := 20000) MT_ok (fun _ _ _ _ => trivial) (hiL hl (by decide +kernel)) sun (by decide +kernel)
/-- X9_add -/
def kc_q93 : SU := (142, 1, [.inr (.inl (some 20)), .inr (.inr (.inr (0, 4294967295)))], some (2147483647, 2147483656), [(20, 1), (21, 999)])
set_option maxRecDepth 1000000 in
theorem kc_q93_ok (l : Launch) (G : PG) (lam : Nat → Nat) (hl : LAMC lam) : SUOK lam TCl EXT l G kc_q93 := chk_ok (sums := []) (F := 20000) MT_ok (fun _ _ _ _ => trivial) (hiL hl (by decide +kernel)) sun (by decide +kernel)
/-- X9_item -/
def kc_q94 : SU := (3, 1, [.inr (.inl (some 22)), .inr (.inr (.inr (0, 4294967295)))], some (0, 4294967295), [])
set_option maxRecDepth 1000000 in
theorem kc_q94_ok (l : Launch) (G : PG) (lam : Nat → Nat) (hl : LAMC lam) : SUOK lam TCl EXT l G kc_q94 := chk_ok (sums := []) (F := 20000) MT_ok (fun _ _ _ _ => trivial) (hiL hl (by decide +kernel)) sun (by decide +kernel)
/-- X9_add -/
def kc_q95 : SU := (142, 1, [.inr (.inl (some 22)), .inr (.inr (.inr (0, 4294967295)))], some (2147483647, 2147483656), [(22, 1), (23, 999)])
set_option maxRecDepth 1000000 in
theorem kc_q95_ok (l : Launch) (G : PG) (lam : Nat → Nat) (hl : LAMC lam) : SUOK lam TCl EXT l G kc_q95 := chk_ok (sums := []) (F := 20000) MT_ok (fun _ _ _ _ => trivial) (hiL hl (by decide +kernel)) sun (by decide +kernel)
/-- X9_item -/
def kc_q96 : SU := (3, 1, [.inr (.inl (some 24)), .inr (.inr (.inr (0, 4294967295)))], some (0, 4294967295), [])
set_option maxRecDepth 1000000 in
theorem kc_q96_ok (l : Launch) (G : PG) (lam : Nat → Nat) (hl : LAMC lam) : SUOK lam TCl EXT l G kc_q96 := chk_ok (sums := []) (F := 20000) MT_ok (fun _ _ _ _ => trivial) (hiL hl (by decide +kernel)) sun (by decide +kernel)
/-- X9_add -/
def kc_q97 : SU := (142, 1, [.inr (.inl (some 24)), .inr (.inr (.inr (0, 4294967295)))], some (2147483647, 2147483660), [(24, 1), (25, 999)])
set_option maxRecDepth 1000000 in
theorem kc_q97_ok (l : Launch) (G : PG) (lam : Nat → Nat) (hl : LAMC lam) : SUOK lam TCl EXT l G kc_q97 := chk_ok (sums := []) (F := 20000) MT_ok (fun _ _ _ _ => trivial) (hiL hl (by decide +kernel)) sun (by decide +kernel)
/-- X9_item -/
def kc_q98 : SU := (3, 1, [.inr (.inl (some 26)), .inr (.inr (.inr (0, 4294967295)))], some (0, 4294967295), [])
set_option maxRecDepth 1000000 in
theorem kc_q98_ok (l : Launch) (G : PG) (lam : Nat → Nat) (hl : LAMC lam) : SUOK lam TCl EXT l G kc_q98 := chk_ok (sums := []) (F := 20000) MT_ok (fun _ _ _ _ => trivial) (hiL hl (by decide +kernel)) sun (by decide +kernel)
/-- X9_add -/
def kc_q99 : SU := (142, 1, [.inr (.inl (some 26)), .inr (.inr (.inr (0, 4294967295)))], some (2147483647, 2147483660), [(26, 1), (27, 999)])
set_option maxRecDepth 1000000 in
theorem kc_q99_ok (l : Launch) (G : PG) (lam : Nat → Nat) (hl : LAMC lam) : SUOK lam TCl EXT l G kc_q99 := chk_ok (sums := []) (F := 20000) MT_ok (fun _ _ _ _ => trivial) (hiL hl (by decide +kernel)) sun (by decide +kernel)
/-- X9_item -/
def kc_q100 : SU := (3, 1, [.inr (.inl (some 28)), .inr (.inr (.inr (0, 4294967295)))], some (0, 4294967295), [])
set_option maxRecDepth 1000000 in
theorem kc_q100_ok (l : Launch) (G : PG) (lam : Nat → Nat) (hl : LAMC lam) : SUOK lam TCl EXT l G kc_q100 := chk_ok (sums := []) (F := 20000) MT_ok (fun _ _ _ _ => trivial) (hiL hl (by decide +kernel)) sun (by decide +kernel)
/-- X9_add -/
def kc_q101 : SU := (142, 1, [.inr (.inl (some 28)), .inr (.inr (.inr (0, 4294967295)))], some (2147483647, 2147483660), [(28, 1), (29, 999)])
set_option maxRecDepth 1000000 in
theorem kc_q101_ok (l : Launch) (G : PG) (lam : Nat → Nat) (hl : LAMC lam) : SUOK lam TCl EXT l G kc_q101 := chk_ok (sums := []) (F := 20000) MT_ok (fun _ _ _ _ => trivial) (hiL hl (by decide +kernel)) sun (by decide +kernel)
