/-- X12_lesser -/
def kr_q1 : SU := (62, 1, [.inr (.inl (some 0)), .inr (.inr (.inr (0, 4294967295))), .inr (.inr (.inr (0, 4294967295)))], some (0, 4294967295), [])
set_option maxRecDepth 1000000 in
theorem kr_q1_ok (l : Launch) (G : PG) (lam : Nat → Nat) (hl : LAMR lam) (EX : PH → Prop) (hx : EXK lam EX) : SUOK lam TRf EX l G kr_q1 := chk_ok (sums := []) (F := 20000) MT_ok (hx _ (by decide +kernel)) (hiL hl (by decide +kernel)) sun (by decide +kernel)
/-- X12_greater -/
def kr_q2 : SU := (68, 1, [.inr (.inl (some 0)), .inr (.inr (.inr (0, 4294967295))), .inr (.inr (.inr (0, 4294967295)))], some (0, 4294967295), [])
set_option maxRecDepth 1000000 in
theorem kr_q2_ok (l : Launch) (G : PG) (lam : Nat → Nat) (hl : LAMR lam) (EX : PH → Prop) (hx : EXK lam EX) : SUOK lam TRf EX l G kr_q2 := chk_ok (sums := []) (F := 20000) MT_ok (hx _ (by decide +kernel)) (hiL hl (by decide +kernel)) sun (by decide +kernel)
/-- X12_isMarked -/
def kr_q3 : SU := (49, 1, [.inr (.inl (some 0)), .inr (.inr (.inr (2147483648, 2147483791)))], some (2147483648, 2147483649), [])
set_option maxRecDepth 1000000 in
theorem kr_q3_ok (l : Launch) (G : PG) (lam : Nat → Nat) (hl : LAMR lam) (EX : PH → Prop) (hx : EXK lam EX) : SUOK lam TRf EX l G kr_q3 := chk_ok (sums := []) (F := 20000) MT_ok (hx _ (by decide +kernel)) (hiL hl (by decide +kernel)) sun (by decide +kernel)
/-- X12_besideOf -/
def kr_q4 : SU := (53, 2, [.inr (.inl (some 0)), .inr (.inr (.inr (2147483648, 2147483791)))], some (2147483648, 2147483652), [])
set_option maxRecDepth 1000000 in
theorem kr_q4_ok (l : Launch) (G : PG) (lam : Nat → Nat) (hl : LAMR lam) (EX : PH → Prop) (hx : EXK lam EX) : SUOK lam TRf EX l G kr_q4 := chk_ok (sums := [kr_q3]) (F := 20000) MT_ok (hx _ (by decide +kernel)) (hiL hl (by decide +kernel)) (suc (kr_q3_ok l G lam hl EX hx) sun) (by decide +kernel)
/-- X12_asks -/
def kr_q5 : SU := (52, 1, [.inr (.inl (some 0)), .inr (.inr (.inr (2147483648, 2147483667))), .inr (.inr (.inr (0, 4294967295)))], none, [(21, 999)])
set_option maxRecDepth 1000000 in
theorem kr_q5_ok (l : Launch) (G : PG) (lam : Nat → Nat) (hl : LAMR lam) (EX : PH → Prop) (hx : EXK lam EX) : SUOK lam TRf EX l G kr_q5 := chk_ok (sums := []) (F := 20000) MT_ok (hx _ (by decide +kernel)) (hiL hl (by decide +kernel)) sun (by decide +kernel)
/-- X12_comesOf -/
def kr_q6 : SU := (198, 6, [.inr (.inl (some 0)), .inr (.inr (.inr (2147483648, 2147483667)))], some (2147483648, 2147484648), [(21, 999), (22, 999)])
set_option maxRecDepth 1000000 in
theorem kr_q6_ok (l : Launch) (G : PG) (lam : Nat → Nat) (hl : LAMR lam) (EX : PH → Prop) (hx : EXK lam EX) (hm2 : SUOK lam TRf EX l G kr_m2) : SUOK lam TRf EX l G kr_q6 := chk_ok (sums := [kr_q5, kr_m2]) (F := 20000) MT_ok (hx _ (by decide +kernel)) (hiL hl (by decide +kernel)) (suc (kr_q5_ok l G lam hl EX hx) (suc hm2 sun)) (by decide +kernel)
/-- X12_notes -/
def kr_q7 : SU := (243, 1, [.inr (.inl (some 0)), .inr (.inr (.inr (0, 4294967295))), .inr (.inr (.inr (0, 4294967295))), .inr (.inr (.inr (0, 4294967295)))], none, [(1, 999), (7, 999)])
set_option maxRecDepth 1000000 in
theorem kr_q7_ok (l : Launch) (G : PG) (lam : Nat → Nat) (hl : LAMR lam) (EX : PH → Prop) (hx : EXK lam EX) : SUOK lam TRf EX l G kr_q7 := chk_ok (sums := []) (F := 20000) MT_ok (hx _ (by decide +kernel)) (hiL hl (by decide +kernel)) sun (by decide +kernel)
/-- X12_isBare -/
def kr_q8 : SU := (220, 1, [.inr (.inl (some 0)), .inr (.inr (.inr (2147483648, 2147483791)))], none, [(1, 999)])
set_option maxRecDepth 1000000 in
theorem kr_q8_ok (l : Launch) (G : PG) (lam : Nat → Nat) (hl : LAMR lam) (EX : PH → Prop) (hx : EXK lam EX) : SUOK lam TRf EX l G kr_q8 := chk_ok (sums := []) (F := 20000) MT_ok (hx _ (by decide +kernel)) (hiL hl (by decide +kernel)) sun (by decide +kernel)
/-- X12_presses -/
def kr_q9 : SU := (249, 2, [.inr (.inl (some 0)), .inr (.inr (.inr (2147483648, 2147483667))), .inr (.inr (.inr (2147483648, 2147483659)))], some (2147483648, 2147483791), [(1, 999), (7, 999)])
set_option maxRecDepth 1000000 in
theorem kr_q9_ok (l : Launch) (G : PG) (lam : Nat → Nat) (hl : LAMR lam) (EX : PH → Prop) (hx : EXK lam EX) : SUOK lam TRf EX l G kr_q9 := chk_ok (sums := [kr_q3, kr_q7, kr_q1]) (F := 20000) MT_ok (hx _ (by decide +kernel)) (hiL hl (by decide +kernel)) (suc (kr_q3_ok l G lam hl EX hx) (suc (kr_q7_ok l G lam hl EX hx) (suc (kr_q1_ok l G lam hl EX hx) sun))) (by decide +kernel)
/-- X12_isLifted -/
def kr_q10 : SU := (223, 2, [.inr (.inl (some 0)), .inr (.inr (.inr (2147483648, 2147483791)))], none, [(1, 999), (7, 999)])
set_option maxRecDepth 1000000 in
theorem kr_q10_ok (l : Launch) (G : PG) (lam : Nat → Nat) (hl : LAMR lam) (EX : PH → Prop) (hx : EXK lam EX) : SUOK lam TRf EX l G kr_q10 := chk_ok (sums := [kr_q3, kr_q7, kr_q8]) (F := 20000) MT_ok (hx _ (by decide +kernel)) (hiL hl (by decide +kernel)) (suc (kr_q3_ok l G lam hl EX hx) (suc (kr_q7_ok l G lam hl EX hx) (suc (kr_q8_ok l G lam hl EX hx) sun))) (by decide +kernel)
/-- X12_canPress -/
def kr_q11 : SU := (193, 1, [.inr (.inl (some 0)), .inr (.inr (.inr (2147483648, 2147483667)))], some (2147483648, 2147483649), [])
set_option maxRecDepth 1000000 in
theorem kr_q11_ok (l : Launch) (G : PG) (lam : Nat → Nat) (hl : LAMR lam) (EX : PH → Prop) (hx : EXK lam EX) : SUOK lam TRf EX l G kr_q11 := chk_ok (sums := []) (F := 20000) MT_ok (hx _ (by decide +kernel)) (hiL hl (by decide +kernel)) sun (by decide +kernel)
/-- X12_draw -/
def kr_q12 : SU := (204, 1, [.inr (.inl (some 0)), .inr (.inr (.inr (2147484648, 2147484648)))], some (0, 4294967295), [(1, 999)])
set_option maxRecDepth 1000000 in
theorem kr_q12_ok (l : Launch) (G : PG) (lam : Nat → Nat) (hl : LAMR lam) (EX : PH → Prop) (hx : EXK lam EX) : SUOK lam TRf EX l G kr_q12 := chk_ok (sums := []) (F := 20000) MT_ok (hx _ (by decide +kernel)) (hiL hl (by decide +kernel)) sun (by decide +kernel)
/-- X12_happens -/
def kr_q13 : SU := (216, 2, [.inr (.inl (some 0)), .inr (.inr (.inr (0, 4294967295)))], some (2147483648, 2147483649), [(1, 999)])
set_option maxRecDepth 1000000 in
theorem kr_q13_ok (l : Launch) (G : PG) (lam : Nat → Nat) (hl : LAMR lam) (EX : PH → Prop) (hx : EXK lam EX) : SUOK lam TRf EX l G kr_q13 := chk_ok (sums := [kr_q12]) (F := 20000) MT_ok (hx _ (by decide +kernel)) (hiL hl (by decide +kernel)) (suc (kr_q12_ok l G lam hl EX hx) sun) (by decide +kernel)
/-- X12_sumOf -/
def kr_q14 : SU := (48, 7, [.inr (.inl (some 0))], some (0, 4294967295), [(21, 999), (22, 999)])
set_option maxRecDepth 1000000 in
theorem kr_q14_ok (l : Launch) (G : PG) (lam : Nat → Nat) (hl : LAMR lam) (EX : PH → Prop) (hx : EXK lam EX) (hm2 : SUOK lam TRf EX l G kr_m2) : SUOK lam TRf EX l G kr_q14 := chk_ok (sums := [kr_q5, kr_q4, kr_m2]) (F := 20000) MT_ok (hx _ (by decide +kernel)) (hiL hl (by decide +kernel)) (suc (kr_q5_ok l G lam hl EX hx) (suc (kr_q4_ok l G lam hl EX hx) (suc hm2 sun))) (by decide +kernel)
/-- X12_evening -/
def kr_q15 : SU := (209, 8, [.inr (.inl (some 0))], none, [(1, 999), (7, 999), (21, 999), (22, 999)])
set_option maxRecDepth 1000000 in
theorem kr_q15_ok (l : Launch) (G : PG) (lam : Nat → Nat) (hl : LAMR lam) (EX : PH → Prop) (hx : EXK lam EX) (hm2 : SUOK lam TRf EX l G kr_m2) : SUOK lam TRf EX l G kr_q15 := chk_ok (sums := [kr_q14, kr_q7, kr_q8]) (F := 20000) MT_ok (hx _ (by decide +kernel)) (hiL hl (by decide +kernel)) (suc (kr_q14_ok l G lam hl EX hx hm2) (suc (kr_q7_ok l G lam hl EX hx) (suc (kr_q8_ok l G lam hl EX hx) sun))) (by decide +kernel)
/-- X12_goesBy -/
def kr_q16 : SU := (214, 9, [.inr (.inl (some 0))], some (0, 4294967295), [(1, 999), (7, 999), (21, 999), (22, 999)])
set_option maxRecDepth 1000000 in
theorem kr_q16_ok (l : Launch) (G : PG) (lam : Nat → Nat) (hl : LAMR lam) (EX : PH → Prop) (hx : EXK lam EX) (hm2 : SUOK lam TRf EX l G kr_m2) (hm3 : SUOK lam TRf EX l G kr_m3) (hm4 : SUOK lam TRf EX l G kr_m4) (hm5 : SUOK lam TRf EX l G kr_m5) (hm6 : SUOK lam TRf EX l G kr_m6) (hm7 : SUOK lam TRf EX l G kr_m7) (hm8 : SUOK lam TRf EX l G kr_m8) (hm9 : SUOK lam TRf EX l G kr_m9) (hm10 : SUOK lam TRf EX l G kr_m10) (hm11 : SUOK lam TRf EX l G kr_m11) (hm12 : SUOK lam TRf EX l G kr_m12) (hm13 : SUOK lam TRf EX l G kr_m13) (hm14 : SUOK lam TRf EX l G kr_m14) (hm15 : SUOK lam TRf EX l G kr_m15) (hm16 : SUOK lam TRf EX l G kr_m16) (hm17 : SUOK lam TRf EX l G kr_m17) (hm18 : SUOK lam TRf EX l G kr_m18) : SUOK lam TRf EX l G kr_q16 := chk_ok (sums := [kr_m18, kr_m17, kr_m16, kr_m15, kr_m14, kr_m13, kr_m12, kr_m11, kr_m10, kr_m9, kr_m8, kr_m7, kr_m6, kr_m5, kr_m4, kr_m3, kr_q11, kr_q6, kr_q13, kr_q9, kr_q5, kr_q4, kr_m2, kr_q7, kr_q8, kr_q15]) (F := 20000) MT_ok (hx _ (by decide +kernel)) (hiL hl (by decide +kernel)) (suc hm18 (suc hm17 (suc hm16 (suc hm15 (suc hm14 (suc hm13 (suc hm12 (suc hm11 (suc hm10 (suc hm9 (suc hm8 (suc hm7 (suc hm6 (suc hm5 (suc hm4 (suc hm3 (suc (kr_q11_ok l G lam hl EX hx) (suc (kr_q6_ok l G lam hl EX hx hm2) (suc (kr_q13_ok l G lam hl EX hx) (suc (kr_q9_ok l G lam hl EX hx) (suc (kr_q5_ok l G lam hl EX hx) (suc (kr_q4_ok l G lam hl EX hx) (suc hm2 (suc (kr_q7_ok l G lam hl EX hx) (suc (kr_q8_ok l G lam hl EX hx) (suc (kr_q15_ok l G lam hl EX hx hm2) sun)))))))))))))))))))))))))) (by decide +kernel)
/-- X12_state -/
def kr_q17 : SU := (277, 1, [.inr (.inl (some 0)), .inr (.inr (.inr (0, 4294967295)))], some (0, 4294967295), [(0, 0), (0, 3), (1, 999)])
set_option maxRecDepth 1000000 in
theorem kr_q17_ok (l : Launch) (G : PG) (lam : Nat → Nat) (hl : LAMR lam) (EX : PH → Prop) (hx : EXK lam EX) : SUOK lam TRf EX l G kr_q17 := chk_ok (sums := []) (F := 20000) MT_ok (hx _ (by decide +kernel)) (hiL hl (by decide +kernel)) sun (by decide +kernel)
/-- X12_voter -/
def kr_q18 : SU := (284, 2, [.inr (.inl (some 0)), .inr (.inr (.inr (0, 4294967295))), .inr (.inr (.inr (0, 4294967295))), .inr (.inr (.inr (0, 4294967295))), .inr (.inr (.inr (0, 4294967295)))], some (2147483647, 2147483667), [(0, 0), (0, 3), (0, 6), (1, 999), (4, 999), (5, 999), (6, 999)])
set_option maxRecDepth 1000000 in
theorem kr_q18_ok (l : Launch) (G : PG) (lam : Nat → Nat) (hl : LAMR lam) (EX : PH → Prop) (hx : EXK lam EX) : SUOK lam TRf EX l G kr_q18 := chk_ok (sums := []) (F := 20000) MT_ok (hx _ (by decide +kernel)) (hiL hl (by decide +kernel)) sun (by decide +kernel)
/-- X12_set -/
def kr_q19 : SU := (272, 3, [.inr (.inl (some 0)), .inr (.inr (.inr (0, 4294967295))), .inr (.inr (.inr (0, 4294967295))), .inr (.inr (.inr (0, 4294967295)))], some (2147483648, 2147483649), [(0, 0), (0, 3), (1, 999), (4, 999), (5, 999), (6, 999)])
set_option maxRecDepth 1000000 in
theorem kr_q19_ok (l : Launch) (G : PG) (lam : Nat → Nat) (hl : LAMR lam) (EX : PH → Prop) (hx : EXK lam EX) : SUOK lam TRf EX l G kr_q19 := chk_ok (sums := []) (F := 20000) MT_ok (hx _ (by decide +kernel)) (hiL hl (by decide +kernel)) sun (by decide +kernel)
