/-- X12_press -/
def kr_q20 : SU := (248, 3, [.inr (.inl (some 0)), .inr (.inr (.inr (0, 4294967295))), .inr (.inr (.inr (0, 4294967295)))], some (2147483647, 2147483791), [(0, 0), (0, 3), (1, 999), (2, 999), (7, 999)])
set_option maxRecDepth 1000000 in
theorem kr_q20_ok (l : Launch) (G : PG) (lam : Nat → Nat) (hl : LAMR lam) (EX : PH → Prop) (hx : EXK lam EX) (hm1 : SUOK lam TRf EX l G kr_m1) : SUOK lam TRf EX l G kr_q20 := chk_ok (sums := [kr_q11, kr_m1, kr_q9]) (F := 20000) MT_ok (hx _ (by decide +kernel)) (hiL hl (by decide +kernel)) (suc (kr_q11_ok l G lam hl EX hx) (suc hm1 (suc (kr_q9_ok l G lam hl EX hx) sun))) (by decide +kernel)
/-- X12_lift -/
def kr_q21 : SU := (235, 3, [.inr (.inl (some 0)), .inr (.inr (.inr (0, 4294967295))), .inr (.inr (.inr (0, 4294967295)))], some (2147483648, 2147483649), [(0, 0), (0, 3), (1, 999), (2, 999), (7, 999)])
set_option maxRecDepth 1000000 in
theorem kr_q21_ok (l : Launch) (G : PG) (lam : Nat → Nat) (hl : LAMR lam) (EX : PH → Prop) (hx : EXK lam EX) (hm1 : SUOK lam TRf EX l G kr_m1) : SUOK lam TRf EX l G kr_q21 := chk_ok (sums := [kr_q3, kr_m1, kr_q10]) (F := 20000) MT_ok (hx _ (by decide +kernel)) (hiL hl (by decide +kernel)) (suc (kr_q3_ok l G lam hl EX hx) (suc hm1 (suc (kr_q10_ok l G lam hl EX hx) sun))) (by decide +kernel)
/-- X12_hand -/
def kr_q22 : SU := (215, 2, [.inr (.inl (some 0)), .inr (.inr (.inr (0, 4294967295))), .inr (.inr (.inr (0, 4294967295)))], some (2147483648, 2147483649), [(0, 0), (0, 3), (1, 999), (2, 999)])
set_option maxRecDepth 1000000 in
theorem kr_q22_ok (l : Launch) (G : PG) (lam : Nat → Nat) (hl : LAMR lam) (EX : PH → Prop) (hx : EXK lam EX) (hm1 : SUOK lam TRf EX l G kr_m1) : SUOK lam TRf EX l G kr_q22 := chk_ok (sums := [kr_m1]) (F := 20000) MT_ok (hx _ (by decide +kernel)) (hiL hl (by decide +kernel)) (suc hm1 sun) (by decide +kernel)
/-- X12_hours -/
def kr_q23 : SU := (217, 10, [.inr (.inl (some 0)), .inr (.inr (.inr (0, 4294967295)))], some (0, 4294967295), [(0, 0), (0, 3), (1, 999), (2, 999), (7, 999), (21, 999), (22, 999)])
set_option maxRecDepth 1000000 in
theorem kr_q23_ok (l : Launch) (G : PG) (lam : Nat → Nat) (hl : LAMR lam) (EX : PH → Prop) (hx : EXK lam EX) (hm1 : SUOK lam TRf EX l G kr_m1) (hm2 : SUOK lam TRf EX l G kr_m2) (hm3 : SUOK lam TRf EX l G kr_m3) (hm4 : SUOK lam TRf EX l G kr_m4) (hm5 : SUOK lam TRf EX l G kr_m5) (hm6 : SUOK lam TRf EX l G kr_m6) (hm7 : SUOK lam TRf EX l G kr_m7) (hm8 : SUOK lam TRf EX l G kr_m8) (hm9 : SUOK lam TRf EX l G kr_m9) (hm10 : SUOK lam TRf EX l G kr_m10) (hm11 : SUOK lam TRf EX l G kr_m11) (hm12 : SUOK lam TRf EX l G kr_m12) (hm13 : SUOK lam TRf EX l G kr_m13) (hm14 : SUOK lam TRf EX l G kr_m14) (hm15 : SUOK lam TRf EX l G kr_m15) (hm16 : SUOK lam TRf EX l G kr_m16) (hm17 : SUOK lam TRf EX l G kr_m17) (hm18 : SUOK lam TRf EX l G kr_m18) : SUOK lam TRf EX l G kr_q23 := chk_ok (sums := [kr_m1, kr_q16]) (F := 20000) MT_ok (hx _ (by decide +kernel)) (hiL hl (by decide +kernel)) (suc hm1 (suc (kr_q16_ok l G lam hl EX hx hm2 hm3 hm4 hm5 hm6 hm7 hm8 hm9 hm10 hm11 hm12 hm13 hm14 hm15 hm16 hm17 hm18) sun)) (by decide +kernel)
/-- X12_feed -/
def kr_q24 : SU := (211, 2, [.inr (.inl (some 0)), .inr (.inr (.inr (0, 4294967295))), .inr (.inr (.inr (0, 4294967295))), .inr (.inr (.inr (0, 4294967295))), .inr (.inr (.inr (0, 4294967295))), .inr (.inr (.inr (0, 4294967295)))], some (2147483647, 2147484048), [(0, 0), (0, 12), (8, 999)])
set_option maxRecDepth 1000000 in
theorem kr_q24_ok (l : Launch) (G : PG) (lam : Nat → Nat) (hl : LAMR lam) (EX : PH → Prop) (hx : EXK lam EX) : SUOK lam TRf EX l G kr_q24 := chk_ok (sums := []) (F := 20000) MT_ok (hx _ (by decide +kernel)) (hiL hl (by decide +kernel)) sun (by decide +kernel)
/-- X12_end -/
def kr_q25 : SU := (206, 2, [.inr (.inl (some 0)), .inr (.inr (.inr (0, 4294967295)))], some (2147483648, 2147483649), [(0, 0), (0, 12)])
set_option maxRecDepth 1000000 in
theorem kr_q25_ok (l : Launch) (G : PG) (lam : Nat → Nat) (hl : LAMR lam) (EX : PH → Prop) (hx : EXK lam EX) : SUOK lam TRf EX l G kr_q25 := chk_ok (sums := []) (F := 20000) MT_ok (hx _ (by decide +kernel)) (hiL hl (by decide +kernel)) sun (by decide +kernel)
/-- X12_fault -/
def kr_q26 : SU := (210, 1, [.inr (.inl (some 0)), .inr (.inr (.inr (0, 4294967295)))], some (0, 4294967295), [(0, 0)])
set_option maxRecDepth 1000000 in
theorem kr_q26_ok (l : Launch) (G : PG) (lam : Nat → Nat) (hl : LAMR lam) (EX : PH → Prop) (hx : EXK lam EX) : SUOK lam TRf EX l G kr_q26 := chk_ok (sums := []) (F := 20000) MT_ok (hx _ (by decide +kernel)) (hiL hl (by decide +kernel)) sun (by decide +kernel)
/-- X12_of -/
def kr_q27 : SU := (244, 7, [.inr (.inl (some 0)), .inr (.inr (.inr (0, 4294967295))), .inr (.inr (.inr (0, 4294967295)))], some (0, 4294967295), [(0, 0), (21, 999), (22, 999)])
set_option maxRecDepth 1000000 in
theorem kr_q27_ok (l : Launch) (G : PG) (lam : Nat → Nat) (hl : LAMR lam) (EX : PH → Prop) (hx : EXK lam EX) (hm2 : SUOK lam TRf EX l G kr_m2) : SUOK lam TRf EX l G kr_q27 := chk_ok (sums := [kr_q6]) (F := 20000) MT_ok (hx _ (by decide +kernel)) (hiL hl (by decide +kernel)) (suc (kr_q6_ok l G lam hl EX hx hm2) sun) (by decide +kernel)
/-- X12_cell -/
def kr_q28 : SU := (197, 7, [.inr (.inl (some 0)), .inr (.inr (.inr (0, 4294967295))), .inr (.inr (.inr (0, 4294967295))), .inr (.inr (.inr (0, 4294967295)))], some (0, 4294967295), [(0, 0), (21, 999), (22, 999)])
set_option maxRecDepth 1000000 in
theorem kr_q28_ok (l : Launch) (G : PG) (lam : Nat → Nat) (hl : LAMR lam) (EX : PH → Prop) (hx : EXK lam EX) (hm2 : SUOK lam TRf EX l G kr_m2) : SUOK lam TRf EX l G kr_q28 := chk_ok (sums := [kr_q5, kr_q4, kr_m2]) (F := 20000) MT_ok (hx _ (by decide +kernel)) (hiL hl (by decide +kernel)) (suc (kr_q5_ok l G lam hl EX hx) (suc (kr_q4_ok l G lam hl EX hx) (suc hm2 sun))) (by decide +kernel)
/-- X12_book -/
def kr_q29 : SU := (191, 2, [.inr (.inl (some 0)), .inr (.inr (.inr (0, 4294967295))), .inr (.inr (.inr (0, 4294967295)))], some (0, 4294967295), [(0, 0)])
set_option maxRecDepth 1000000 in
theorem kr_q29_ok (l : Launch) (G : PG) (lam : Nat → Nat) (hl : LAMR lam) (EX : PH → Prop) (hx : EXK lam EX) : SUOK lam TRf EX l G kr_q29 := chk_ok (sums := []) (F := 20000) MT_ok (hx _ (by decide +kernel)) (hiL hl (by decide +kernel)) sun (by decide +kernel)
/-- X12_markMany -/
def kr_q30 : SU := (237, 2, [.inr (.inl (some 0))], some (0, 4294967295), [])
set_option maxRecDepth 1000000 in
theorem kr_q30_ok (l : Launch) (G : PG) (lam : Nat → Nat) (hl : LAMR lam) (EX : PH → Prop) (hx : EXK lam EX) : SUOK lam TRf EX l G kr_q30 := chk_ok (sums := [kr_q3]) (F := 20000) MT_ok (hx _ (by decide +kernel)) (hiL hl (by decide +kernel)) (suc (kr_q3_ok l G lam hl EX hx) sun) (by decide +kernel)
/-- X12_goes -/
def kr_q31 : SU := (213, 10, [.inr (.inl (some 0)), .inr (.inr (.inr (0, 4294967295))), .inr (.inr (.inr (0, 4294967295)))], some (0, 4294967295), [(0, 0), (0, 5), (1, 999), (3, 999), (7, 999), (21, 999), (22, 999)])
set_option maxRecDepth 1000000 in
theorem kr_q31_ok (l : Launch) (G : PG) (lam : Nat → Nat) (hl : LAMR lam) (EX : PH → Prop) (hx : EXK lam EX) (hm2 : SUOK lam TRf EX l G kr_m2) (hm3 : SUOK lam TRf EX l G kr_m3) (hm4 : SUOK lam TRf EX l G kr_m4) (hm5 : SUOK lam TRf EX l G kr_m5) (hm6 : SUOK lam TRf EX l G kr_m6) (hm7 : SUOK lam TRf EX l G kr_m7) (hm8 : SUOK lam TRf EX l G kr_m8) (hm9 : SUOK lam TRf EX l G kr_m9) (hm10 : SUOK lam TRf EX l G kr_m10) (hm11 : SUOK lam TRf EX l G kr_m11) (hm12 : SUOK lam TRf EX l G kr_m12) (hm13 : SUOK lam TRf EX l G kr_m13) (hm14 : SUOK lam TRf EX l G kr_m14) (hm15 : SUOK lam TRf EX l G kr_m15) (hm16 : SUOK lam TRf EX l G kr_m16) (hm17 : SUOK lam TRf EX l G kr_m17) (hm18 : SUOK lam TRf EX l G kr_m18) (hm21 : SUOK lam TRf EX l G kr_m21) (hm22 : SUOK lam TRf EX l G kr_m22) : SUOK lam TRf EX l G kr_q31 := chk_ok (sums := [kr_m21, kr_q16, kr_m22, kr_q30, kr_q14]) (F := 20000) MT_ok (hx _ (by decide +kernel)) (hiL hl (by decide +kernel)) (suc hm21 (suc (kr_q16_ok l G lam hl EX hx hm2 hm3 hm4 hm5 hm6 hm7 hm8 hm9 hm10 hm11 hm12 hm13 hm14 hm15 hm16 hm17 hm18) (suc hm22 (suc (kr_q30_ok l G lam hl EX hx) (suc (kr_q14_ok l G lam hl EX hx hm2) sun))))) (by decide +kernel)
/-- X12_partOf -/
def kr_q32 : SU := (67, 1, [.inr (.inl (some 0)), .inr (.inr (.inr (0, 4294967295)))], some (0, 4294967295), [])
set_option maxRecDepth 1000000 in
theorem kr_q32_ok (l : Launch) (G : PG) (lam : Nat → Nat) (hl : LAMR lam) (EX : PH → Prop) (hx : EXK lam EX) : SUOK lam TRf EX l G kr_q32 := chk_ok (sums := []) (F := 20000) MT_ok (hx _ (by decide +kernel)) (hiL hl (by decide +kernel)) sun (by decide +kernel)
/-- X12_holes -/
def kr_q33 : SU := (64, 2, [.inr (.inl (some 0))], some (0, 4294967295), [])
set_option maxRecDepth 1000000 in
theorem kr_q33_ok (l : Launch) (G : PG) (lam : Nat → Nat) (hl : LAMR lam) (EX : PH → Prop) (hx : EXK lam EX) : SUOK lam TRf EX l G kr_q33 := chk_ok (sums := [kr_q3]) (F := 20000) MT_ok (hx _ (by decide +kernel)) (hiL hl (by decide +kernel)) (suc (kr_q3_ok l G lam hl EX hx) sun) (by decide +kernel)
/-- X12_blobs -/
def kr_q34 : SU := (66, 2, [.inr (.inl (some 0)), .inr (.inr (.inr (2147483648, 2147483649)))], some (0, 4294967295), [])
set_option maxRecDepth 1000000 in
theorem kr_q34_ok (l : Launch) (G : PG) (lam : Nat → Nat) (hl : LAMR lam) (EX : PH → Prop) (hx : EXK lam EX) : SUOK lam TRf EX l G kr_q34 := chk_ok (sums := [kr_q3, kr_q32, kr_q2]) (F := 20000) MT_ok (hx _ (by decide +kernel)) (hiL hl (by decide +kernel)) (suc (kr_q3_ok l G lam hl EX hx) (suc (kr_q32_ok l G lam hl EX hx) (suc (kr_q2_ok l G lam hl EX hx) sun))) (by decide +kernel)
/-- X12_notFace -/
def kr_q35 : SU := (60, 1, [.inr (.inl (some 0))], some (0, 4294967295), [])
set_option maxRecDepth 1000000 in
theorem kr_q35_ok (l : Launch) (G : PG) (lam : Nat → Nat) (hl : LAMR lam) (EX : PH → Prop) (hx : EXK lam EX) : SUOK lam TRf EX l G kr_q35 := chk_ok (sums := []) (F := 20000) MT_ok (hx _ (by decide +kernel)) (hiL hl (by decide +kernel)) sun (by decide +kernel)
/-- X12_bareSquare -/
def kr_q36 : SU := (61, 2, [.inr (.inl (some 0)), .inr (.inr (.inr (2147483655, 2147483657)))], some (0, 4294967295), [(23, 999)])
set_option maxRecDepth 1000000 in
theorem kr_q36_ok (l : Launch) (G : PG) (lam : Nat → Nat) (hl : LAMR lam) (EX : PH → Prop) (hx : EXK lam EX) : SUOK lam TRf EX l G kr_q36 := chk_ok (sums := [kr_q3, kr_q1]) (F := 20000) MT_ok (hx _ (by decide +kernel)) (hiL hl (by decide +kernel)) (suc (kr_q3_ok l G lam hl EX hx) (suc (kr_q1_ok l G lam hl EX hx) sun)) (by decide +kernel)
/-- X12_wax -/
def kr_q37 : SU := (46, 9, [.inr (.inl (some 0)), .inr (.inr (.inr (0, 4294967295)))], some (0, 4294967295), [(0, 0), (21, 999), (22, 999), (23, 999)])
set_option maxRecDepth 1000000 in
theorem kr_q37_ok (l : Launch) (G : PG) (lam : Nat → Nat) (hl : LAMR lam) (EX : PH → Prop) (hx : EXK lam EX) (hm2 : SUOK lam TRf EX l G kr_m2) (hm19 : SUOK lam TRf EX l G kr_m19) (hm20 : SUOK lam TRf EX l G kr_m20) : SUOK lam TRf EX l G kr_q37 := chk_ok (sums := [kr_q14, kr_m19, kr_q35, kr_q36, kr_m20, kr_q33, kr_q34]) (F := 20000) MT_ok (hx _ (by decide +kernel)) (hiL hl (by decide +kernel)) (suc (kr_q14_ok l G lam hl EX hx hm2) (suc hm19 (suc (kr_q35_ok l G lam hl EX hx) (suc (kr_q36_ok l G lam hl EX hx) (suc hm20 (suc (kr_q33_ok l G lam hl EX hx) (suc (kr_q34_ok l G lam hl EX hx) sun))))))) (by decide +kernel)
/-- X12_whose -/
def kr_q38 : SU := (286, 2, [.inr (.inl (some 0)), .inr (.inr (.inr (0, 4294967295))), .inr (.inr (.inr (0, 4294967295)))], some (2147483647, 4294967295), [(0, 0)])
set_option maxRecDepth 1000000 in
theorem kr_q38_ok (l : Launch) (G : PG) (lam : Nat → Nat) (hl : LAMR lam) (EX : PH → Prop) (hx : EXK lam EX) : SUOK lam TRf EX l G kr_q38 := chk_ok (sums := [kr_q0]) (F := 20000) MT_ok (hx _ (by decide +kernel)) (hiL hl (by decide +kernel)) (suc (kr_q0_ok l G lam hl EX hx) sun) (by decide +kernel)
/-- X12_could -/
def kr_q39 : SU := (199, 2, [.inr (.inl (some 0)), .inr (.inr (.inr (0, 4294967295)))], some (0, 4294967295), [(0, 0)])
set_option maxRecDepth 1000000 in
theorem kr_q39_ok (l : Launch) (G : PG) (lam : Nat → Nat) (hl : LAMR lam) (EX : PH → Prop) (hx : EXK lam EX) : SUOK lam TRf EX l G kr_q39 := chk_ok (sums := []) (F := 20000) MT_ok (hx _ (by decide +kernel)) (hiL hl (by decide +kernel)) sun (by decide +kernel)
