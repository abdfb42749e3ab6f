/-- X12_party -/
def kr_q40 : SU := (247, 2, [.inr (.inl (some 0)), .inr (.inr (.inr (0, 4294967295)))], some (2147483647, 2147483654), [(0, 0), (0, 43), (24, 999)])
set_option maxRecDepth 1000000 in
theorem kr_q40_ok (l : Launch) (G : PG) (lam : Nat → Nat) (hl : LAMR lam) (EX : PH → Prop) (hx : EXK lam EX) : SUOK lam TRf EX l G kr_q40 := chk_ok (sums := []) (F := 20000) MT_ok (hx _ (by decide +kernel)) (hiL hl (by decide +kernel)) sun (by decide +kernel)
/-- X12_seats -/
def kr_q41 : SU := (271, 2, [.inr (.inl (some 0)), .inr (.inr (.inr (0, 4294967295))), .inr (.inr (.inr (0, 4294967295))), .inr (.inr (.inr (0, 4294967295)))], some (0, 4294967295), [(0, 0), (25, 999)])
set_option maxRecDepth 1000000 in
theorem kr_q41_ok (l : Launch) (G : PG) (lam : Nat → Nat) (hl : LAMR lam) (EX : PH → Prop) (hx : EXK lam EX) : SUOK lam TRf EX l G kr_q41 := chk_ok (sums := []) (F := 20000) MT_ok (hx _ (by decide +kernel)) (hiL hl (by decide +kernel)) sun (by decide +kernel)
/-- X12_house -/
def kr_q42 : SU := (218, 2, [.inr (.inl (some 0)), .inr (.inr (.inr (0, 4294967295)))], some (2147483647, 2147483664), [(0, 0), (0, 46), (26, 999)])
set_option maxRecDepth 1000000 in
theorem kr_q42_ok (l : Launch) (G : PG) (lam : Nat → Nat) (hl : LAMR lam) (EX : PH → Prop) (hx : EXK lam EX) : SUOK lam TRf EX l G kr_q42 := chk_ok (sums := []) (F := 20000) MT_ok (hx _ (by decide +kernel)) (hiL hl (by decide +kernel)) sun (by decide +kernel)
/-- X12_findsParishes -/
def kr_q43 : SU := (212, 2, [.inr (.inl (some 0)), .inr (.inr (.inr (2147483648, 2147483656))), .inr (.inr (.inr (2147483648, 2147483664)))], none, [(27, 999), (28, 999)])
set_option maxRecDepth 1000000 in
theorem kr_q43_ok (l : Launch) (G : PG) (lam : Nat → Nat) (hl : LAMR lam) (EX : PH → Prop) (hx : EXK lam EX) : SUOK lam TRf EX l G kr_q43 := chk_ok (sums := [kr_q2, kr_q1]) (F := 20000) MT_ok (hx _ (by decide +kernel)) (hiL hl (by decide +kernel)) (suc (kr_q2_ok l G lam hl EX hx) (suc (kr_q1_ok l G lam hl EX hx) sun)) (by decide +kernel)
/-- X12_parishes -/
def kr_q44 : SU := (246, 3, [.inr (.inl (some 0)), .inr (.inr (.inr (0, 4294967295))), .inr (.inr (.inr (0, 4294967295)))], some (0, 4294967295), [(0, 0), (27, 999), (28, 999)])
set_option maxRecDepth 1000000 in
theorem kr_q44_ok (l : Launch) (G : PG) (lam : Nat → Nat) (hl : LAMR lam) (EX : PH → Prop) (hx : EXK lam EX) : SUOK lam TRf EX l G kr_q44 := chk_ok (sums := [kr_q43]) (F := 20000) MT_ok (hx _ (by decide +kernel)) (hiL hl (by decide +kernel)) (suc (kr_q43_ok l G lam hl EX hx) sun) (by decide +kernel)
/-- X12_wish -/
def kr_q45 : SU := (287, 2, [.inr (.inl (some 0)), .inr (.inr (.inr (0, 4294967295)))], some (2147483647, 2147483663), [(0, 0), (0, 50), (29, 999)])
set_option maxRecDepth 1000000 in
theorem kr_q45_ok (l : Launch) (G : PG) (lam : Nat → Nat) (hl : LAMR lam) (EX : PH → Prop) (hx : EXK lam EX) : SUOK lam TRf EX l G kr_q45 := chk_ok (sums := []) (F := 20000) MT_ok (hx _ (by decide +kernel)) (hiL hl (by decide +kernel)) sun (by decide +kernel)
/-- X12_name -/
def kr_q46 : SU := (242, 2, [.inr (.inl (some 0)), .inr (.inr (.inr (0, 4294967295)))], some (2147483647, 2147483663), [(0, 0), (0, 52), (30, 999)])
set_option maxRecDepth 1000000 in
theorem kr_q46_ok (l : Launch) (G : PG) (lam : Nat → Nat) (hl : LAMR lam) (EX : PH → Prop) (hx : EXK lam EX) : SUOK lam TRf EX l G kr_q46 := chk_ok (sums := []) (F := 20000) MT_ok (hx _ (by decide +kernel)) (hiL hl (by decide +kernel)) sun (by decide +kernel)
/-- X12_dearest -/
def kr_q47 : SU := (200, 2, [.inr (.inl (some 0)), .inr (.inr (.inr (2147483648, 2147483649)))], some (0, 4294967295), [])
set_option maxRecDepth 1000000 in
theorem kr_q47_ok (l : Launch) (G : PG) (lam : Nat → Nat) (hl : LAMR lam) (EX : PH → Prop) (hx : EXK lam EX) : SUOK lam TRf EX l G kr_q47 := chk_ok (sums := [kr_q2]) (F := 20000) MT_ok (hx _ (by decide +kernel)) (hiL hl (by decide +kernel)) (suc (kr_q2_ok l G lam hl EX hx) sun) (by decide +kernel)
/-- X12_middle -/
def kr_q48 : SU := (239, 3, [.inr (.inl (some 0)), .inr (.inr (.inr (0, 4294967295)))], some (0, 4294967295), [(0, 0)])
set_option maxRecDepth 1000000 in
theorem kr_q48_ok (l : Launch) (G : PG) (lam : Nat → Nat) (hl : LAMR lam) (EX : PH → Prop) (hx : EXK lam EX) (hm24 : SUOK lam TRf EX l G kr_m24) : SUOK lam TRf EX l G kr_q48 := chk_ok (sums := [kr_q47, kr_m24]) (F := 20000) MT_ok (hx _ (by decide +kernel)) (hiL hl (by decide +kernel)) (suc (kr_q47_ok l G lam hl EX hx) (suc hm24 sun)) (by decide +kernel)
/-- X12_candle -/
def kr_q49 : SU := (195, 2, [.inr (.inl (some 0)), .inr (.inr (.inr (0, 4294967295)))], some (2147483647, 2147483656), [(0, 0), (0, 54), (31, 999)])
set_option maxRecDepth 1000000 in
theorem kr_q49_ok (l : Launch) (G : PG) (lam : Nat → Nat) (hl : LAMR lam) (EX : PH → Prop) (hx : EXK lam EX) : SUOK lam TRf EX l G kr_q49 := chk_ok (sums := []) (F := 20000) MT_ok (hx _ (by decide +kernel)) (hiL hl (by decide +kernel)) sun (by decide +kernel)
/-- X12_candles -/
def kr_q50 : SU := (196, 2, [.inr (.inl (some 0)), .inr (.inr (.inr (0, 4294967295))), .inr (.inr (.inr (0, 4294967295)))], some (0, 4294967295), [(0, 0), (32, 999)])
set_option maxRecDepth 1000000 in
theorem kr_q50_ok (l : Launch) (G : PG) (lam : Nat → Nat) (hl : LAMR lam) (EX : PH → Prop) (hx : EXK lam EX) : SUOK lam TRf EX l G kr_q50 := chk_ok (sums := []) (F := 20000) MT_ok (hx _ (by decide +kernel)) (hiL hl (by decide +kernel)) sun (by decide +kernel)
/-- X12_door -/
def kr_q51 : SU := (203, 2, [.inr (.inl (some 0)), .inr (.inr (.inr (0, 4294967295))), .inr (.inr (.inr (0, 4294967295)))], some (2147483647, 2147483656), [(0, 0), (0, 57), (33, 999), (34, 999)])
set_option maxRecDepth 1000000 in
theorem kr_q51_ok (l : Launch) (G : PG) (lam : Nat → Nat) (hl : LAMR lam) (EX : PH → Prop) (hx : EXK lam EX) : SUOK lam TRf EX l G kr_q51 := chk_ok (sums := []) (F := 20000) MT_ok (hx _ (by decide +kernel)) (hiL hl (by decide +kernel)) sun (by decide +kernel)
/-- X12_stack -/
def kr_q52 : SU := (275, 2, [.inr (.inl (some 0))], some (0, 4294967295), [(0, 0), (35, 999)])
set_option maxRecDepth 1000000 in
theorem kr_q52_ok (l : Launch) (G : PG) (lam : Nat → Nat) (hl : LAMR lam) (EX : PH → Prop) (hx : EXK lam EX) : SUOK lam TRf EX l G kr_q52 := chk_ok (sums := [kr_q0, kr_q2]) (F := 20000) MT_ok (hx _ (by decide +kernel)) (hiL hl (by decide +kernel)) (suc (kr_q0_ok l G lam hl EX hx) (suc (kr_q2_ok l G lam hl EX hx) sun)) (by decide +kernel)
/-- X12_stands -/
def kr_q53 : SU := (276, 2, [.inr (.inl (some 0)), .inr (.inr (.inr (0, 4294967295)))], some (2147483647, 2147483660), [(0, 0), (0, 61), (36, 999)])
set_option maxRecDepth 1000000 in
theorem kr_q53_ok (l : Launch) (G : PG) (lam : Nat → Nat) (hl : LAMR lam) (EX : PH → Prop) (hx : EXK lam EX) : SUOK lam TRf EX l G kr_q53 := chk_ok (sums := []) (F := 20000) MT_ok (hx _ (by decide +kernel)) (hiL hl (by decide +kernel)) sun (by decide +kernel)
/-- X12_lantern -/
def kr_q54 : SU := (234, 2, [.inr (.inl (some 0)), .inr (.inr (.inr (0, 4294967295))), .inr (.inr (.inr (0, 4294967295)))], some (0, 4294967295), [(0, 0)])
set_option maxRecDepth 1000000 in
theorem kr_q54_ok (l : Launch) (G : PG) (lam : Nat → Nat) (hl : LAMR lam) (EX : PH → Prop) (hx : EXK lam EX) : SUOK lam TRf EX l G kr_q54 := chk_ok (sums := [kr_q2]) (F := 20000) MT_ok (hx _ (by decide +kernel)) (hiL hl (by decide +kernel)) (suc (kr_q2_ok l G lam hl EX hx) sun) (by decide +kernel)
/-- X12_bill -/
def kr_q55 : SU := (189, 2, [.inr (.inl (some 0)), .inr (.inr (.inr (0, 4294967295))), .inr (.inr (.inr (0, 4294967295)))], some (2147483647, 2147483660), [(0, 0), (0, 63), (37, 999)])
set_option maxRecDepth 1000000 in
theorem kr_q55_ok (l : Launch) (G : PG) (lam : Nat → Nat) (hl : LAMR lam) (EX : PH → Prop) (hx : EXK lam EX) : SUOK lam TRf EX l G kr_q55 := chk_ok (sums := []) (F := 20000) MT_ok (hx _ (by decide +kernel)) (hiL hl (by decide +kernel)) sun (by decide +kernel)
/-- X12_doGoTogether -/
def kr_q56 : SU := (201, 2, [.inr (.inl (some 0)), .inr (.inr (.inr (2147483648, 2147483903)))], some (2147483648, 2147483649), [])
set_option maxRecDepth 1000000 in
theorem kr_q56_ok (l : Launch) (G : PG) (lam : Nat → Nat) (hl : LAMR lam) (EX : PH → Prop) (hx : EXK lam EX) : SUOK lam TRf EX l G kr_q56 := chk_ok (sums := []) (F := 20000) MT_ok (hx _ (by decide +kernel)) (hiL hl (by decide +kernel)) sun (by decide +kernel)
/-- X12_bills -/
def kr_q57 : SU := (190, 3, [.inr (.inl (some 0)), .inr (.inr (.inr (0, 4294967295)))], some (0, 4294967295), [(0, 0)])
set_option maxRecDepth 1000000 in
theorem kr_q57_ok (l : Launch) (G : PG) (lam : Nat → Nat) (hl : LAMR lam) (EX : PH → Prop) (hx : EXK lam EX) : SUOK lam TRf EX l G kr_q57 := chk_ok (sums := [kr_q56, kr_q0]) (F := 20000) MT_ok (hx _ (by decide +kernel)) (hiL hl (by decide +kernel)) (suc (kr_q56_ok l G lam hl EX hx) (suc (kr_q0_ok l G lam hl EX hx) sun)) (by decide +kernel)
/-- X12_before -/
def kr_q58 : SU := (188, 2, [.inr (.inl (some 0)), .inr (.inr (.inr (0, 4294967295))), .inr (.inr (.inr (0, 4294967295)))], some (2147483647, 2147483660), [(0, 0), (0, 65), (38, 999)])
set_option maxRecDepth 1000000 in
theorem kr_q58_ok (l : Launch) (G : PG) (lam : Nat → Nat) (hl : LAMR lam) (EX : PH → Prop) (hx : EXK lam EX) : SUOK lam TRf EX l G kr_q58 := chk_ok (sums := []) (F := 20000) MT_ok (hx _ (by decide +kernel)) (hiL hl (by decide +kernel)) sun (by decide +kernel)
/-- X12_order -/
def kr_q59 : SU := (44, 2, [.inr (.inl (some 0))], some (0, 4294967295), [(0, 0), (39, 999)])
set_option maxRecDepth 1000000 in
theorem kr_q59_ok (l : Launch) (G : PG) (lam : Nat → Nat) (hl : LAMR lam) (EX : PH → Prop) (hx : EXK lam EX) : SUOK lam TRf EX l G kr_q59 := chk_ok (sums := []) (F := 20000) MT_ok (hx _ (by decide +kernel)) (hiL hl (by decide +kernel)) sun (by decide +kernel)
