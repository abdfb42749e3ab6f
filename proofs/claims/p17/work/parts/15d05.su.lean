/-- X5_digit -/
def kc_q200 : SU := (120, 1, [.inr (.inr (.inr (0, 4294967295)))], some (2147483648, 2147483649), [])
set_option maxRecDepth 1000000 in
theorem kc_q200_ok (l : Launch) (G : PG) (lam : Nat → Nat) (hl : LAMC lam) : SUOK lam TCl EXT l G kc_q200 := chk_ok (sums := []) (F := 20000) MT_ok (fun _ _ _ _ => trivial) (hiL hl (by decide +kernel)) sun (by decide +kernel)
/-- X5_wrong -/
def kc_q201 : SU := (138, 1, [.inr (.inl (some 79)), .inr (.inr (.inr (0, 4294967295)))], some (2147483648, 2147483648), [(79, 7), (79, 8)])
set_option maxRecDepth 1000000 in
theorem kc_q201_ok (l : Launch) (G : PG) (lam : Nat → Nat) (hl : LAMC lam) : SUOK lam TCl EXT l G kc_q201 := chk_ok (sums := []) (F := 20000) MT_ok (fun _ _ _ _ => trivial) (hiL hl (by decide +kernel)) sun (by decide +kernel)
/-- X5_put -/
def kc_q202 : SU := (128, 1, [.inr (.inl (some 79)), .inr (.inr (.inr (0, 4294967295))), .inr (.inr (.inr (0, 4294967295)))], none, [(81, 999)])
set_option maxRecDepth 1000000 in
theorem kc_q202_ok (l : Launch) (G : PG) (lam : Nat → Nat) (hl : LAMC lam) : SUOK lam TCl EXT l G kc_q202 := chk_ok (sums := []) (F := 20000) MT_ok (fun _ _ _ _ => trivial) (hiL hl (by decide +kernel)) sun (by decide +kernel)
/-- X5_emit -/
def kc_q203 : SU := (121, 1, [.inr (.inl (some 79)), .inr (.inr (.inr (0, 4294967295))), .inr (.inr (.inr (0, 4294967295)))], none, [(79, 13), (82, 999)])
set_option maxRecDepth 1000000 in
theorem kc_q203_ok (l : Launch) (G : PG) (lam : Nat → Nat) (hl : LAMC lam) : SUOK lam TCl EXT l G kc_q203 := chk_ok (sums := []) (F := 20000) MT_ok (fun _ _ _ _ => trivial) (hiL hl (by decide +kernel)) sun (by decide +kernel)
/-- X5_step -/
def kc_q204 : SU := (135, 9, [.inr (.inl (some 79))], none, [(79, 3), (79, 4), (79, 5), (79, 6)])
set_option maxRecDepth 1000000 in
theorem kc_q204_ok (l : Launch) (G : PG) (lam : Nat → Nat) (hl : LAMC lam) (hm0 : SUOK lam TCl EXT l G kc_m0) : SUOK lam TCl EXT l G kc_q204 := chk_ok (sums := [kc_q199, kc_m0, kc_q200]) (F := 20000) MT_ok (fun _ _ _ _ => trivial) (hiL hl (by decide +kernel)) (suc (kc_q199_ok l G lam hl) (suc hm0 (suc (kc_q200_ok l G lam hl) sun))) (by decide +kernel)
/-- X5_sign -/
def kc_q205 : SU := (133, 10, [.inr (.inl (some 79)), .inr (.inr (.inr (0, 4294967295)))], some (2147483648, 2147483649), [(79, 3), (79, 4), (79, 5), (79, 6), (79, 7), (79, 8)])
set_option maxRecDepth 1000000 in
theorem kc_q205_ok (l : Launch) (G : PG) (lam : Nat → Nat) (hl : LAMC lam) (hm0 : SUOK lam TCl EXT l G kc_m0) : SUOK lam TCl EXT l G kc_q205 := chk_ok (sums := [kc_q201, kc_q204]) (F := 20000) MT_ok (fun _ _ _ _ => trivial) (hiL hl (by decide +kernel)) (suc (kc_q201_ok l G lam hl) (suc (kc_q204_ok l G lam hl hm0) sun)) (by decide +kernel)
/-- X5_bounded -/
def kc_q206 : SU := (119, 10, [.inr (.inl (some 79)), .inr (.inr (.inr (0, 4294967295))), .inr (.inr (.inr (0, 4294967295)))], some (2147483648, 2147483649), [(79, 3), (79, 4), (79, 5), (79, 6), (79, 7), (79, 8), (81, 999)])
set_option maxRecDepth 1000000 in
theorem kc_q206_ok (l : Launch) (G : PG) (lam : Nat → Nat) (hl : LAMC lam) (hm0 : SUOK lam TCl EXT l G kc_m0) : SUOK lam TCl EXT l G kc_q206 := chk_ok (sums := [kc_q201, kc_q202, kc_q204]) (F := 20000) MT_ok (fun _ _ _ _ => trivial) (hiL hl (by decide +kernel)) (suc (kc_q201_ok l G lam hl) (suc (kc_q202_ok l G lam hl) (suc (kc_q204_ok l G lam hl hm0) sun))) (by decide +kernel)
/-- X5_mindWord -/
def kc_q207 : SU := (125, 10, [.inr (.inl (some 79))], some (2147483648, 2147483649), [(79, 3), (79, 4), (79, 5), (79, 6), (79, 7), (79, 8), (81, 999)])
set_option maxRecDepth 1000000 in
theorem kc_q207_ok (l : Launch) (G : PG) (lam : Nat → Nat) (hl : LAMC lam) (hm0 : SUOK lam TCl EXT l G kc_m0) : SUOK lam TCl EXT l G kc_q207 := chk_ok (sums := [kc_q201, kc_q202, kc_q204]) (F := 20000) MT_ok (fun _ _ _ _ => trivial) (hiL hl (by decide +kernel)) (suc (kc_q201_ok l G lam hl) (suc (kc_q202_ok l G lam hl) (suc (kc_q204_ok l G lam hl hm0) sun))) (by decide +kernel)
/-- X5_skyLine -/
def kc_q208 : SU := (134, 11, [.inr (.inl (some 79))], some (2147483648, 2147483649), [(79, 3), (79, 4), (79, 5), (79, 6), (79, 7), (79, 8), (81, 999)])
set_option maxRecDepth 1000000 in
theorem kc_q208_ok (l : Launch) (G : PG) (lam : Nat → Nat) (hl : LAMC lam) (hm0 : SUOK lam TCl EXT l G kc_m0) : SUOK lam TCl EXT l G kc_q208 := chk_ok (sums := [kc_q202, kc_q204, kc_q206, kc_q205, kc_q207, kc_q201]) (F := 20000) MT_ok (fun _ _ _ _ => trivial) (hiL hl (by decide +kernel)) (suc (kc_q202_ok l G lam hl) (suc (kc_q204_ok l G lam hl hm0) (suc (kc_q206_ok l G lam hl hm0) (suc (kc_q205_ok l G lam hl hm0) (suc (kc_q207_ok l G lam hl hm0) (suc (kc_q201_ok l G lam hl) sun)))))) (by decide +kernel)
/-- X5_opensLine -/
def kc_q209 : SU := (126, 10, [.inr (.inl (some 79)), .inr (.inr (.inr (0, 4294967295)))], some (2147483648, 2147483649), [(79, 3), (79, 4), (79, 5), (79, 6), (79, 7), (79, 8), (81, 999)])
set_option maxRecDepth 1000000 in
theorem kc_q209_ok (l : Launch) (G : PG) (lam : Nat → Nat) (hl : LAMC lam) (hm0 : SUOK lam TCl EXT l G kc_m0) : SUOK lam TCl EXT l G kc_q209 := chk_ok (sums := [kc_q201, kc_q202, kc_q204]) (F := 20000) MT_ok (fun _ _ _ _ => trivial) (hiL hl (by decide +kernel)) (suc (kc_q201_ok l G lam hl) (suc (kc_q202_ok l G lam hl) (suc (kc_q204_ok l G lam hl hm0) sun))) (by decide +kernel)
/-- X5_plainLine -/
def kc_q210 : SU := (127, 12, [.inr (.inl (some 79)), .inr (.inr (.inr (0, 4294967295)))], some (2147483648, 2147483649), [(79, 3), (79, 4), (79, 5), (79, 6), (79, 7), (79, 8), (81, 999)])
set_option maxRecDepth 1000000 in
theorem kc_q210_ok (l : Launch) (G : PG) (lam : Nat → Nat) (hl : LAMC lam) (hm0 : SUOK lam TCl EXT l G kc_m0) : SUOK lam TCl EXT l G kc_q210 := chk_ok (sums := [kc_q206, kc_q208, kc_q205, kc_q201]) (F := 20000) MT_ok (fun _ _ _ _ => trivial) (hiL hl (by decide +kernel)) (suc (kc_q206_ok l G lam hl hm0) (suc (kc_q208_ok l G lam hl hm0) (suc (kc_q205_ok l G lam hl hm0) (suc (kc_q201_ok l G lam hl) sun)))) (by decide +kernel)
/-- X5_emitUnit -/
def kc_q211 : SU := (122, 2, [.inr (.inl (some 79)), .inr (.inr (.inr (0, 4294967295)))], some (2147483648, 2147483649), [(79, 7), (79, 8), (79, 13), (82, 999)])
set_option maxRecDepth 1000000 in
theorem kc_q211_ok (l : Launch) (G : PG) (lam : Nat → Nat) (hl : LAMC lam) : SUOK lam TCl EXT l G kc_q211 := chk_ok (sums := [kc_q201, kc_q203]) (F := 20000) MT_ok (fun _ _ _ _ => trivial) (hiL hl (by decide +kernel)) (suc (kc_q201_ok l G lam hl) (suc (kc_q203_ok l G lam hl) sun)) (by decide +kernel)
/-- X5_readSum -/
def kc_q212 : SU := (130, 10, [.inr (.inl (some 79))], some (2147483648, 2147483649), [(79, 3), (79, 4), (79, 5), (79, 6), (79, 7), (79, 8), (79, 13), (82, 999)])
set_option maxRecDepth 1000000 in
theorem kc_q212_ok (l : Launch) (G : PG) (lam : Nat → Nat) (hl : LAMC lam) (hm0 : SUOK lam TCl EXT l G kc_m0) : SUOK lam TCl EXT l G kc_q212 := chk_ok (sums := [kc_q211, kc_q204, kc_q203, kc_q201]) (F := 20000) MT_ok (fun _ _ _ _ => trivial) (hiL hl (by decide +kernel)) (suc (kc_q211_ok l G lam hl) (suc (kc_q204_ok l G lam hl hm0) (suc (kc_q203_ok l G lam hl) (suc (kc_q201_ok l G lam hl) sun)))) (by decide +kernel)
/-- X5_readTest -/
def kc_q213 : SU := (132, 11, [.inr (.inl (some 79)), .inr (.inr (.inr (2147483656, 2147483656)))], some (2147483648, 2147483649), [(79, 3), (79, 4), (79, 5), (79, 6), (79, 7), (79, 8), (79, 13), (82, 999)])
set_option maxRecDepth 1000000 in
theorem kc_q213_ok (l : Launch) (G : PG) (lam : Nat → Nat) (hl : LAMC lam) (hm0 : SUOK lam TCl EXT l G kc_m0) : SUOK lam TCl EXT l G kc_q213 := chk_ok (sums := [kc_q201, kc_q212, kc_q204, kc_q203]) (F := 20000) MT_ok (fun _ _ _ _ => trivial) (hiL hl (by decide +kernel)) (suc (kc_q201_ok l G lam hl) (suc (kc_q212_ok l G lam hl hm0) (suc (kc_q204_ok l G lam hl hm0) (suc (kc_q203_ok l G lam hl) sun)))) (by decide +kernel)
/-- X5_readChoice -/
def kc_q214 : SU := (129, 12, [.inr (.inl (some 79)), .inr (.inr (.inr (2147483656, 2147483656)))], some (2147483648, 2147483649), [(79, 3), (79, 4), (79, 5), (79, 6), (79, 7), (79, 8), (79, 13), (82, 999)])
set_option maxRecDepth 1000000 in
theorem kc_q214_ok (l : Launch) (G : PG) (lam : Nat → Nat) (hl : LAMC lam) (hm0 : SUOK lam TCl EXT l G kc_m0) : SUOK lam TCl EXT l G kc_q214 := chk_ok (sums := [kc_q213, kc_q203, kc_q204, kc_q201]) (F := 20000) MT_ok (fun _ _ _ _ => trivial) (hiL hl (by decide +kernel)) (suc (kc_q213_ok l G lam hl hm0) (suc (kc_q203_ok l G lam hl) (suc (kc_q204_ok l G lam hl hm0) (suc (kc_q201_ok l G lam hl) sun)))) (by decide +kernel)
/-- X5_readTest -/
def kc_q215 : SU := (132, 13, [.inr (.inl (some 79)), .inr (.inr (.inr (2147483655, 2147483655)))], some (2147483648, 2147483649), [(79, 3), (79, 4), (79, 5), (79, 6), (79, 7), (79, 8), (79, 13), (82, 999)])
set_option maxRecDepth 1000000 in
theorem kc_q215_ok (l : Launch) (G : PG) (lam : Nat → Nat) (hl : LAMC lam) (hm0 : SUOK lam TCl EXT l G kc_m0) : SUOK lam TCl EXT l G kc_q215 := chk_ok (sums := [kc_q204, kc_q213, kc_q203, kc_q214, kc_q205, kc_q212, kc_q201]) (F := 20000) MT_ok (fun _ _ _ _ => trivial) (hiL hl (by decide +kernel)) (suc (kc_q204_ok l G lam hl hm0) (suc (kc_q213_ok l G lam hl hm0) (suc (kc_q203_ok l G lam hl) (suc (kc_q214_ok l G lam hl hm0) (suc (kc_q205_ok l G lam hl hm0) (suc (kc_q212_ok l G lam hl hm0) (suc (kc_q201_ok l G lam hl) sun))))))) (by decide +kernel)
/-- X5_readChoice -/
def kc_q216 : SU := (129, 14, [.inr (.inl (some 79)), .inr (.inr (.inr (2147483655, 2147483655)))], some (2147483648, 2147483649), [(79, 3), (79, 4), (79, 5), (79, 6), (79, 7), (79, 8), (79, 13), (82, 999)])
set_option maxRecDepth 1000000 in
theorem kc_q216_ok (l : Launch) (G : PG) (lam : Nat → Nat) (hl : LAMC lam) (hm0 : SUOK lam TCl EXT l G kc_m0) : SUOK lam TCl EXT l G kc_q216 := chk_ok (sums := [kc_q215, kc_q203, kc_q204, kc_q201]) (F := 20000) MT_ok (fun _ _ _ _ => trivial) (hiL hl (by decide +kernel)) (suc (kc_q215_ok l G lam hl hm0) (suc (kc_q203_ok l G lam hl) (suc (kc_q204_ok l G lam hl hm0) (suc (kc_q201_ok l G lam hl) sun)))) (by decide +kernel)
/-- X5_readTest -/
def kc_q217 : SU := (132, 15, [.inr (.inl (some 79)), .inr (.inr (.inr (2147483654, 2147483654)))], some (2147483648, 2147483649), [(79, 3), (79, 4), (79, 5), (79, 6), (79, 7), (79, 8), (79, 13), (82, 999)])
set_option maxRecDepth 1000000 in
theorem kc_q217_ok (l : Launch) (G : PG) (lam : Nat → Nat) (hl : LAMC lam) (hm0 : SUOK lam TCl EXT l G kc_m0) : SUOK lam TCl EXT l G kc_q217 := chk_ok (sums := [kc_q204, kc_q215, kc_q203, kc_q216, kc_q205, kc_q212, kc_q201]) (F := 20000) MT_ok (fun _ _ _ _ => trivial) (hiL hl (by decide +kernel)) (suc (kc_q204_ok l G lam hl hm0) (suc (kc_q215_ok l G lam hl hm0) (suc (kc_q203_ok l G lam hl) (suc (kc_q216_ok l G lam hl hm0) (suc (kc_q205_ok l G lam hl hm0) (suc (kc_q212_ok l G lam hl hm0) (suc (kc_q201_ok l G lam hl) sun))))))) (by decide +kernel)
/-- X5_readChoice -/
def kc_q218 : SU := (129, 16, [.inr (.inl (some 79)), .inr (.inr (.inr (2147483654, 2147483654)))], some (2147483648, 2147483649), [(79, 3), (79, 4), (79, 5), (79, 6), (79, 7), (79, 8), (79, 13), (82, 999)])
set_option maxRecDepth 1000000 in
theorem kc_q218_ok (l : Launch) (G : PG) (lam : Nat → Nat) (hl : LAMC lam) (hm0 : SUOK lam TCl EXT l G kc_m0) : SUOK lam TCl EXT l G kc_q218 := chk_ok (sums := [kc_q217, kc_q203, kc_q204, kc_q201]) (F := 20000) MT_ok (fun _ _ _ _ => trivial) (hiL hl (by decide +kernel)) (suc (kc_q217_ok l G lam hl hm0) (suc (kc_q203_ok l G lam hl) (suc (kc_q204_ok l G lam hl hm0) (suc (kc_q201_ok l G lam hl) sun)))) (by decide +kernel)
/-- X5_readTest -/
def kc_q219 : SU := (132, 17, [.inr (.inl (some 79)), .inr (.inr (.inr (2147483653, 2147483653)))], some (2147483648, 2147483649), [(79, 3), (79, 4), (79, 5), (79, 6), (79, 7), (79, 8), (79, 13), (82, 999)])
set_option maxRecDepth 1000000 in
theorem kc_q219_ok (l : Launch) (G : PG) (lam : Nat → Nat) (hl : LAMC lam) (hm0 : SUOK lam TCl EXT l G kc_m0) : SUOK lam TCl EXT l G kc_q219 := chk_ok (sums := [kc_q204, kc_q217, kc_q203, kc_q218, kc_q205, kc_q212, kc_q201]) (F := 20000) MT_ok (fun _ _ _ _ => trivial) (hiL hl (by decide +kernel)) (suc (kc_q204_ok l G lam hl hm0) (suc (kc_q217_ok l G lam hl hm0) (suc (kc_q203_ok l G lam hl) (suc (kc_q218_ok l G lam hl hm0) (suc (kc_q205_ok l G lam hl hm0) (suc (kc_q212_ok l G lam hl hm0) (suc (kc_q201_ok l G lam hl) sun))))))) (by decide +kernel)
/-- X5_readChoice -/
def kc_q220 : SU := (129, 18, [.inr (.inl (some 79)), .inr (.inr (.inr (2147483653, 2147483653)))], some (2147483648, 2147483649), [(79, 3), (79, 4), (79, 5), (79, 6), (79, 7), (79, 8), (79, 13), (82, 999)])
set_option maxRecDepth 1000000 in
theorem kc_q220_ok (l : Launch) (G : PG) (lam : Nat → Nat) (hl : LAMC lam) (hm0 : SUOK lam TCl EXT l G kc_m0) : SUOK lam TCl EXT l G kc_q220 := chk_ok (sums := [kc_q219, kc_q203, kc_q204, kc_q201]) (F := 20000) MT_ok (fun _ _ _ _ => trivial) (hiL hl (by decide +kernel)) (suc (kc_q219_ok l G lam hl hm0) (suc (kc_q203_ok l G lam hl) (suc (kc_q204_ok l G lam hl hm0) (suc (kc_q201_ok l G lam hl) sun)))) (by decide +kernel)
/-- X5_readTest -/
def kc_q221 : SU := (132, 19, [.inr (.inl (some 79)), .inr (.inr (.inr (2147483652, 2147483652)))], some (2147483648, 2147483649), [(79, 3), (79, 4), (79, 5), (79, 6), (79, 7), (79, 8), (79, 13), (82, 999)])
set_option maxRecDepth 1000000 in
theorem kc_q221_ok (l : Launch) (G : PG) (lam : Nat → Nat) (hl : LAMC lam) (hm0 : SUOK lam TCl EXT l G kc_m0) : SUOK lam TCl EXT l G kc_q221 := chk_ok (sums := [kc_q204, kc_q219, kc_q203, kc_q220, kc_q205, kc_q212, kc_q201]) (F := 20000) MT_ok (fun _ _ _ _ => trivial) (hiL hl (by decide +kernel)) (suc (kc_q204_ok l G lam hl hm0) (suc (kc_q219_ok l G lam hl hm0) (suc (kc_q203_ok l G lam hl) (suc (kc_q220_ok l G lam hl hm0) (suc (kc_q205_ok l G lam hl hm0) (suc (kc_q212_ok l G lam hl hm0) (suc (kc_q201_ok l G lam hl) sun))))))) (by decide +kernel)
/-- X5_readChoice -/
def kc_q222 : SU := (129, 20, [.inr (.inl (some 79)), .inr (.inr (.inr (2147483652, 2147483652)))], some (2147483648, 2147483649), [(79, 3), (79, 4), (79, 5), (79, 6), (79, 7), (79, 8), (79, 13), (82, 999)])
set_option maxRecDepth 1000000 in
theorem kc_q222_ok (l : Launch) (G : PG) (lam : Nat → Nat) (hl : LAMC lam) (hm0 : SUOK lam TCl EXT l G kc_m0) : SUOK lam TCl EXT l G kc_q222 := chk_ok (sums := [kc_q221, kc_q203, kc_q204, kc_q201]) (F := 20000) MT_ok (fun _ _ _ _ => trivial) (hiL hl (by decide +kernel)) (suc (kc_q221_ok l G lam hl hm0) (suc (kc_q203_ok l G lam hl) (suc (kc_q204_ok l G lam hl hm0) (suc (kc_q201_ok l G lam hl) sun)))) (by decide +kernel)
/-- X5_readTest -/
def kc_q223 : SU := (132, 21, [.inr (.inl (some 79)), .inr (.inr (.inr (2147483651, 2147483651)))], some (2147483648, 2147483649), [(79, 3), (79, 4), (79, 5), (79, 6), (79, 7), (79, 8), (79, 13), (82, 999)])
set_option maxRecDepth 1000000 in
theorem kc_q223_ok (l : Launch) (G : PG) (lam : Nat → Nat) (hl : LAMC lam) (hm0 : SUOK lam TCl EXT l G kc_m0) : SUOK lam TCl EXT l G kc_q223 := chk_ok (sums := [kc_q204, kc_q221, kc_q203, kc_q222, kc_q205, kc_q212, kc_q201]) (F := 20000) MT_ok (fun _ _ _ _ => trivial) (hiL hl (by decide +kernel)) (suc (kc_q204_ok l G lam hl hm0) (suc (kc_q221_ok l G lam hl hm0) (suc (kc_q203_ok l G lam hl) (suc (kc_q222_ok l G lam hl hm0) (suc (kc_q205_ok l G lam hl hm0) (suc (kc_q212_ok l G lam hl hm0) (suc (kc_q201_ok l G lam hl) sun))))))) (by decide +kernel)
/-- X5_readChoice -/
def kc_q224 : SU := (129, 22, [.inr (.inl (some 79)), .inr (.inr (.inr (2147483651, 2147483651)))], some (2147483648, 2147483649), [(79, 3), (79, 4), (79, 5), (79, 6), (79, 7), (79, 8), (79, 13), (82, 999)])
set_option maxRecDepth 1000000 in
theorem kc_q224_ok (l : Launch) (G : PG) (lam : Nat → Nat) (hl : LAMC lam) (hm0 : SUOK lam TCl EXT l G kc_m0) : SUOK lam TCl EXT l G kc_q224 := chk_ok (sums := [kc_q223, kc_q203, kc_q204, kc_q201]) (F := 20000) MT_ok (fun _ _ _ _ => trivial) (hiL hl (by decide +kernel)) (suc (kc_q223_ok l G lam hl hm0) (suc (kc_q203_ok l G lam hl) (suc (kc_q204_ok l G lam hl hm0) (suc (kc_q201_ok l G lam hl) sun)))) (by decide +kernel)
/-- X5_readTest -/
def kc_q225 : SU := (132, 23, [.inr (.inl (some 79)), .inr (.inr (.inr (2147483650, 2147483650)))], some (2147483648, 2147483649), [(79, 3), (79, 4), (79, 5), (79, 6), (79, 7), (79, 8), (79, 13), (82, 999)])
set_option maxRecDepth 1000000 in
theorem kc_q225_ok (l : Launch) (G : PG) (lam : Nat → Nat) (hl : LAMC lam) (hm0 : SUOK lam TCl EXT l G kc_m0) : SUOK lam TCl EXT l G kc_q225 := chk_ok (sums := [kc_q204, kc_q223, kc_q203, kc_q224, kc_q205, kc_q212, kc_q201]) (F := 20000) MT_ok (fun _ _ _ _ => trivial) (hiL hl (by decide +kernel)) (suc (kc_q204_ok l G lam hl hm0) (suc (kc_q223_ok l G lam hl hm0) (suc (kc_q203_ok l G lam hl) (suc (kc_q224_ok l G lam hl hm0) (suc (kc_q205_ok l G lam hl hm0) (suc (kc_q212_ok l G lam hl hm0) (suc (kc_q201_ok l G lam hl) sun))))))) (by decide +kernel)
/-- X5_readChoice -/
def kc_q226 : SU := (129, 24, [.inr (.inl (some 79)), .inr (.inr (.inr (2147483650, 2147483650)))], some (2147483648, 2147483649), [(79, 3), (79, 4), (79, 5), (79, 6), (79, 7), (79, 8), (79, 13), (82, 999)])
set_option maxRecDepth 1000000 in
theorem kc_q226_ok (l : Launch) (G : PG) (lam : Nat → Nat) (hl : LAMC lam) (hm0 : SUOK lam TCl EXT l G kc_m0) : SUOK lam TCl EXT l G kc_q226 := chk_ok (sums := [kc_q225, kc_q203, kc_q204, kc_q201]) (F := 20000) MT_ok (fun _ _ _ _ => trivial) (hiL hl (by decide +kernel)) (suc (kc_q225_ok l G lam hl hm0) (suc (kc_q203_ok l G lam hl) (suc (kc_q204_ok l G lam hl hm0) (suc (kc_q201_ok l G lam hl) sun)))) (by decide +kernel)
/-- X5_readTest -/
def kc_q227 : SU := (132, 25, [.inr (.inl (some 79)), .inr (.inr (.inr (2147483649, 2147483649)))], some (2147483648, 2147483649), [(79, 3), (79, 4), (79, 5), (79, 6), (79, 7), (79, 8), (79, 13), (82, 999)])
set_option maxRecDepth 1000000 in
theorem kc_q227_ok (l : Launch) (G : PG) (lam : Nat → Nat) (hl : LAMC lam) (hm0 : SUOK lam TCl EXT l G kc_m0) : SUOK lam TCl EXT l G kc_q227 := chk_ok (sums := [kc_q204, kc_q225, kc_q203, kc_q226, kc_q205, kc_q212, kc_q201]) (F := 20000) MT_ok (fun _ _ _ _ => trivial) (hiL hl (by decide +kernel)) (suc (kc_q204_ok l G lam hl hm0) (suc (kc_q225_ok l G lam hl hm0) (suc (kc_q203_ok l G lam hl) (suc (kc_q226_ok l G lam hl hm0) (suc (kc_q205_ok l G lam hl hm0) (suc (kc_q212_ok l G lam hl hm0) (suc (kc_q201_ok l G lam hl) sun))))))) (by decide +kernel)
/-- X5_readChoice -/
def kc_q228 : SU := (129, 26, [.inr (.inl (some 79)), .inr (.inr (.inr (2147483649, 2147483649)))], some (2147483648, 2147483649), [(79, 3), (79, 4), (79, 5), (79, 6), (79, 7), (79, 8), (79, 13), (82, 999)])
set_option maxRecDepth 1000000 in
theorem kc_q228_ok (l : Launch) (G : PG) (lam : Nat → Nat) (hl : LAMC lam) (hm0 : SUOK lam TCl EXT l G kc_m0) : SUOK lam TCl EXT l G kc_q228 := chk_ok (sums := [kc_q227, kc_q203, kc_q204, kc_q201]) (F := 20000) MT_ok (fun _ _ _ _ => trivial) (hiL hl (by decide +kernel)) (suc (kc_q227_ok l G lam hl hm0) (suc (kc_q203_ok l G lam hl) (suc (kc_q204_ok l G lam hl hm0) (suc (kc_q201_ok l G lam hl) sun)))) (by decide +kernel)
/-- X5_readTest -/
def kc_q229 : SU := (132, 27, [.inr (.inl (some 79)), .inr (.inr (.inr (2147483648, 2147483648)))], some (2147483648, 2147483649), [(79, 3), (79, 4), (79, 5), (79, 6), (79, 7), (79, 8), (79, 13), (82, 999)])
set_option maxRecDepth 1000000 in
theorem kc_q229_ok (l : Launch) (G : PG) (lam : Nat → Nat) (hl : LAMC lam) (hm0 : SUOK lam TCl EXT l G kc_m0) : SUOK lam TCl EXT l G kc_q229 := chk_ok (sums := [kc_q204, kc_q227, kc_q203, kc_q228, kc_q205, kc_q212, kc_q201]) (F := 20000) MT_ok (fun _ _ _ _ => trivial) (hiL hl (by decide +kernel)) (suc (kc_q204_ok l G lam hl hm0) (suc (kc_q227_ok l G lam hl hm0) (suc (kc_q203_ok l G lam hl) (suc (kc_q228_ok l G lam hl hm0) (suc (kc_q205_ok l G lam hl hm0) (suc (kc_q212_ok l G lam hl hm0) (suc (kc_q201_ok l G lam hl) sun))))))) (by decide +kernel)
/-- X5_readChoice -/
def kc_q230 : SU := (129, 28, [.inr (.inl (some 79)), .inr (.inr (.inr (2147483648, 2147483648)))], some (2147483648, 2147483649), [(79, 3), (79, 4), (79, 5), (79, 6), (79, 7), (79, 8), (79, 13), (82, 999)])
set_option maxRecDepth 1000000 in
theorem kc_q230_ok (l : Launch) (G : PG) (lam : Nat → Nat) (hl : LAMC lam) (hm0 : SUOK lam TCl EXT l G kc_m0) : SUOK lam TCl EXT l G kc_q230 := chk_ok (sums := [kc_q229, kc_q203, kc_q204, kc_q201]) (F := 20000) MT_ok (fun _ _ _ _ => trivial) (hiL hl (by decide +kernel)) (suc (kc_q229_ok l G lam hl hm0) (suc (kc_q203_ok l G lam hl) (suc (kc_q204_ok l G lam hl hm0) (suc (kc_q201_ok l G lam hl) sun)))) (by decide +kernel)
/-- X5_lawLine -/
def kc_q231 : SU := (123, 29, [.inr (.inl (some 79))], some (2147483648, 2147483649), [(79, 3), (79, 4), (79, 5), (79, 6), (79, 7), (79, 8), (79, 13), (81, 999), (82, 999)])
set_option maxRecDepth 1000000 in
theorem kc_q231_ok (l : Launch) (G : PG) (lam : Nat → Nat) (hl : LAMC lam) (hm0 : SUOK lam TCl EXT l G kc_m0) : SUOK lam TCl EXT l G kc_q231 := chk_ok (sums := [kc_q202, kc_q212, kc_q204, kc_q230]) (F := 20000) MT_ok (fun _ _ _ _ => trivial) (hiL hl (by decide +kernel)) (suc (kc_q202_ok l G lam hl) (suc (kc_q212_ok l G lam hl hm0) (suc (kc_q204_ok l G lam hl hm0) (suc (kc_q230_ok l G lam hl hm0) sun)))) (by decide +kernel)
