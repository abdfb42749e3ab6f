/-- X10_linesOf -/
def kc_q160 : SU := (144, 1, [.inr (.inl (some 1)), .inr (.inr (.inr (0, 4294967295)))], some (2147483648, 2147483665), [])
set_option maxRecDepth 1000000 in
theorem kc_q160_ok (l : Launch) (G : PG) (lam : Nat → Nat) (hl : LAMC lam) : SUOK lam TCl EXT l G kc_q160 := chk_ok (sums := []) (F := 20000) MT_ok (fun _ _ _ _ => trivial) (hiL hl (by decide +kernel)) sun (by decide +kernel)
/-- X10_tell -/
def kc_q161 : SU := (147, 2, [.inr (.inl (some 1)), .inr (.inr (.inr (0, 4294967295))), .inr (.inr (.inr (2147483648, 2147483649))), .inr (.inr (.inr (2147483648, 2147483649))), .inr (.inr (.inr (0, 4294967295)))], some (2147483647, 2147483664), [(12, 1), (13, 999), (14, 1), (15, 999), (16, 1), (17, 999), (18, 1), (19, 999), (20, 1), (21, 999), (22, 1), (23, 999), (24, 1), (25, 999), (26, 1), (27, 999), (28, 1), (29, 999)])
set_option maxRecDepth 1000000 in
theorem kc_q161_ok (l : Launch) (G : PG) (lam : Nat → Nat) (hl : LAMC lam) : SUOK lam TCl EXT l G kc_q161 := chk_ok (sums := [kc_q101, kc_q99, kc_q97, kc_q95, kc_q93, kc_q91, kc_q89, kc_q87, kc_q85]) (F := 20000) MT_ok (fun _ _ _ _ => trivial) (hiL hl (by decide +kernel)) (suc (kc_q101_ok l G lam hl) (suc (kc_q99_ok l G lam hl) (suc (kc_q97_ok l G lam hl) (suc (kc_q95_ok l G lam hl) (suc (kc_q93_ok l G lam hl) (suc (kc_q91_ok l G lam hl) (suc (kc_q89_ok l G lam hl) (suc (kc_q87_ok l G lam hl) (suc (kc_q85_ok l G lam hl) sun))))))))) (by decide +kernel)
/-- X11_traitCan -/
def kc_q162 : SU := (181, 1, [.inr (.inr (.inr (0, 4294967295))), .inr (.inr (.inr (0, 4294967295)))], some (2147483648, 2147483649), [])
set_option maxRecDepth 1000000 in
theorem kc_q162_ok (l : Launch) (G : PG) (lam : Nat → Nat) (hl : LAMC lam) : SUOK lam TCl EXT l G kc_q162 := chk_ok (sums := []) (F := 20000) MT_ok (fun _ _ _ _ => trivial) (hiL hl (by decide +kernel)) sun (by decide +kernel)
/-- X11_state -/
def kc_q163 : SU := (179, 2, [.inr (.inl (some 0)), .inr (.inr (.inr (0, 4294967295)))], some (0, 4294967295), [(2, 8), (59, 2)])
set_option maxRecDepth 1000000 in
theorem kc_q163_ok (l : Launch) (G : PG) (lam : Nat → Nat) (hl : LAMC lam) : SUOK lam TCl EXT l G kc_q163 := chk_ok (sums := [kc_q157]) (F := 20000) MT_ok (fun _ _ _ _ => trivial) (hiL hl (by decide +kernel)) (suc (kc_q157_ok l G lam hl) sun) (by decide +kernel)
/-- X11_voter -/
def kc_q164 : SU := (184, 3, [.inr (.inl (some 0)), .inr (.inr (.inr (0, 4294967295))), .inr (.inr (.inr (0, 4294967295))), .inr (.inr (.inr (0, 4294967295))), .inr (.inr (.inr (0, 4294967295)))], some (0, 2147483667), [(2, 2), (3, 999), (59, 2)])
set_option maxRecDepth 1000000 in
theorem kc_q164_ok (l : Launch) (G : PG) (lam : Nat → Nat) (hl : LAMC lam) : SUOK lam TCl EXT l G kc_q164 := chk_ok (sums := [kc_q162, kc_q16, kc_q157]) (F := 20000) MT_ok (fun _ _ _ _ => trivial) (hiL hl (by decide +kernel)) (suc (kc_q162_ok l G lam hl) (suc (kc_q16_ok l G lam hl) (suc (kc_q157_ok l G lam hl) sun))) (by decide +kernel)
/-- X11_set -/
def kc_q165 : SU := (176, 3, [.inr (.inl (some 0)), .inr (.inr (.inr (0, 4294967295))), .inr (.inr (.inr (0, 4294967295))), .inr (.inr (.inr (0, 4294967295)))], some (2147483648, 2147483649), [(2, 3), (3, 999), (59, 2)])
set_option maxRecDepth 1000000 in
theorem kc_q165_ok (l : Launch) (G : PG) (lam : Nat → Nat) (hl : LAMC lam) : SUOK lam TCl EXT l G kc_q165 := chk_ok (sums := [kc_q157, kc_q162, kc_q16]) (F := 20000) MT_ok (fun _ _ _ _ => trivial) (hiL hl (by decide +kernel)) (suc (kc_q157_ok l G lam hl) (suc (kc_q162_ok l G lam hl) (suc (kc_q16_ok l G lam hl) sun))) (by decide +kernel)
/-- X11_press -/
def kc_q166 : SU := (174, 4, [.inr (.inl (some 0)), .inr (.inr (.inr (0, 4294967295))), .inr (.inr (.inr (0, 4294967295)))], some (0, 4294967295), [(2, 9), (3, 999), (4, 999), (6, 999), (59, 1), (59, 2), (61, 2), (61, 3), (61, 4), (61, 5), (61, 6), (61, 7), (61, 8), (61, 9), (62, 999), (63, 999), (64, 2), (64, 3), (64, 4), (64, 5), (64, 6), (64, 7), (64, 8), (64, 9), (65, 999), (66, 999), (67, 2), (67, 3), (67, 4), (67, 5), (67, 6), (67, 7), (67, 8), (67, 9), (68, 999), (69, 999), (70, 2), (70, 3), (70, 4), (70, 5), (70, 6), (70, 7), (70, 8), (70, 9), (71, 999), (72, 999), (73, 2), (73, 3), (73, 4), (73, 5), (73, 6), (73, 7), (73, 8), (73, 9), (74, 999), (75, 999), (76, 2), (76, 3), (76, 4), (76, 5), (76, 6), (76, 7), (76, 8), (76, 9), (77, 999), (78, 999)])
set_option maxRecDepth 1000000 in
theorem kc_q166_ok (l : Launch) (G : PG) (lam : Nat → Nat) (hl : LAMC lam) : SUOK lam TCl EXT l G kc_q166 := chk_ok (sums := [kc_q26, kc_q155, kc_q62]) (F := 20000) MT_ok (fun _ _ _ _ => trivial) (hiL hl (by decide +kernel)) (suc (kc_q26_ok l G lam hl) (suc (kc_q155_ok l G lam hl) (suc (kc_q62_ok l G lam hl) sun))) (by decide +kernel)
/-- X11_lift -/
def kc_q167 : SU := (167, 4, [.inr (.inl (some 0)), .inr (.inr (.inr (0, 4294967295))), .inr (.inr (.inr (0, 4294967295)))], some (2147483648, 2147483649), [(2, 9), (4, 999), (6, 999), (59, 1), (59, 2), (61, 2), (61, 3), (61, 4), (61, 5), (61, 6), (61, 7), (61, 8), (61, 9), (62, 999), (63, 999), (64, 2), (64, 3), (64, 4), (64, 5), (64, 6), (64, 7), (64, 8), (64, 9), (65, 999), (66, 999), (67, 2), (67, 3), (67, 4), (67, 5), (67, 6), (67, 7), (67, 8), (67, 9), (68, 999), (69, 999), (70, 2), (70, 3), (70, 4), (70, 5), (70, 6), (70, 7), (70, 8), (70, 9), (71, 999), (72, 999), (73, 2), (73, 3), (73, 4), (73, 5), (73, 6), (73, 7), (73, 8), (73, 9), (74, 999), (75, 999), (76, 2), (76, 3), (76, 4), (76, 5), (76, 6), (76, 7), (76, 8), (76, 9), (77, 999), (78, 999)])
set_option maxRecDepth 1000000 in
theorem kc_q167_ok (l : Launch) (G : PG) (lam : Nat → Nat) (hl : LAMC lam) : SUOK lam TCl EXT l G kc_q167 := chk_ok (sums := [kc_q134, kc_q19, kc_q155, kc_q63]) (F := 20000) MT_ok (fun _ _ _ _ => trivial) (hiL hl (by decide +kernel)) (suc (kc_q134_ok l G lam hl) (suc (kc_q19_ok l G lam hl) (suc (kc_q155_ok l G lam hl) (suc (kc_q63_ok l G lam hl) sun)))) (by decide +kernel)
/-- X11_hand -/
def kc_q168 : SU := (162, 3, [.inr (.inl (some 0)), .inr (.inr (.inr (0, 4294967295))), .inr (.inr (.inr (0, 4294967295)))], some (2147483648, 2147483649), [(3, 999), (59, 1), (59, 2), (61, 2), (61, 3), (61, 4), (61, 5), (61, 6), (61, 7), (61, 8), (61, 9), (62, 999), (63, 999), (64, 2), (64, 3), (64, 4), (64, 5), (64, 6), (64, 7), (64, 8), (64, 9), (65, 999), (66, 999), (67, 2), (67, 3), (67, 4), (67, 5), (67, 6), (67, 7), (67, 8), (67, 9), (68, 999), (69, 999), (70, 2), (70, 3), (70, 4), (70, 5), (70, 6), (70, 7), (70, 8), (70, 9), (71, 999), (72, 999), (73, 2), (73, 3), (73, 4), (73, 5), (73, 6), (73, 7), (73, 8), (73, 9), (74, 999), (75, 999), (76, 2), (76, 3), (76, 4), (76, 5), (76, 6), (76, 7), (76, 8), (76, 9), (77, 999), (78, 999)])
set_option maxRecDepth 1000000 in
theorem kc_q168_ok (l : Launch) (G : PG) (lam : Nat → Nat) (hl : LAMC lam) : SUOK lam TCl EXT l G kc_q168 := chk_ok (sums := [kc_q15, kc_q155, kc_q16]) (F := 20000) MT_ok (fun _ _ _ _ => trivial) (hiL hl (by decide +kernel)) (suc (kc_q15_ok l G lam hl) (suc (kc_q155_ok l G lam hl) (suc (kc_q16_ok l G lam hl) sun))) (by decide +kernel)
/-- X11_hours -/
def kc_q169 : SU := (163, 8, [.inr (.inl (some 0)), .inr (.inr (.inr (0, 4294967295)))], some (0, 4294967295), [(2, 3), (2, 4), (2, 5), (2, 6), (2, 7), (2, 8), (2, 9), (3, 999), (4, 999), (6, 999), (59, 1), (59, 2), (61, 2), (61, 3), (61, 4), (61, 5), (61, 6), (61, 7), (61, 8), (61, 9), (62, 999), (63, 999), (64, 2), (64, 3), (64, 4), (64, 5), (64, 6), (64, 7), (64, 8), (64, 9), (65, 999), (66, 999), (67, 2), (67, 3), (67, 4), (67, 5), (67, 6), (67, 7), (67, 8), (67, 9), (68, 999), (69, 999), (70, 2), (70, 3), (70, 4), (70, 5), (70, 6), (70, 7), (70, 8), (70, 9), (71, 999), (72, 999), (73, 2), (73, 3), (73, 4), (73, 5), (73, 6), (73, 7), (73, 8), (73, 9), (74, 999), (75, 999), (76, 2), (76, 3), (76, 4), (76, 5), (76, 6), (76, 7), (76, 8), (76, 9), (77, 999), (78, 999), (96, 999), (97, 999)])
set_option maxRecDepth 1000000 in
theorem kc_q169_ok (l : Launch) (G : PG) (lam : Nat → Nat) (hl : LAMC lam) : SUOK lam TCl EXT l G kc_q169 := chk_ok (sums := [kc_q155, kc_q68]) (F := 20000) MT_ok (fun _ _ _ _ => trivial) (hiL hl (by decide +kernel)) (suc (kc_q155_ok l G lam hl) (suc (kc_q68_ok l G lam hl) sun)) (by decide +kernel)
/-- X11_feed -/
def kc_q170 : SU := (160, 2, [.inr (.inl (some 0)), .inr (.inr (.inr (0, 4294967295))), .inr (.inr (.inr (0, 4294967295))), .inr (.inr (.inr (0, 4294967295))), .inr (.inr (.inr (0, 4294967295))), .inr (.inr (.inr (0, 4294967295)))], some (2147483647, 2147484048), [(79, 1), (80, 999)])
set_option maxRecDepth 1000000 in
theorem kc_q170_ok (l : Launch) (G : PG) (lam : Nat → Nat) (hl : LAMC lam) : SUOK lam TCl EXT l G kc_q170 := chk_ok (sums := []) (F := 20000) MT_ok (fun _ _ _ _ => trivial) (hiL hl (by decide +kernel)) sun (by decide +kernel)
/-- X11_end -/
def kc_q171 : SU := (158, 1, [.inr (.inl (some 0)), .inr (.inr (.inr (0, 4294967295)))], some (2147483648, 2147483649), [(79, 1)])
set_option maxRecDepth 1000000 in
theorem kc_q171_ok (l : Launch) (G : PG) (lam : Nat → Nat) (hl : LAMC lam) : SUOK lam TCl EXT l G kc_q171 := chk_ok (sums := []) (F := 20000) MT_ok (fun _ _ _ _ => trivial) (hiL hl (by decide +kernel)) sun (by decide +kernel)
/-- X11_fault -/
def kc_q172 : SU := (159, 1, [.inr (.inl (some 0)), .inr (.inr (.inr (0, 4294967295)))], some (0, 4294967295), [])
set_option maxRecDepth 1000000 in
theorem kc_q172_ok (l : Launch) (G : PG) (lam : Nat → Nat) (hl : LAMC lam) : SUOK lam TCl EXT l G kc_q172 := chk_ok (sums := []) (F := 20000) MT_ok (fun _ _ _ _ => trivial) (hiL hl (by decide +kernel)) sun (by decide +kernel)
/-- X11_of -/
def kc_q173 : SU := (171, 5, [.inr (.inl (some 0)), .inr (.inr (.inr (0, 4294967295))), .inr (.inr (.inr (0, 4294967295)))], some (0, 4294967295), [(96, 999), (97, 999)])
set_option maxRecDepth 1000000 in
theorem kc_q173_ok (l : Launch) (G : PG) (lam : Nat → Nat) (hl : LAMC lam) : SUOK lam TCl EXT l G kc_q173 := chk_ok (sums := [kc_q55, kc_q158, kc_q15]) (F := 20000) MT_ok (fun _ _ _ _ => trivial) (hiL hl (by decide +kernel)) (suc (kc_q55_ok l G lam hl) (suc (kc_q158_ok l G lam hl) (suc (kc_q15_ok l G lam hl) sun))) (by decide +kernel)
/-- X11_cell -/
def kc_q174 : SU := (155, 5, [.inr (.inl (some 0)), .inr (.inr (.inr (0, 4294967295))), .inr (.inr (.inr (0, 4294967295))), .inr (.inr (.inr (0, 4294967295)))], some (0, 4294967295), [(96, 999), (97, 999)])
set_option maxRecDepth 1000000 in
theorem kc_q174_ok (l : Launch) (G : PG) (lam : Nat → Nat) (hl : LAMC lam) : SUOK lam TCl EXT l G kc_q174 := chk_ok (sums := [kc_q134, kc_q19, kc_q20, kc_q21, kc_q22, kc_q56, kc_q57]) (F := 20000) MT_ok (fun _ _ _ _ => trivial) (hiL hl (by decide +kernel)) (suc (kc_q134_ok l G lam hl) (suc (kc_q19_ok l G lam hl) (suc (kc_q20_ok l G lam hl) (suc (kc_q21_ok l G lam hl) (suc (kc_q22_ok l G lam hl) (suc (kc_q56_ok l G lam hl) (suc (kc_q57_ok l G lam hl) sun))))))) (by decide +kernel)
/-- X11_book -/
def kc_q175 : SU := (152, 2, [.inr (.inl (some 0)), .inr (.inr (.inr (0, 4294967295))), .inr (.inr (.inr (0, 4294967295)))], some (0, 4294967295), [])
set_option maxRecDepth 1000000 in
theorem kc_q175_ok (l : Launch) (G : PG) (lam : Nat → Nat) (hl : LAMC lam) : SUOK lam TCl EXT l G kc_q175 := chk_ok (sums := [kc_q52]) (F := 20000) MT_ok (fun _ _ _ _ => trivial) (hiL hl (by decide +kernel)) (suc (kc_q52_ok l G lam hl) sun) (by decide +kernel)
/-- X11_goes -/
def kc_q176 : SU := (161, 8, [.inr (.inl (some 0)), .inr (.inr (.inr (0, 4294967295))), .inr (.inr (.inr (0, 4294967295)))], some (0, 4294967295), [(83, 2), (83, 3), (83, 4), (83, 5), (83, 6), (83, 7), (83, 8), (83, 9), (84, 999), (85, 999), (100, 999), (101, 999)])
set_option maxRecDepth 1000000 in
theorem kc_q176_ok (l : Launch) (G : PG) (lam : Nat → Nat) (hl : LAMC lam) : SUOK lam TCl EXT l G kc_q176 := chk_ok (sums := [kc_q152, kc_q83, kc_q73, kc_q46, kc_q48]) (F := 20000) MT_ok (fun _ _ _ _ => trivial) (hiL hl (by decide +kernel)) (suc (kc_q152_ok l G lam hl) (suc (kc_q83_ok l G lam hl) (suc (kc_q73_ok l G lam hl) (suc (kc_q46_ok l G lam hl) (suc (kc_q48_ok l G lam hl) sun))))) (by decide +kernel)
/-- X11_wax -/
def kc_q177 : SU := (4, 6, [.inr (.inl (some 0)), .inr (.inr (.inr (0, 4294967295)))], some (0, 4294967295), [(86, 2), (86, 3), (87, 999), (88, 999), (96, 999), (97, 999), (98, 999)])
set_option maxRecDepth 1000000 in
theorem kc_q177_ok (l : Launch) (G : PG) (lam : Nat → Nat) (hl : LAMC lam) : SUOK lam TCl EXT l G kc_q177 := chk_ok (sums := [kc_q139, kc_q138, kc_q137, kc_q59, kc_q58]) (F := 20000) MT_ok (fun _ _ _ _ => trivial) (hiL hl (by decide +kernel)) (suc (kc_q139_ok l G lam hl) (suc (kc_q138_ok l G lam hl) (suc (kc_q137_ok l G lam hl) (suc (kc_q59_ok l G lam hl) (suc (kc_q58_ok l G lam hl) sun))))) (by decide +kernel)
/-- X11_whose -/
def kc_q178 : SU := (185, 4, [.inr (.inl (some 0)), .inr (.inr (.inr (0, 4294967295))), .inr (.inr (.inr (0, 4294967295)))], some (0, 4294967295), [])
set_option maxRecDepth 1000000 in
theorem kc_q178_ok (l : Launch) (G : PG) (lam : Nat → Nat) (hl : LAMC lam) : SUOK lam TCl EXT l G kc_q178 := chk_ok (sums := [kc_q32, kc_q31]) (F := 20000) MT_ok (fun _ _ _ _ => trivial) (hiL hl (by decide +kernel)) (suc (kc_q32_ok l G lam hl) (suc (kc_q31_ok l G lam hl) sun)) (by decide +kernel)
/-- X11_could -/
def kc_q179 : SU := (156, 4, [.inr (.inl (some 0)), .inr (.inr (.inr (0, 4294967295)))], some (0, 4294967295), [])
set_option maxRecDepth 1000000 in
theorem kc_q179_ok (l : Launch) (G : PG) (lam : Nat → Nat) (hl : LAMC lam) : SUOK lam TCl EXT l G kc_q179 := chk_ok (sums := [kc_q159]) (F := 20000) MT_ok (fun _ _ _ _ => trivial) (hiL hl (by decide +kernel)) (suc (kc_q159_ok l G lam hl) sun) (by decide +kernel)
/-- X11_party -/
def kc_q180 : SU := (173, 3, [.inr (.inl (some 0)), .inr (.inr (.inr (0, 4294967295)))], some (2147483647, 2147483664), [(12, 1), (13, 999), (14, 1), (15, 999), (16, 1), (17, 999), (18, 1), (19, 999), (20, 1), (21, 999), (22, 1), (23, 999), (24, 1), (25, 999), (26, 1), (27, 999), (28, 1), (29, 999)])
set_option maxRecDepth 1000000 in
theorem kc_q180_ok (l : Launch) (G : PG) (lam : Nat → Nat) (hl : LAMC lam) : SUOK lam TCl EXT l G kc_q180 := chk_ok (sums := [kc_q161]) (F := 20000) MT_ok (fun _ _ _ _ => trivial) (hiL hl (by decide +kernel)) (suc (kc_q161_ok l G lam hl) sun) (by decide +kernel)
/-- X11_seats -/
def kc_q181 : SU := (175, 3, [.inr (.inl (some 0)), .inr (.inr (.inr (0, 4294967295))), .inr (.inr (.inr (0, 4294967295))), .inr (.inr (.inr (0, 4294967295)))], some (0, 4294967295), [(90, 999)])
set_option maxRecDepth 1000000 in
theorem kc_q181_ok (l : Launch) (G : PG) (lam : Nat → Nat) (hl : LAMC lam) : SUOK lam TCl EXT l G kc_q181 := chk_ok (sums := [kc_q120]) (F := 20000) MT_ok (fun _ _ _ _ => trivial) (hiL hl (by decide +kernel)) (suc (kc_q120_ok l G lam hl) sun) (by decide +kernel)
/-- X11_house -/
def kc_q182 : SU := (164, 3, [.inr (.inl (some 0)), .inr (.inr (.inr (0, 4294967295)))], some (2147483647, 2147483664), [(12, 1), (13, 999), (14, 1), (15, 999), (16, 1), (17, 999), (18, 1), (19, 999), (20, 1), (21, 999), (22, 1), (23, 999), (24, 1), (25, 999), (26, 1), (27, 999), (28, 1), (29, 999)])
set_option maxRecDepth 1000000 in
theorem kc_q182_ok (l : Launch) (G : PG) (lam : Nat → Nat) (hl : LAMC lam) : SUOK lam TCl EXT l G kc_q182 := chk_ok (sums := [kc_q161]) (F := 20000) MT_ok (fun _ _ _ _ => trivial) (hiL hl (by decide +kernel)) (suc (kc_q161_ok l G lam hl) sun) (by decide +kernel)
/-- X11_parishes -/
def kc_q183 : SU := (172, 3, [.inr (.inl (some 0)), .inr (.inr (.inr (0, 4294967295))), .inr (.inr (.inr (0, 4294967295)))], some (0, 4294967295), [(90, 999), (91, 999)])
set_option maxRecDepth 1000000 in
theorem kc_q183_ok (l : Launch) (G : PG) (lam : Nat → Nat) (hl : LAMC lam) : SUOK lam TCl EXT l G kc_q183 := chk_ok (sums := [kc_q122]) (F := 20000) MT_ok (fun _ _ _ _ => trivial) (hiL hl (by decide +kernel)) (suc (kc_q122_ok l G lam hl) sun) (by decide +kernel)
/-- X11_wish -/
def kc_q184 : SU := (186, 3, [.inr (.inl (some 0)), .inr (.inr (.inr (0, 4294967295)))], some (2147483647, 2147483664), [(12, 1), (13, 999), (14, 1), (15, 999), (16, 1), (17, 999), (18, 1), (19, 999), (20, 1), (21, 999), (22, 1), (23, 999), (24, 1), (25, 999), (26, 1), (27, 999), (28, 1), (29, 999)])
set_option maxRecDepth 1000000 in
theorem kc_q184_ok (l : Launch) (G : PG) (lam : Nat → Nat) (hl : LAMC lam) : SUOK lam TCl EXT l G kc_q184 := chk_ok (sums := [kc_q161]) (F := 20000) MT_ok (fun _ _ _ _ => trivial) (hiL hl (by decide +kernel)) (suc (kc_q161_ok l G lam hl) sun) (by decide +kernel)
/-- X11_name -/
def kc_q185 : SU := (170, 3, [.inr (.inl (some 0)), .inr (.inr (.inr (0, 4294967295)))], some (2147483647, 2147483664), [(12, 1), (13, 999), (14, 1), (15, 999), (16, 1), (17, 999), (18, 1), (19, 999), (20, 1), (21, 999), (22, 1), (23, 999), (24, 1), (25, 999), (26, 1), (27, 999), (28, 1), (29, 999)])
set_option maxRecDepth 1000000 in
theorem kc_q185_ok (l : Launch) (G : PG) (lam : Nat → Nat) (hl : LAMC lam) : SUOK lam TCl EXT l G kc_q185 := chk_ok (sums := [kc_q161]) (F := 20000) MT_ok (fun _ _ _ _ => trivial) (hiL hl (by decide +kernel)) (suc (kc_q161_ok l G lam hl) sun) (by decide +kernel)
/-- X11_middle -/
def kc_q186 : SU := (169, 4, [.inr (.inl (some 0)), .inr (.inr (.inr (0, 4294967295)))], some (0, 4294967295), [])
set_option maxRecDepth 1000000 in
theorem kc_q186_ok (l : Launch) (G : PG) (lam : Nat → Nat) (hl : LAMC lam) : SUOK lam TCl EXT l G kc_q186 := chk_ok (sums := [kc_q127, kc_q126, kc_q124, kc_q123]) (F := 20000) MT_ok (fun _ _ _ _ => trivial) (hiL hl (by decide +kernel)) (suc (kc_q127_ok l G lam hl) (suc (kc_q126_ok l G lam hl) (suc (kc_q124_ok l G lam hl) (suc (kc_q123_ok l G lam hl) sun)))) (by decide +kernel)
/-- X11_candle -/
def kc_q187 : SU := (153, 3, [.inr (.inl (some 0)), .inr (.inr (.inr (0, 4294967295)))], some (2147483647, 2147483664), [(12, 1), (13, 999), (14, 1), (15, 999), (16, 1), (17, 999), (18, 1), (19, 999), (20, 1), (21, 999), (22, 1), (23, 999), (24, 1), (25, 999), (26, 1), (27, 999), (28, 1), (29, 999)])
set_option maxRecDepth 1000000 in
theorem kc_q187_ok (l : Launch) (G : PG) (lam : Nat → Nat) (hl : LAMC lam) : SUOK lam TCl EXT l G kc_q187 := chk_ok (sums := [kc_q161]) (F := 20000) MT_ok (fun _ _ _ _ => trivial) (hiL hl (by decide +kernel)) (suc (kc_q161_ok l G lam hl) sun) (by decide +kernel)
/-- X11_candles -/
def kc_q188 : SU := (154, 3, [.inr (.inl (some 0)), .inr (.inr (.inr (0, 4294967295))), .inr (.inr (.inr (0, 4294967295)))], some (0, 4294967295), [(90, 999)])
set_option maxRecDepth 1000000 in
theorem kc_q188_ok (l : Launch) (G : PG) (lam : Nat → Nat) (hl : LAMC lam) : SUOK lam TCl EXT l G kc_q188 := chk_ok (sums := [kc_q128]) (F := 20000) MT_ok (fun _ _ _ _ => trivial) (hiL hl (by decide +kernel)) (suc (kc_q128_ok l G lam hl) sun) (by decide +kernel)
/-- X11_door -/
def kc_q189 : SU := (157, 3, [.inr (.inl (some 0)), .inr (.inr (.inr (0, 4294967295))), .inr (.inr (.inr (0, 4294967295)))], some (2147483647, 2147483664), [(12, 1), (13, 999), (14, 1), (15, 999), (16, 1), (17, 999), (18, 1), (19, 999), (20, 1), (21, 999), (22, 1), (23, 999), (24, 1), (25, 999), (26, 1), (27, 999), (28, 1), (29, 999)])
set_option maxRecDepth 1000000 in
theorem kc_q189_ok (l : Launch) (G : PG) (lam : Nat → Nat) (hl : LAMC lam) : SUOK lam TCl EXT l G kc_q189 := chk_ok (sums := [kc_q161]) (F := 20000) MT_ok (fun _ _ _ _ => trivial) (hiL hl (by decide +kernel)) (suc (kc_q161_ok l G lam hl) sun) (by decide +kernel)
/-- X11_stack -/
def kc_q190 : SU := (177, 3, [.inr (.inl (some 0))], some (2147483648, 2147483711), [(90, 999)])
set_option maxRecDepth 1000000 in
theorem kc_q190_ok (l : Launch) (G : PG) (lam : Nat → Nat) (hl : LAMC lam) : SUOK lam TCl EXT l G kc_q190 := chk_ok (sums := [kc_q129]) (F := 20000) MT_ok (fun _ _ _ _ => trivial) (hiL hl (by decide +kernel)) (suc (kc_q129_ok l G lam hl) sun) (by decide +kernel)
/-- X11_stands -/
def kc_q191 : SU := (178, 3, [.inr (.inl (some 0)), .inr (.inr (.inr (0, 4294967295)))], some (2147483647, 2147483664), [(12, 1), (13, 999), (14, 1), (15, 999), (16, 1), (17, 999), (18, 1), (19, 999), (20, 1), (21, 999), (22, 1), (23, 999), (24, 1), (25, 999), (26, 1), (27, 999), (28, 1), (29, 999)])
set_option maxRecDepth 1000000 in
theorem kc_q191_ok (l : Launch) (G : PG) (lam : Nat → Nat) (hl : LAMC lam) : SUOK lam TCl EXT l G kc_q191 := chk_ok (sums := [kc_q161]) (F := 20000) MT_ok (fun _ _ _ _ => trivial) (hiL hl (by decide +kernel)) (suc (kc_q161_ok l G lam hl) sun) (by decide +kernel)
/-- X11_lantern -/
def kc_q192 : SU := (166, 3, [.inr (.inl (some 0)), .inr (.inr (.inr (0, 4294967295))), .inr (.inr (.inr (0, 4294967295)))], some (0, 4294967295), [])
set_option maxRecDepth 1000000 in
theorem kc_q192_ok (l : Launch) (G : PG) (lam : Nat → Nat) (hl : LAMC lam) : SUOK lam TCl EXT l G kc_q192 := chk_ok (sums := [kc_q130]) (F := 20000) MT_ok (fun _ _ _ _ => trivial) (hiL hl (by decide +kernel)) (suc (kc_q130_ok l G lam hl) sun) (by decide +kernel)
/-- X11_bill -/
def kc_q193 : SU := (150, 3, [.inr (.inl (some 0)), .inr (.inr (.inr (0, 4294967295))), .inr (.inr (.inr (0, 4294967295)))], some (2147483647, 2147483664), [(12, 1), (13, 999), (14, 1), (15, 999), (16, 1), (17, 999), (18, 1), (19, 999), (20, 1), (21, 999), (22, 1), (23, 999), (24, 1), (25, 999), (26, 1), (27, 999), (28, 1), (29, 999)])
set_option maxRecDepth 1000000 in
theorem kc_q193_ok (l : Launch) (G : PG) (lam : Nat → Nat) (hl : LAMC lam) : SUOK lam TCl EXT l G kc_q193 := chk_ok (sums := [kc_q161]) (F := 20000) MT_ok (fun _ _ _ _ => trivial) (hiL hl (by decide +kernel)) (suc (kc_q161_ok l G lam hl) sun) (by decide +kernel)
/-- X11_bills -/
def kc_q194 : SU := (151, 4, [.inr (.inl (some 0)), .inr (.inr (.inr (0, 4294967295)))], some (0, 4294967295), [])
set_option maxRecDepth 1000000 in
theorem kc_q194_ok (l : Launch) (G : PG) (lam : Nat → Nat) (hl : LAMC lam) : SUOK lam TCl EXT l G kc_q194 := chk_ok (sums := [kc_q132]) (F := 20000) MT_ok (fun _ _ _ _ => trivial) (hiL hl (by decide +kernel)) (suc (kc_q132_ok l G lam hl) sun) (by decide +kernel)
/-- X11_before -/
def kc_q195 : SU := (149, 3, [.inr (.inl (some 0)), .inr (.inr (.inr (0, 4294967295))), .inr (.inr (.inr (0, 4294967295)))], some (2147483647, 2147483664), [(12, 1), (13, 999), (14, 1), (15, 999), (16, 1), (17, 999), (18, 1), (19, 999), (20, 1), (21, 999), (22, 1), (23, 999), (24, 1), (25, 999), (26, 1), (27, 999), (28, 1), (29, 999)])
set_option maxRecDepth 1000000 in
theorem kc_q195_ok (l : Launch) (G : PG) (lam : Nat → Nat) (hl : LAMC lam) : SUOK lam TCl EXT l G kc_q195 := chk_ok (sums := [kc_q161]) (F := 20000) MT_ok (fun _ _ _ _ => trivial) (hiL hl (by decide +kernel)) (suc (kc_q161_ok l G lam hl) sun) (by decide +kernel)
/-- X11_order -/
def kc_q196 : SU := (0, 3, [.inr (.inl (some 0))], some (0, 4294967295), [(90, 999), (91, 999)])
set_option maxRecDepth 1000000 in
theorem kc_q196_ok (l : Launch) (G : PG) (lam : Nat → Nat) (hl : LAMC lam) : SUOK lam TCl EXT l G kc_q196 := chk_ok (sums := [kc_q133]) (F := 20000) MT_ok (fun _ _ _ _ => trivial) (hiL hl (by decide +kernel)) (suc (kc_q133_ok l G lam hl) sun) (by decide +kernel)
/-- X11_undo -/
def kc_q197 : SU := (182, 3, [.inr (.inl (some 0))], some (2147483648, 2147483649), [(2, 2), (2, 3), (2, 4), (2, 5), (2, 6), (2, 7), (2, 8), (2, 9), (3, 999), (4, 999), (59, 1), (59, 2)])
set_option maxRecDepth 1000000 in
theorem kc_q197_ok (l : Launch) (G : PG) (lam : Nat → Nat) (hl : LAMC lam) : SUOK lam TCl EXT l G kc_q197 := chk_ok (sums := [kc_q156]) (F := 20000) MT_ok (fun _ _ _ _ => trivial) (hiL hl (by decide +kernel)) (suc (kc_q156_ok l G lam hl) sun) (by decide +kernel)
/-- X11_look -/
def kc_q198 : SU := (168, 2, [.inr (.inl (some 0)), .inr (.inr (.inr (0, 4294967295)))], some (0, 4294967295), [])
set_option maxRecDepth 1000000 in
theorem kc_q198_ok (l : Launch) (G : PG) (lam : Nat → Nat) (hl : LAMC lam) : SUOK lam TCl EXT l G kc_q198 := chk_ok (sums := [kc_q160, kc_q28]) (F := 20000) MT_ok (fun _ _ _ _ => trivial) (hiL hl (by decide +kernel)) (suc (kc_q160_ok l G lam hl) (suc (kc_q28_ok l G lam hl) sun)) (by decide +kernel)
/-- X5_letter -/
def kc_q199 : SU := (124, 1, [.inr (.inr (.inr (0, 4294967295)))], some (2147483648, 2147483649), [])
set_option maxRecDepth 1000000 in
theorem kc_q199_ok (l : Launch) (G : PG) (lam : Nat → Nat) (hl : LAMC lam) : SUOK lam TCl EXT l G kc_q199 := chk_ok (sums := []) (F := 20000) MT_ok (fun _ _ _ _ => trivial) (hiL hl (by decide +kernel)) sun (by decide +kernel)
