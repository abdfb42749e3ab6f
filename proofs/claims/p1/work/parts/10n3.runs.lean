abbrev eA (n a : Nat) : QE Nat := .inl (.inl (0, n, a))
noncomputable def lbP (pm : List Nat) (n k : Nat) : Nat := n + (nth pm k).getD 0
def L_xo : QH Nat := [eA 401 0, eA 401 0, .inr (4, [vR 0, vR 1]), .inr (9, [vR 32, vI 0]), .inl (.inr (3, 9, va_up (va_up (va_up (va_up (va_up (va_up (va_up (va_up (va_up (fun _ => none) (0 : Int32).toNatClampNeg (some 16)) (1 : Int32).toNatClampNeg (some 18)) (2 : Int32).toNatClampNeg (some 20)) (3 : Int32).toNatClampNeg (some 22)) (4 : Int32).toNatClampNeg (some 24)) (5 : Int32).toNatClampNeg (some 26)) (6 : Int32).toNatClampNeg (some 28)) (7 : Int32).toNatClampNeg (some 30)) (8 : Int32).toNatClampNeg (some 3))), .inr (10, [vR 7, vR 10, vR 12, vR 4]), .inr (11, [vR 5, vR 33, vI 0, vR 62, vR 82, vR 86, vR 95, vR 99, vR 89, vR 2, vR 92])]
def pm_xo : List Nat := [90, 91, 89, 28, 8, 1, 0, 2, 3, 4, 5, 6, 7, 9, 10, 11, 12, 13, 14, 15, 16, 17, 18, 19, 20, 21, 22, 23, 24, 25, 26, 27, 29, 30, 31, 32, 33, 34, 35, 36, 37, 38, 39, 40, 41, 42, 43, 44, 45, 46, 47, 48, 49, 50, 51, 52, 53, 54, 55, 56, 57, 58, 59, 60, 61, 62, 63, 64, 65, 66, 67, 68, 69, 70, 71, 72, 73, 74, 75, 76, 77, 78, 79, 80, 81, 82, 83, 84, 85, 86, 87, 88, 92, 93, 94, 95, 96, 97, 98, 99, 100, 101, 102]
def L_xw : QH Nat := [.inr (6, [vR 1, vR 2, vI 0, vI 0]), eA 144 0, eA 144 0, .inr (0, [vR 9, vR 4, vI 0, vI 0, vI 0, vI 0, vI 0, vI 0, vI 0, vI 0]), eA 144 0, .inr (1, [vR 3, vR 12, vR 10, vR 97, vR 98, vR 6]), eA 100 0, .inr (10, [vR 3, vR 10, vR 12, vR 13]), .inr (11, [vR 7, vR 35, vI 0, vR 64, vR 84, vR 88, vR 5, vR 99, vR 0, vR 91, vR 94])]
def pm_xw : List Nat := [86, 87, 88, 2, 4, 95, 98, 1, 0, 3, 5, 6, 7, 8, 9, 10, 11, 12, 13, 14, 15, 16, 17, 18, 19, 20, 21, 22, 23, 24, 25, 26, 27, 28, 29, 30, 31, 32, 33, 34, 35, 36, 37, 38, 39, 40, 41, 42, 43, 44, 45, 46, 47, 48, 49, 50, 51, 52, 53, 54, 55, 56, 57, 58, 59, 60, 61, 62, 63, 64, 65, 66, 67, 68, 69, 70, 71, 72, 73, 74, 75, 76, 77, 78, 79, 80, 81, 82, 83, 84, 85, 89, 90, 91, 92, 93, 94, 96, 97, 99, 100, 101, 102]
def L_mo : QH Nat := [eA 256 0, eA 8 0, .inr (12, [vI 0, vR 3, vR 4, vI 0, vR 5, vI 0, vI 0, vR 6, vR 7, vR 8, vR 9, vR 10, vI 0, vI 0, vI 0, vI 0, vI 0, vR 11, vR 12, vR 13, vR 14, vR 15, vR 16, vR 17, vR 18, vI 0, vI 0, vI 0, vR 19, vI 0, vI 0, vI 0, vI 0, vI ((-1)), vI 0, vR 20, vI 0, vR 21, vI 0, vR 22, vR 23, vR 24, vR 25, vI 0, vR 26, vR 27, vI 0, vR 28, vR 29, vR 30, vI 0, vR 31, vI 0, vR 32, vI 0, vR 33, vR 34, vI 0, vR 35, vR 36, vR 37, vI 0, vR 38, vI 0, vR 39, vI 0, vR 1, vR 0, vR 40, vR 41, vI 0, vI 0, vI 0, vI 0, vI 0, vR 42])]
def pm_mo : List Nat := [39, 38, 0, 1, 2, 3, 4, 5, 6, 7, 8, 9, 10, 11, 12, 13, 14, 15, 16, 17, 18, 19, 20, 21, 22, 23, 24, 25, 26, 27, 28, 29, 30, 31, 32, 33, 34, 35, 36, 37, 40, 41, 42]
def L_mw : QH Nat := [eA 144 0, eA 499 0, .inr (12, [vI 0, vR 1, vR 3, vI 0, vR 4, vI 0, vI 0, vR 5, vR 6, vR 7, vR 8, vR 9, vI 0, vI 0, vI 0, vI 0, vI 0, vR 10, vR 11, vR 12, vR 13, vR 14, vR 15, vR 16, vR 17, vI 0, vI 0, vI 0, vR 18, vI 0, vI 0, vI 0, vI 0, vI ((-1)), vI 0, vR 19, vI 0, vR 20, vI 0, vR 21, vR 22, vR 23, vR 0, vI 0, vR 24, vR 25, vI 0, vR 26, vR 27, vR 28, vI 0, vR 29, vI 0, vR 30, vI 0, vR 31, vR 32, vI 0, vR 33, vR 34, vR 35, vI 0, vR 36, vI 0, vR 37, vI 0, vR 38, vR 39, vR 40, vR 41, vI 0, vI 0, vI 0, vI 0, vI 0, vR 42])]
def pm_mw : List Nat := [23, 1, 0, 2, 3, 4, 5, 6, 7, 8, 9, 10, 11, 12, 13, 14, 15, 16, 17, 18, 19, 20, 21, 22, 24, 25, 26, 27, 28, 29, 30, 31, 32, 33, 34, 35, 36, 37, 38, 39, 40, 41, 42]
set_option maxRecDepth 100000 in
theorem rn_xo : ansI (ev rdN wrN fzN 100000 4 0 [vR 6] L_xo) 40320 = true := by decide +kernel
set_option maxRecDepth 100000 in
theorem rn_mo : ansI (ev rdN wrN fzN 100000 4 44 [vR 2] L_mo) 40320 = true := by decide +kernel
set_option maxRecDepth 100000 in
theorem rn_xw01 : ((ansI (ev rdN wrN fzN 100000 6 4 [vR 8, vI 0] L_xw) 0) && (ansI (ev rdN wrN fzN 100000 6 4 [vR 8, vI 1] L_xw) (-1))) = true := by decide +kernel
set_option maxRecDepth 100000 in
theorem rn_xw234 : ((ansI (ev rdN wrN fzN 100000 6 4 [vR 8, vI 2] L_xw) 0) && (ansI (ev rdN wrN fzN 100000 6 4 [vR 8, vI 3] L_xw) 0) && (ansI (ev rdN wrN fzN 100000 6 4 [vR 8, vI 4] L_xw) 0)) = true := by decide +kernel
set_option maxRecDepth 100000 in
theorem rn_xw56 : ((ansI (ev rdN wrN fzN 100000 6 4 [vR 8, vI 5] L_xw) 1) && (ansI (ev rdN wrN fzN 100000 6 4 [vR 8, vI 6] L_xw) 0)) = true := by decide +kernel
set_option maxRecDepth 100000 in
theorem rn_xw789 : ((ansI (ev rdN wrN fzN 100000 6 4 [vR 8, vI 7] L_xw) 12) && (ansI (ev rdN wrN fzN 100000 6 4 [vR 8, vI 8] L_xw) 0) && (ansI (ev rdN wrN fzN 100000 6 4 [vR 8, vI 9] L_xw) 0)) = true := by decide +kernel
set_option maxRecDepth 100000 in
theorem rn_mw01 : ((ansI (ev rdN wrN fzN 100000 6 46 [vR 2, vI 0] L_mw) 0) && (ansI (ev rdN wrN fzN 100000 6 46 [vR 2, vI 1] L_mw) (-1))) = true := by decide +kernel
set_option maxRecDepth 100000 in
theorem rn_mw234 : ((ansI (ev rdN wrN fzN 100000 6 46 [vR 2, vI 2] L_mw) 0) && (ansI (ev rdN wrN fzN 100000 6 46 [vR 2, vI 3] L_mw) 0) && (ansI (ev rdN wrN fzN 100000 6 46 [vR 2, vI 4] L_mw) 0)) = true := by decide +kernel
set_option maxRecDepth 100000 in
theorem rn_mw56 : ((ansI (ev rdN wrN fzN 100000 6 46 [vR 2, vI 5] L_mw) 1) && (ansI (ev rdN wrN fzN 100000 6 46 [vR 2, vI 6] L_mw) 0)) = true := by decide +kernel
set_option maxRecDepth 100000 in
theorem rn_mw789 : ((ansI (ev rdN wrN fzN 100000 6 46 [vR 2, vI 7] L_mw) 12) && (ansI (ev rdN wrN fzN 100000 6 46 [vR 2, vI 8] L_mw) 0) && (ansI (ev rdN wrN fzN 100000 6 46 [vR 2, vI 9] L_mw) 0)) = true := by decide +kernel
