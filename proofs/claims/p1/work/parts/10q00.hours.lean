theorem pw_cut {p : Program} {l : Launch} {e : Env} {R : Room} {s : State} {m : MethodId} {args : Array Value} {below : List Frame} {meth : Method} {c : Code} {G : PG} {nL : Nat} {Q : State → Prop} {cells slots : Nat} {h : PH} {pc : Nat} {ls : List (Option PV)} {st : List PV} {α : Type} (C : α → Prop) (H : α → PH) (pc' : Nat) (LS : List (Option PV)) (ST : List PV) (hseg : ∀ a, C a → PW p l e R s m args below meth c G nL Q cells slots (H a) pc' LS ST) (k : (∀ a, C a → PW p l e R s m args below meth c G nL Q cells slots (H a) pc' LS ST) → PW p l e R s m args below meth c G nL Q cells slots h pc ls st) : PW p l e R s m args below meth c G nL Q cells slots h pc ls st := k hseg
def hga (n : Nat) (va6 : (Nat → Int32)) (va2_4 : Int32) (va2_5 : Int32) (va2_7 : Int32) (va2_9 : Nat) (va59_1 : Nat) (va59_2 : Int32) (va61 : (Nat → Int32)) (va62 : (Nat → Int32)) (va63 : (Nat → Int32)) (va64 : (Nat → Int32)) (va65 : (Nat → Int32)) (va66 : (Nat → Int32)) (va67 : (Nat → Int32)) (va68 : (Nat → Int32)) (va69 : (Nat → Int32)) (va70 : (Nat → Int32)) (va71 : (Nat → Int32)) (va72 : (Nat → Int32)) (va73 : (Nat → Int32)) (va74 : (Nat → Int32)) (va75 : (Nat → Int32)) (va76 : (Nat → Int32)) (va77 : (Nat → Int32)) (va78 : (Nat → Int32)) : PH := [eO 11 [vR (n + 1), vR (n + 30), vI 0, vR (n + 59), vR (n + 79), vR (n + 83), vR (n + 95), vR (n + 99), vR (n + 86), vR (n + 89), vR (n + 92)], eO 10 [vR (n + 2), vR (n + 5), vR (n + 7), vR (n + 8)], eO 0 [vR (n + 3), vR (n + 4), vI 0, vI 0, vI va2_4, vI va2_5, vI 0, vI va2_7, vI 0, vI (nI va2_9)], eI 120 (fun _ => 0), eI 144 (fun _ => 0), eO 3 [vR (n + 6)], eI 750 va6, eR 2 4 (va_up (va_up (va_up (va_up (fun _ => none) (0 : Int32).toNatClampNeg (some (n + 9))) (1 : Int32).toNatClampNeg (some (n + 9))) (2 : Int32).toNatClampNeg (some (n + 9))) (3 : Int32).toNatClampNeg (some (n + 9))), eR 3 9 (va_up (va_up (va_up (va_up (va_up (va_up (va_up (va_up (va_up (fun _ => none) (0 : Int32).toNatClampNeg (some (n + 12))) (1 : Int32).toNatClampNeg (some (n + 14))) (2 : Int32).toNatClampNeg (some (n + 16))) (3 : Int32).toNatClampNeg (some (n + 18))) (4 : Int32).toNatClampNeg (some (n + 20))) (5 : Int32).toNatClampNeg (some (n + 22))) (6 : Int32).toNatClampNeg (some (n + 24))) (7 : Int32).toNatClampNeg (some (n + 26))) (8 : Int32).toNatClampNeg (some (n + 28))), eO 8 [vR (n + 10), vI 0, vR (n + 11)], eI 0 (fun _ => 0), eI 0 (fun _ => 0), eO 9 [vR (n + 13), vI 0], eI 6 (fun _ => 0), eO 9 [vR (n + 15), vI 0], eI 16 (fun _ => 0), eO 9 [vR (n + 17), vI 0], eI 15 (fun _ => 0), eO 9 [vR (n + 19), vI 0], eI 15 (fun _ => 0), eO 9 [vR (n + 21), vI 0], eI 8 (fun _ => 0), eO 9 [vR (n + 23), vI 0], eI 8 (fun _ => 0), eO 9 [vR (n + 25), vI 0], eI 12 (fun _ => 0), eO 9 [vR (n + 27), vI 0], eI 12 (fun _ => 0), eO 9 [vR (n + 29), vI 0], eI 12 (fun _ => 0), eO 10 [vR (n + 31), vR (n + 34), vR (n + 36), vR (n + 37)], eO 0 [vR (n + 32), vR (n + 33), vI 0, vI 0, vI 0, vI 0, vI 0, vI 0, vI 0, vI 0], eI 120 (fun _ => 0), eI 144 (fun _ => 0), eO 3 [vR (n + 35)], eI 750 (fun _ => 0), eR 2 4 (va_up (va_up (va_up (va_up (fun _ => none) (0 : Int32).toNatClampNeg (some (n + 38))) (1 : Int32).toNatClampNeg (some (n + 38))) (2 : Int32).toNatClampNeg (some (n + 38))) (3 : Int32).toNatClampNeg (some (n + 38))), eR 3 9 (va_up (va_up (va_up (va_up (va_up (va_up (va_up (va_up (va_up (fun _ => none) (0 : Int32).toNatClampNeg (some (n + 41))) (1 : Int32).toNatClampNeg (some (n + 43))) (2 : Int32).toNatClampNeg (some (n + 45))) (3 : Int32).toNatClampNeg (some (n + 47))) (4 : Int32).toNatClampNeg (some (n + 49))) (5 : Int32).toNatClampNeg (some (n + 51))) (6 : Int32).toNatClampNeg (some (n + 53))) (7 : Int32).toNatClampNeg (some (n + 55))) (8 : Int32).toNatClampNeg (some (n + 57))), eO 8 [vR (n + 39), vI 0, vR (n + 40)], eI 0 (fun _ => 0), eI 0 (fun _ => 0), eO 9 [vR (n + 42), vI 0], eI 6 (fun _ => 0), eO 9 [vR (n + 44), vI 0], eI 16 (fun _ => 0), eO 9 [vR (n + 46), vI 0], eI 15 (fun _ => 0), eO 9 [vR (n + 48), vI 0], eI 15 (fun _ => 0), eO 9 [vR (n + 50), vI 0], eI 8 (fun _ => 0), eO 9 [vR (n + 52), vI 0], eI 8 (fun _ => 0), eO 9 [vR (n + 54), vI 0], eI 12 (fun _ => 0), eO 9 [vR (n + 56), vI 0], eI 12 (fun _ => 0), eO 9 [vR (n + 58), vI 0], eI 12 (fun _ => 0), eO 7 [vR (n + 60), vI (nI va59_1), vI va59_2], eR 1 6 (va_up (va_up (va_up (va_up (va_up (va_up (fun _ => none) (0 : Int32).toNatClampNeg (some (n + 61))) (1 : Int32).toNatClampNeg (some (n + 64))) (2 : Int32).toNatClampNeg (some (n + 67))) (3 : Int32).toNatClampNeg (some (n + 70))) (4 : Int32).toNatClampNeg (some (n + 73))) (5 : Int32).toNatClampNeg (some (n + 76))), eO 0 [vR (n + 62), vR (n + 63), vI (va61 0), vI (va61 1), vI (va61 2), vI (va61 3), vI (va61 4), vI (va61 5), vI (va61 6), vI (va61 7)], eI 120 va62, eI 144 va63, eO 0 [vR (n + 65), vR (n + 66), vI (va64 0), vI (va64 1), vI (va64 2), vI (va64 3), vI (va64 4), vI (va64 5), vI (va64 6), vI (va64 7)], eI 120 va65, eI 144 va66, eO 0 [vR (n + 68), vR (n + 69), vI (va67 0), vI (va67 1), vI (va67 2), vI (va67 3), vI (va67 4), vI (va67 5), vI (va67 6), vI (va67 7)], eI 120 va68, eI 144 va69, eO 0 [vR (n + 71), vR (n + 72), vI (va70 0), vI (va70 1), vI (va70 2), vI (va70 3), vI (va70 4), vI (va70 5), vI (va70 6), vI (va70 7)], eI 120 va71, eI 144 va72, eO 0 [vR (n + 74), vR (n + 75), vI (va73 0), vI (va73 1), vI (va73 2), vI (va73 3), vI (va73 4), vI (va73 5), vI (va73 6), vI (va73 7)], eI 120 va74, eI 144 va75, eO 0 [vR (n + 77), vR (n + 78), vI (va76 0), vI (va76 1), vI (va76 2), vI (va76 3), vI (va76 4), vI (va76 5), vI (va76 6), vI (va76 7)], eI 120 va77, eI 144 va78, eO 5 [vR (n + 80), vI 0, vI 0, vI 0, vI 0, vI 2, vI 0, vI 0, vI ((-1)), vI 0, vR (n + 81), vI 0, vR (n + 82), vI 0], eI 400 (fun _ => 0), eI 80 (fun _ => 0), eI 400 (fun _ => 0), eO 0 [vR (n + 84), vR (n + 85), vI 0, vI 0, vI 0, vI 0, vI 0, vI 0, vI 0, vI 0], eI 120 (fun _ => 0), eI 144 (fun _ => 0), eO 6 [vR (n + 87), vR (n + 88), vI 0, vI 0], eI 144 (fun _ => 0), eI 144 (fun _ => 0), eO 4 [vR (n + 90), vR (n + 91)], eI 401 (fun _ => 0), eI 401 (fun _ => 0), eO 2 [vR (n + 93), vR (n + 94), vI 0, vI 0], eI 1231 (fun _ => 0), eI 9 (fun _ => 0), eO 1 [vR (n + 2), vR (n + 7), vR (n + 5), vR (n + 96), vR (n + 97), vR (n + 98)], eI 10 (fun _ => 0), eI 32 (fun _ => 0), eI 100 (fun _ => 0), eO 1 [vR (n + 83), vR (n + 7), vN, vR (n + 100), vR (n + 101), vR (n + 102)], eI 10 (fun _ => 0), eI 32 (fun _ => 0), eI 100 (fun _ => 0)]
def hgas (n : Nat) (vas6 : (Nat → Int32)) (vas2_4 : Int32) (vas2_5 : Int32) (vas2_7 : Int32) (vas2_9 : Nat) (vas59_1 : Nat) (vas59_2 : Int32) (vas61 : (Nat → Int32)) (vas62 : (Nat → Int32)) (vas63 : (Nat → Int32)) (vas64 : (Nat → Int32)) (vas65 : (Nat → Int32)) (vas66 : (Nat → Int32)) (vas67 : (Nat → Int32)) (vas68 : (Nat → Int32)) (vas69 : (Nat → Int32)) (vas70 : (Nat → Int32)) (vas71 : (Nat → Int32)) (vas72 : (Nat → Int32)) (vas73 : (Nat → Int32)) (vas74 : (Nat → Int32)) (vas75 : (Nat → Int32)) (vas76 : (Nat → Int32)) (vas77 : (Nat → Int32)) (vas78 : (Nat → Int32)) : PH := [eO 11 [vR (n + 1), vR (n + 30), vI 0, vR (n + 59), vR (n + 79), vR (n + 83), vR (n + 95), vR (n + 99), vR (n + 86), vR (n + 89), vR (n + 92)], eO 10 [vR (n + 2), vR (n + 5), vR (n + 7), vR (n + 8)], eO 0 [vR (n + 3), vR (n + 4), vI 0, vI 0, vI vas2_4, vI vas2_5, vI 0, vI vas2_7, vI 0, vI (nI vas2_9)], eI 120 (fun _ => 0), eI 144 (fun _ => 0), eO 3 [vR (n + 6)], eI 750 vas6, eR 2 4 (va_up (va_up (va_up (va_up (fun _ => none) (0 : Int32).toNatClampNeg (some (n + 9))) (1 : Int32).toNatClampNeg (some (n + 9))) (2 : Int32).toNatClampNeg (some (n + 9))) (3 : Int32).toNatClampNeg (some (n + 9))), eR 3 9 (va_up (va_up (va_up (va_up (va_up (va_up (va_up (va_up (va_up (fun _ => none) (0 : Int32).toNatClampNeg (some (n + 12))) (1 : Int32).toNatClampNeg (some (n + 14))) (2 : Int32).toNatClampNeg (some (n + 16))) (3 : Int32).toNatClampNeg (some (n + 18))) (4 : Int32).toNatClampNeg (some (n + 20))) (5 : Int32).toNatClampNeg (some (n + 22))) (6 : Int32).toNatClampNeg (some (n + 24))) (7 : Int32).toNatClampNeg (some (n + 26))) (8 : Int32).toNatClampNeg (some (n + 28))), eO 8 [vR (n + 10), vI 0, vR (n + 11)], eI 0 (fun _ => 0), eI 0 (fun _ => 0), eO 9 [vR (n + 13), vI 0], eI 6 (fun _ => 0), eO 9 [vR (n + 15), vI 0], eI 16 (fun _ => 0), eO 9 [vR (n + 17), vI 0], eI 15 (fun _ => 0), eO 9 [vR (n + 19), vI 0], eI 15 (fun _ => 0), eO 9 [vR (n + 21), vI 0], eI 8 (fun _ => 0), eO 9 [vR (n + 23), vI 0], eI 8 (fun _ => 0), eO 9 [vR (n + 25), vI 0], eI 12 (fun _ => 0), eO 9 [vR (n + 27), vI 0], eI 12 (fun _ => 0), eO 9 [vR (n + 29), vI 0], eI 12 (fun _ => 0), eO 10 [vR (n + 31), vR (n + 34), vR (n + 36), vR (n + 37)], eO 0 [vR (n + 32), vR (n + 33), vI 0, vI 0, vI 0, vI 0, vI 0, vI 0, vI 0, vI 0], eI 120 (fun _ => 0), eI 144 (fun _ => 0), eO 3 [vR (n + 35)], eI 750 (fun _ => 0), eR 2 4 (va_up (va_up (va_up (va_up (fun _ => none) (0 : Int32).toNatClampNeg (some (n + 38))) (1 : Int32).toNatClampNeg (some (n + 38))) (2 : Int32).toNatClampNeg (some (n + 38))) (3 : Int32).toNatClampNeg (some (n + 38))), eR 3 9 (va_up (va_up (va_up (va_up (va_up (va_up (va_up (va_up (va_up (fun _ => none) (0 : Int32).toNatClampNeg (some (n + 41))) (1 : Int32).toNatClampNeg (some (n + 43))) (2 : Int32).toNatClampNeg (some (n + 45))) (3 : Int32).toNatClampNeg (some (n + 47))) (4 : Int32).toNatClampNeg (some (n + 49))) (5 : Int32).toNatClampNeg (some (n + 51))) (6 : Int32).toNatClampNeg (some (n + 53))) (7 : Int32).toNatClampNeg (some (n + 55))) (8 : Int32).toNatClampNeg (some (n + 57))), eO 8 [vR (n + 39), vI 0, vR (n + 40)], eI 0 (fun _ => 0), eI 0 (fun _ => 0), eO 9 [vR (n + 42), vI 0], eI 6 (fun _ => 0), eO 9 [vR (n + 44), vI 0], eI 16 (fun _ => 0), eO 9 [vR (n + 46), vI 0], eI 15 (fun _ => 0), eO 9 [vR (n + 48), vI 0], eI 15 (fun _ => 0), eO 9 [vR (n + 50), vI 0], eI 8 (fun _ => 0), eO 9 [vR (n + 52), vI 0], eI 8 (fun _ => 0), eO 9 [vR (n + 54), vI 0], eI 12 (fun _ => 0), eO 9 [vR (n + 56), vI 0], eI 12 (fun _ => 0), eO 9 [vR (n + 58), vI 0], eI 12 (fun _ => 0), eO 7 [vR (n + 60), vI (nI vas59_1), vI vas59_2], eR 1 6 (va_up (va_up (va_up (va_up (va_up (va_up (fun _ => none) (0 : Int32).toNatClampNeg (some (n + 61))) (1 : Int32).toNatClampNeg (some (n + 64))) (2 : Int32).toNatClampNeg (some (n + 67))) (3 : Int32).toNatClampNeg (some (n + 70))) (4 : Int32).toNatClampNeg (some (n + 73))) (5 : Int32).toNatClampNeg (some (n + 76))), eO 0 [vR (n + 62), vR (n + 63), vI (vas61 0), vI (vas61 1), vI (vas61 2), vI (vas61 3), vI (vas61 4), vI (vas61 5), vI (vas61 6), vI (vas61 7)], eI 120 vas62, eI 144 vas63, eO 0 [vR (n + 65), vR (n + 66), vI (vas64 0), vI (vas64 1), vI (vas64 2), vI (vas64 3), vI (vas64 4), vI (vas64 5), vI (vas64 6), vI (vas64 7)], eI 120 vas65, eI 144 vas66, eO 0 [vR (n + 68), vR (n + 69), vI (vas67 0), vI (vas67 1), vI (vas67 2), vI (vas67 3), vI (vas67 4), vI (vas67 5), vI (vas67 6), vI (vas67 7)], eI 120 vas68, eI 144 vas69, eO 0 [vR (n + 71), vR (n + 72), vI (vas70 0), vI (vas70 1), vI (vas70 2), vI (vas70 3), vI (vas70 4), vI (vas70 5), vI (vas70 6), vI (vas70 7)], eI 120 vas71, eI 144 vas72, eO 0 [vR (n + 74), vR (n + 75), vI (vas73 0), vI (vas73 1), vI (vas73 2), vI (vas73 3), vI (vas73 4), vI (vas73 5), vI (vas73 6), vI (vas73 7)], eI 120 vas74, eI 144 vas75, eO 0 [vR (n + 77), vR (n + 78), vI (vas76 0), vI (vas76 1), vI (vas76 2), vI (vas76 3), vI (vas76 4), vI (vas76 5), vI (vas76 6), vI (vas76 7)], eI 120 vas77, eI 144 vas78, eO 5 [vR (n + 80), vI 0, vI 0, vI 0, vI 0, vI 2, vI 0, vI 0, vI ((-1)), vI 0, vR (n + 81), vI 0, vR (n + 82), vI 0], eI 400 (fun _ => 0), eI 80 (fun _ => 0), eI 400 (fun _ => 0), eO 0 [vR (n + 84), vR (n + 85), vI 0, vI 0, vI 0, vI 0, vI 0, vI 0, vI 0, vI 0], eI 120 (fun _ => 0), eI 144 (fun _ => 0), eO 6 [vR (n + 87), vR (n + 88), vI 0, vI 0], eI 144 (fun _ => 0), eI 144 (fun _ => 0), eO 4 [vR (n + 90), vR (n + 91)], eI 401 (fun _ => 0), eI 401 (fun _ => 0), eO 2 [vR (n + 93), vR (n + 94), vI 0, vI 0], eI 1231 (fun _ => 0), eI 9 (fun _ => 0), eO 1 [vR (n + 2), vR (n + 7), vR (n + 5), vR (n + 96), vR (n + 97), vR (n + 98)], eI 10 (fun _ => 0), eI 32 (fun _ => 0), eI 100 (fun _ => 0), eO 1 [vR (n + 83), vR (n + 7), vN, vR (n + 100), vR (n + 101), vR (n + 102)], eI 10 (fun _ => 0), eI 32 (fun _ => 0), eI 100 (fun _ => 0)]
set_option maxRecDepth 100000 in
set_option maxHeartbeats 4000000 in
theorem kh1_X1_skyOfHour (l : Launch) (G : PG) (h0 : PH) (n : Nat) (hn : h0.length = n) (T : PH) (vas2_4 vas2_5 vas2_7 vas59_2 : Int32) (vas6 : Nat → Int32) (vas61 : Nat → Int32) (vas62 : Nat → Int32) (vas63 : Nat → Int32) (vas64 : Nat → Int32) (vas65 : Nat → Int32) (vas66 : Nat → Int32) (vas67 : Nat → Int32) (vas68 : Nat → Int32) (vas69 : Nat → Int32) (vas70 : Nat → Int32) (vas71 : Nat → Int32) (vas72 : Nat → Int32) (vas73 : Nat → Int32) (vas74 : Nat → Int32) (vas75 : Nat → Int32) (vas76 : Nat → Int32) (vas77 : Nat → Int32) (vas78 : Nat → Int32) (vas2_9 : Nat) (hvas2_9 : vas2_9 ≤ 150) (vas59_1 : Nat) (hvas59_1 : vas59_1 ≤ 5) : PMet l G yX1_skyOfHour cX1_skyOfHour 4 none 0 0 0 [vR (n + 95)] (h0 ++ (hgas n vas6 vas2_4 vas2_5 vas2_7 vas2_9 vas59_1 vas59_2 vas61 vas62 vas63 vas64 vas65 vas66 vas67 vas68 vas69 vas70 vas71 vas72 vas73 vas74 vas75 vas76 vas77 vas78 ++ T)) (qV (fun h' => h' = h0 ++ (hgas n vas6 vas2_4 vas2_5 vas2_7 vas2_9 vas59_1 vas59_2 vas61 vas62 vas63 vas64 vas65 vas66 vas67 vas68 vas69 vas70 vas71 vas72 vas73 vas74 vas75 vas76 vas77 vas78 ++ T))) := by
  refine PMet.intro (by decide) (Nat.le_of_ble_eq_true rfl) ?_
  intro p e s m args below meth c X hr hlk hnm
  refine r_aload_n X dX1_skyOfHour_0 rfl ?_
  refine a_get (a := 95) X hn fg_X1_25 dX1_skyOfHour_1 rfl rfl ?_
  refine r_iconst (v := 2) X dX1_skyOfHour_4 (by decide +kernel) ?_
  refine a_aald (a := 7) (v := vR (n + 9)) (C := RX8) X hn rfl dX1_skyOfHour_5 rfl (inK (by decide +kernel)) rfl ?_
  refine r_astore_n X dX1_skyOfHour_6 (by decide) ?_
  refine r_iconst (v := 0) X dX1_skyOfHour_7 (by decide +kernel) ?_
  refine r_istore_n X dX1_skyOfHour_8 (by decide) ?_
  refine r_iload_n X dX1_skyOfHour_9 rfl ?_
  refine r_aload_n X dX1_skyOfHour_10 rfl ?_
  refine a_get (a := 9) X hn fg_X1_109 dX1_skyOfHour_11 rfl rfl ?_
  refine r_icmp_ge_t (tgt := 136) X dX1_skyOfHour_14 rfl (by decide +kernel) ?_
  exact r_ret_v X hr hlk dX1_skyOfHour_136 (Nat.le_of_ble_eq_true rfl) (Nat.le_of_ble_eq_true rfl) ⟨rfl, rfl⟩
set_option maxRecDepth 100000 in
set_option maxHeartbeats 4000000 in
theorem kh2_X1_thumbsOfHour (l : Launch) (G : PG) (h0 : PH) (n : Nat) (hn : h0.length = n) (T : PH) (vas2_4 vas2_5 vas2_7 vas59_2 : Int32) (vas6 : Nat → Int32) (vas61 : Nat → Int32) (vas62 : Nat → Int32) (vas63 : Nat → Int32) (vas64 : Nat → Int32) (vas65 : Nat → Int32) (vas66 : Nat → Int32) (vas67 : Nat → Int32) (vas68 : Nat → Int32) (vas69 : Nat → Int32) (vas70 : Nat → Int32) (vas71 : Nat → Int32) (vas72 : Nat → Int32) (vas73 : Nat → Int32) (vas74 : Nat → Int32) (vas75 : Nat → Int32) (vas76 : Nat → Int32) (vas77 : Nat → Int32) (vas78 : Nat → Int32) (vas2_9 : Nat) (hvas2_9 : vas2_9 ≤ 150) (vas59_1 : Nat) (hvas59_1 : vas59_1 ≤ 5) : PMet l G yX1_thumbsOfHour cX1_thumbsOfHour 5 (some .int) 0 0 0 [vR (n + 95)] (h0 ++ (hgas n vas6 vas2_4 vas2_5 vas2_7 vas2_9 vas59_1 vas59_2 vas61 vas62 vas63 vas64 vas65 vas66 vas67 vas68 vas69 vas70 vas71 vas72 vas73 vas74 vas75 vas76 vas77 vas78 ++ T)) (qI (fun x h' => x = 0 ∧ h' = h0 ++ (hgas n vas6 vas2_4 vas2_5 vas2_7 vas2_9 vas59_1 vas59_2 vas61 vas62 vas63 vas64 vas65 vas66 vas67 vas68 vas69 vas70 vas71 vas72 vas73 vas74 vas75 vas76 vas77 vas78 ++ T))) := by
  refine PMet.intro (by decide) (Nat.le_of_ble_eq_true rfl) ?_
  intro p e s m args below meth c X hr hlk hnm
  refine r_aload_n X dX1_thumbsOfHour_0 rfl ?_
  refine a_get (a := 95) X hn fg_X1_25 dX1_thumbsOfHour_1 rfl rfl ?_
  refine r_iconst (v := 1) X dX1_thumbsOfHour_4 (by decide +kernel) ?_
  refine a_aald (a := 7) (v := vR (n + 9)) (C := RX8) X hn rfl dX1_thumbsOfHour_5 rfl (inK (by decide +kernel)) rfl ?_
  refine r_astore_n X dX1_thumbsOfHour_6 (by decide) ?_
  refine r_iconst (v := 0) X dX1_thumbsOfHour_7 (by decide +kernel) ?_
  refine r_istore_n X dX1_thumbsOfHour_8 (by decide) ?_
  refine r_iconst (v := 0) X dX1_thumbsOfHour_9 (by decide +kernel) ?_
  refine r_istore_n X dX1_thumbsOfHour_10 (by decide) ?_
  refine r_iload_n X dX1_thumbsOfHour_11 rfl ?_
  refine r_aload_n X dX1_thumbsOfHour_12 rfl ?_
  refine a_get (a := 9) X hn fg_X1_109 dX1_thumbsOfHour_13 rfl rfl ?_
  refine r_icmp_ge_t (tgt := 90) X dX1_thumbsOfHour_16 rfl (by decide +kernel) ?_
  refine r_iload_n X dX1_thumbsOfHour_90 rfl ?_
  exact r_ret_i X hr hlk dX1_thumbsOfHour_91 (Nat.le_of_ble_eq_true rfl) (Nat.le_of_ble_eq_true rfl) ⟨_, rfl, ⟨rfl, rfl⟩⟩
set_option maxRecDepth 100000 in
set_option maxHeartbeats 4000000 in
theorem kh3_X0_marked (l : Launch) (G : PG) (h0 : PH) (n : Nat) (hn : h0.length = n) (T : PH) (vas2_4 vas2_5 vas2_7 vas59_2 : Int32) (vas6 : Nat → Int32) (vas61 : Nat → Int32) (vas62 : Nat → Int32) (vas63 : Nat → Int32) (vas64 : Nat → Int32) (vas65 : Nat → Int32) (vas66 : Nat → Int32) (vas67 : Nat → Int32) (vas68 : Nat → Int32) (vas69 : Nat → Int32) (vas70 : Nat → Int32) (vas71 : Nat → Int32) (vas72 : Nat → Int32) (vas73 : Nat → Int32) (vas74 : Nat → Int32) (vas75 : Nat → Int32) (vas76 : Nat → Int32) (vas77 : Nat → Int32) (vas78 : Nat → Int32) (z0 : Nat) (hz0 : z0 ≤ 143) (vas2_9 : Nat) (hvas2_9 : vas2_9 ≤ 150) (vas59_1 : Nat) (hvas59_1 : vas59_1 ≤ 5) : PMet l G yX0_marked cX0_marked 2 (some .boolean) 0 0 0 [vR (n + 2), vI (nI z0)] (h0 ++ (hgas n vas6 vas2_4 vas2_5 vas2_7 vas2_9 vas59_1 vas59_2 vas61 vas62 vas63 vas64 vas65 vas66 vas67 vas68 vas69 vas70 vas71 vas72 vas73 vas74 vas75 vas76 vas77 vas78 ++ T)) (qI (fun x h' => x = 0 ∧ h' = h0 ++ (hgas n vas6 vas2_4 vas2_5 vas2_7 vas2_9 vas59_1 vas59_2 vas61 vas62 vas63 vas64 vas65 vas66 vas67 vas68 vas69 vas70 vas71 vas72 vas73 vas74 vas75 vas76 vas77 vas78 ++ T))) := by
  refine PMet.intro (by decide) (Nat.le_of_ble_eq_true rfl) ?_
  intro p e s m args below meth c X hr hlk hnm
  refine r_iload_n X dX0_marked_0 rfl ?_
  refine r_if_lt_f (tgt := 24) X dX0_marked_1 rfl (by have e0 : (0 : Int32).toInt = 0 := (by decide); have e1 : (nI z0).toInt = ((z0 : Nat) : Int) := toN (rfl) (by omega); simp only [Int32.lt_iff_toInt_lt, Int32.le_iff_toInt_le, ← Int32.toInt_inj] at  ⊢; omega) ?_
  refine r_iload_n X dX0_marked_4 rfl ?_
  refine r_sipush (v := 144) X dX0_marked_5 (by decide +kernel) ?_
  refine r_icmp_ge_f (tgt := 24) X dX0_marked_8 rfl (by have e0 : (144 : Int32).toInt = 144 := (by decide); have e1 : (nI z0).toInt = ((z0 : Nat) : Int) := toN (rfl) (by omega); simp only [Int32.lt_iff_toInt_lt, Int32.le_iff_toInt_le, ← Int32.toInt_inj] at  ⊢; omega) ?_
  refine r_aload_n X dX0_marked_11 rfl ?_
  refine a_get (a := 2) X hn fg_X0_15 dX0_marked_12 rfl rfl ?_
  refine r_iload_n X dX0_marked_15 rfl ?_
  refine a_iald (a := 4) (v := 0) X hn dX0_marked_16 rfl (vin (k := z0) (rfl) (by omega) (by decide)) rfl ?_
  refine r_if_eq_t (tgt := 24) X dX0_marked_17 rfl (by decide +kernel) ?_
  refine r_iconst (v := 0) X dX0_marked_24 (by decide +kernel) ?_
  exact r_ret_z X hr hlk (Or.inl rfl) dX0_marked_25 (Nat.le_of_ble_eq_true rfl) (Nat.le_of_ble_eq_true rfl) ⟨_, rfl, ⟨rfl, rfl⟩⟩
set_option maxRecDepth 100000 in
set_option maxHeartbeats 4000000 in
theorem kh4_X1_meltAll (l : Launch) (G : PG) (h0 : PH) (n : Nat) (hn : h0.length = n) (T : PH) (vas2_4 vas2_5 vas2_7 vas59_2 : Int32) (vas6 : Nat → Int32) (vas61 : Nat → Int32) (vas62 : Nat → Int32) (vas63 : Nat → Int32) (vas64 : Nat → Int32) (vas65 : Nat → Int32) (vas66 : Nat → Int32) (vas67 : Nat → Int32) (vas68 : Nat → Int32) (vas69 : Nat → Int32) (vas70 : Nat → Int32) (vas71 : Nat → Int32) (vas72 : Nat → Int32) (vas73 : Nat → Int32) (vas74 : Nat → Int32) (vas75 : Nat → Int32) (vas76 : Nat → Int32) (vas77 : Nat → Int32) (vas78 : Nat → Int32) (vas2_9 : Nat) (hvas2_9 : vas2_9 ≤ 150) (vas59_1 : Nat) (hvas59_1 : vas59_1 ≤ 5) : PMet l G yX1_meltAll cX1_meltAll 2 none 1 0 0 [vR (n + 95)] (h0 ++ (hgas n vas6 vas2_4 vas2_5 vas2_7 vas2_9 vas59_1 vas59_2 vas61 vas62 vas63 vas64 vas65 vas66 vas67 vas68 vas69 vas70 vas71 vas72 vas73 vas74 vas75 vas76 vas77 vas78 ++ T)) (qV (fun h' => h' = h0 ++ (hgas n vas6 vas2_4 vas2_5 vas2_7 vas2_9 vas59_1 vas59_2 vas61 vas62 vas63 vas64 vas65 vas66 vas67 vas68 vas69 vas70 vas71 vas72 vas73 vas74 vas75 vas76 vas77 vas78 ++ T))) := by
  refine PMet.intro (by decide) (Nat.le_of_ble_eq_true rfl) ?_
  intro p e s m args below meth c X hr hlk hnm
  refine r_iconst (v := 0) X dX1_meltAll_0 (by decide +kernel) ?_
  refine r_istore_n X dX1_meltAll_1 (by decide) ?_
  refine r_eq (h' := h0 ++ (hgas n vas6 vas2_4 vas2_5 vas2_7 vas2_9 vas59_1 vas59_2 vas61 vas62 vas63 vas64 vas65 vas66 vas67 vas68 vas69 vas70 vas71 vas72 vas73 vas74 vas75 vas76 vas77 vas78 ++ T)) (ls' := [some (vR (n + 95)), some (vI (nI 0))]) rfl rfl rfl ?_
  refine pw_loop1 144 (fun i0 => h0 ++ (hgas n vas6 vas2_4 vas2_5 vas2_7 vas2_9 vas59_1 vas59_2 vas61 vas62 vas63 vas64 vas65 vas66 vas67 vas68 vas69 vas70 vas71 vas72 vas73 vas74 vas75 vas76 vas77 vas78 ++ T)) (fun i0 => [some (vR (n + 95)), some (vI (nI i0))]) ?_ ?_ 0 (by omega)
  · refine r_eq (h' := h0 ++ (hgas n vas6 vas2_4 vas2_5 vas2_7 vas2_9 vas59_1 vas59_2 vas61 vas62 vas63 vas64 vas65 vas66 vas67 vas68 vas69 vas70 vas71 vas72 vas73 vas74 vas75 vas76 vas77 vas78 ++ T)) (ls' := [some (vR (n + 95)), some (vI (nI 144))]) rfl rfl rfl ?_
    refine r_iload_n X dX1_meltAll_2 rfl ?_
    refine r_sipush (v := 144) X dX1_meltAll_3 (by decide +kernel) ?_
    refine r_icmp_ge_t (tgt := 67) X dX1_meltAll_6 rfl (by decide +kernel) ?_
    exact r_ret_v X hr hlk dX1_meltAll_67 (Nat.le_of_ble_eq_true rfl) (Nat.le_of_ble_eq_true rfl) ⟨rfl, rfl⟩
  · rintro i0 hi0 ih0 
    refine r_eq (h' := h0 ++ (hgas n vas6 vas2_4 vas2_5 vas2_7 vas2_9 vas59_1 vas59_2 vas61 vas62 vas63 vas64 vas65 vas66 vas67 vas68 vas69 vas70 vas71 vas72 vas73 vas74 vas75 vas76 vas77 vas78 ++ T)) (ls' := [some (vR (n + 95)), some (vI (nI i0))]) rfl rfl rfl ?_
    refine r_iload_n X dX1_meltAll_2 rfl ?_
    refine r_sipush (v := 144) X dX1_meltAll_3 (by decide +kernel) ?_
    refine r_icmp_ge_f (tgt := 67) X dX1_meltAll_6 rfl (by have e0 : (144 : Int32).toInt = 144 := (by decide); have e1 : (nI i0).toInt = ((i0 : Nat) : Int) := toN (rfl) (by omega); simp only [Int32.lt_iff_toInt_lt, Int32.le_iff_toInt_le, ← Int32.toInt_inj] at  ⊢; omega) ?_
    refine r_aload_n X dX1_meltAll_9 rfl ?_
    refine a_get (a := 95) X hn fg_X1_21 dX1_meltAll_10 rfl rfl ?_
    refine r_iload_n X dX1_meltAll_13 rfl ?_
    refine r_V1i X kv_X1_83 dX1_meltAll_14 (apG (k := 2) hn rfl) rfl (kh3_X0_marked l G _ _ hn _ _ _ _ _ _ _ _ _ _ _ _ _ _ _ _ _ _ _ _ _ _ _ _ _ (by omega) _ (by omega) _ (by omega)) rfl (fun x h' hΨ => ?_)
    obtain ⟨rfl, rfl⟩ := hΨ
    refine r_if_eq_t (tgt := 61) X dX1_meltAll_17 rfl (by decide +kernel) ?_
    refine r_iinc (v := nI (i0 + 1)) X dX1_meltAll_61 rfl (nadd (rfl) rfl) (by decide) ?_
    refine r_goto (tgt := 2) X dX1_meltAll_64 rfl ?_
    exact r_eq (h' := h0 ++ (hgas n vas6 vas2_4 vas2_5 vas2_7 vas2_9 vas59_1 vas59_2 vas61 vas62 vas63 vas64 vas65 vas66 vas67 vas68 vas69 vas70 vas71 vas72 vas73 vas74 vas75 vas76 vas77 vas78 ++ T)) (ls' := [some (vR (n + 95)), some (vI (nI (i0 + 1)))]) (st' := []) rfl rfl rfl (ih0)
set_option maxRecDepth 100000 in
set_option maxHeartbeats 4000000 in
theorem kh5_X1_sum (l : Launch) (G : PG) (h0 : PH) (n : Nat) (hn : h0.length = n) (T : PH) (vas2_4 vas2_5 vas2_7 vas59_2 : Int32) (vas6 : Nat → Int32) (vas61 : Nat → Int32) (vas62 : Nat → Int32) (vas63 : Nat → Int32) (vas64 : Nat → Int32) (vas65 : Nat → Int32) (vas66 : Nat → Int32) (vas67 : Nat → Int32) (vas68 : Nat → Int32) (vas69 : Nat → Int32) (vas70 : Nat → Int32) (vas71 : Nat → Int32) (vas72 : Nat → Int32) (vas73 : Nat → Int32) (vas74 : Nat → Int32) (vas75 : Nat → Int32) (vas76 : Nat → Int32) (vas77 : Nat → Int32) (vas78 : Nat → Int32) (vas2_9 : Nat) (hvas2_9 : vas2_9 ≤ 150) (vas59_1 : Nat) (hvas59_1 : vas59_1 ≤ 5) : PMet l G yX1_sum cX1_sum 3 (some .int) 1 0 0 [vR (n + 95)] (h0 ++ (hgas n vas6 vas2_4 vas2_5 vas2_7 vas2_9 vas59_1 vas59_2 vas61 vas62 vas63 vas64 vas65 vas66 vas67 vas68 vas69 vas70 vas71 vas72 vas73 vas74 vas75 vas76 vas77 vas78 ++ T)) (qI (fun x h' => x = 0 ∧ h' = h0 ++ (hgas n vas6 vas2_4 vas2_5 vas2_7 vas2_9 vas59_1 vas59_2 vas61 vas62 vas63 vas64 vas65 vas66 vas67 vas68 vas69 vas70 vas71 vas72 vas73 vas74 vas75 vas76 vas77 vas78 ++ T))) := by
  refine PMet.intro (by decide) (Nat.le_of_ble_eq_true rfl) ?_
  intro p e s m args below meth c X hr hlk hnm
  refine r_iconst (v := 0) X dX1_sum_0 (by decide +kernel) ?_
  refine r_istore_n X dX1_sum_1 (by decide) ?_
  refine r_iconst (v := 0) X dX1_sum_2 (by decide +kernel) ?_
  refine r_istore_n X dX1_sum_3 (by decide) ?_
  refine r_eq (h' := h0 ++ (hgas n vas6 vas2_4 vas2_5 vas2_7 vas2_9 vas59_1 vas59_2 vas61 vas62 vas63 vas64 vas65 vas66 vas67 vas68 vas69 vas70 vas71 vas72 vas73 vas74 vas75 vas76 vas77 vas78 ++ T)) (ls' := [some (vR (n + 95)), some (vI 0), some (vI (nI 0))]) rfl rfl rfl ?_
  refine pw_loop1 144 (fun i0 => h0 ++ (hgas n vas6 vas2_4 vas2_5 vas2_7 vas2_9 vas59_1 vas59_2 vas61 vas62 vas63 vas64 vas65 vas66 vas67 vas68 vas69 vas70 vas71 vas72 vas73 vas74 vas75 vas76 vas77 vas78 ++ T)) (fun i0 => [some (vR (n + 95)), some (vI 0), some (vI (nI i0))]) ?_ ?_ 0 (by omega)
  · refine r_eq (h' := h0 ++ (hgas n vas6 vas2_4 vas2_5 vas2_7 vas2_9 vas59_1 vas59_2 vas61 vas62 vas63 vas64 vas65 vas66 vas67 vas68 vas69 vas70 vas71 vas72 vas73 vas74 vas75 vas76 vas77 vas78 ++ T)) (ls' := [some (vR (n + 95)), some (vI 0), some (vI (nI 144))]) rfl rfl rfl ?_
    refine r_iload_n X dX1_sum_4 rfl ?_
    refine r_sipush (v := 144) X dX1_sum_5 (by decide +kernel) ?_
    refine r_icmp_ge_t (tgt := 45) X dX1_sum_8 rfl (by decide +kernel) ?_
    refine r_iload_n X dX1_sum_45 rfl ?_
    exact r_ret_i X hr hlk dX1_sum_46 (Nat.le_of_ble_eq_true rfl) (Nat.le_of_ble_eq_true rfl) ⟨_, rfl, ⟨rfl, rfl⟩⟩
  · rintro i0 hi0 ih0 
    refine r_eq (h' := h0 ++ (hgas n vas6 vas2_4 vas2_5 vas2_7 vas2_9 vas59_1 vas59_2 vas61 vas62 vas63 vas64 vas65 vas66 vas67 vas68 vas69 vas70 vas71 vas72 vas73 vas74 vas75 vas76 vas77 vas78 ++ T)) (ls' := [some (vR (n + 95)), some (vI 0), some (vI (nI i0))]) rfl rfl rfl ?_
    refine r_iload_n X dX1_sum_4 rfl ?_
    refine r_sipush (v := 144) X dX1_sum_5 (by decide +kernel) ?_
    refine r_icmp_ge_f (tgt := 45) X dX1_sum_8 rfl (by have e0 : (144 : Int32).toInt = 144 := (by decide); have e1 : (nI i0).toInt = ((i0 : Nat) : Int) := toN (rfl) (by omega); simp only [Int32.lt_iff_toInt_lt, Int32.le_iff_toInt_le, ← Int32.toInt_inj] at  ⊢; omega) ?_
    refine r_aload_n X dX1_sum_11 rfl ?_
    refine a_get (a := 95) X hn fg_X1_21 dX1_sum_12 rfl rfl ?_
    refine r_iload_n X dX1_sum_15 rfl ?_
    refine r_V1i X kv_X1_83 dX1_sum_16 (apG (k := 2) hn rfl) rfl (kh3_X0_marked l G _ _ hn _ _ _ _ _ _ _ _ _ _ _ _ _ _ _ _ _ _ _ _ _ _ _ _ _ (by omega) _ (by omega) _ (by omega)) rfl (fun x h' hΨ => ?_)
    obtain ⟨rfl, rfl⟩ := hΨ
    refine r_if_eq_t (tgt := 39) X dX1_sum_19 rfl (by decide +kernel) ?_
    refine r_iinc (v := nI (i0 + 1)) X dX1_sum_39 rfl (nadd (rfl) rfl) (by decide) ?_
    refine r_goto (tgt := 4) X dX1_sum_42 rfl ?_
    exact r_eq (h' := h0 ++ (hgas n vas6 vas2_4 vas2_5 vas2_7 vas2_9 vas59_1 vas59_2 vas61 vas62 vas63 vas64 vas65 vas66 vas67 vas68 vas69 vas70 vas71 vas72 vas73 vas74 vas75 vas76 vas77 vas78 ++ T)) (ls' := [some (vR (n + 95)), some (vI 0), some (vI (nI (i0 + 1)))]) (st' := []) rfl rfl rfl (ih0)
set_option maxRecDepth 100000 in
set_option maxHeartbeats 4000000 in
theorem kh6_X3_write (l : Launch) (G : PG) (h0 : PH) (n : Nat) (hn : h0.length = n) (T : PH) (vas2_4 vas2_5 vas2_7 vas59_2 : Int32) (vas6 : Nat → Int32) (vas61 : Nat → Int32) (vas62 : Nat → Int32) (vas63 : Nat → Int32) (vas64 : Nat → Int32) (vas65 : Nat → Int32) (vas66 : Nat → Int32) (vas67 : Nat → Int32) (vas68 : Nat → Int32) (vas69 : Nat → Int32) (vas70 : Nat → Int32) (vas71 : Nat → Int32) (vas72 : Nat → Int32) (vas73 : Nat → Int32) (vas74 : Nat → Int32) (vas75 : Nat → Int32) (vas76 : Nat → Int32) (vas77 : Nat → Int32) (vas78 : Nat → Int32) (z0 : Nat) (hz0 : z0 ≤ 150) (vas2_9 : Nat) (hvas2_9 : vas2_9 ≤ 150) (vas59_1 : Nat) (hvas59_1 : vas59_1 ≤ 5) : PMet l G yX3_write cX3_write 7 (some .int) 0 0 0 [vR (n + 5), vI (nI z0), vR (n + 2), vI 4, vI ((-1)), vI 0] (h0 ++ ((hgas n vas6 vas2_4 vas2_5 vas2_7 vas2_9 vas59_1 vas59_2 vas61 vas62 vas63 vas64 vas65 vas66 vas67 vas68 vas69 vas70 vas71 vas72 vas73 vas74 vas75 vas76 vas77 vas78 ++ T).set 2 (eO 0 [vR (n + 3), vR (n + 4), vI 0, vI 0, vI vas2_4, vI vas2_5, vI 0, vI (vas2_7 + 1), vI 0, vI (nI vas2_9)]))) (qI (fun x h' => (∃ g5 : Nat → Int32, ((nI z0) < 150) ∧ x = nI (z0 + 1) ∧ h' = h0 ++ (((hgas n vas6 vas2_4 vas2_5 vas2_7 vas2_9 vas59_1 vas59_2 vas61 vas62 vas63 vas64 vas65 vas66 vas67 vas68 vas69 vas70 vas71 vas72 vas73 vas74 vas75 vas76 vas77 vas78 ++ T).set 2 (eO 0 [vR (n + 3), vR (n + 4), vI 0, vI 0, vI vas2_4, vI vas2_5, vI 0, vI (vas2_7 + 1), vI 0, vI (nI vas2_9)])).set 6 (eI 750 g5))) ∨ ((¬ (nI z0) < 150) ∧ x = nI z0 ∧ h' = h0 ++ ((hgas n vas6 vas2_4 vas2_5 vas2_7 vas2_9 vas59_1 vas59_2 vas61 vas62 vas63 vas64 vas65 vas66 vas67 vas68 vas69 vas70 vas71 vas72 vas73 vas74 vas75 vas76 vas77 vas78 ++ T).set 2 (eO 0 [vR (n + 3), vR (n + 4), vI 0, vI 0, vI vas2_4, vI vas2_5, vI 0, vI (vas2_7 + 1), vI 0, vI (nI vas2_9)]))))) := by
  refine PMet.intro (by decide) (Nat.le_of_ble_eq_true rfl) ?_
  intro p e s m args below meth c X hr hlk hnm
  refine r_iload_n X dX3_write_0 rfl ?_
  refine r_if_lt_f (tgt := 11) X dX3_write_1 rfl (by have e0 : (0 : Int32).toInt = 0 := (by decide); have e1 : (nI z0).toInt = ((z0 : Nat) : Int) := toN (rfl) (by omega); simp only [Int32.lt_iff_toInt_lt, Int32.le_iff_toInt_le, ← Int32.toInt_inj] at  ⊢; omega) ?_
  refine r_iload_n X dX3_write_4 rfl ?_
  refine r_sipush (v := 150) X dX3_write_5 (by decide +kernel) ?_
  refine r_icmp_lt (tgt := 13) X dX3_write_8 rfl (fun q1 => ?_) (fun q1 => ?_)
  · have nq1 : z0 < 150 := by have e0 : (150 : Int32).toInt = 150 := (by decide); have e1 : (nI z0).toInt = ((z0 : Nat) : Int) := toN (rfl) (by omega); simp only [Int32.lt_iff_toInt_lt, Int32.le_iff_toInt_le, ← Int32.toInt_inj] at q1 ⊢; omega
    refine r_iload_n X dX3_write_13 rfl ?_
    refine r_iconst (v := 5) X dX3_write_14 (by decide +kernel) ?_
    refine r_imulE (v := nI (z0 * 5)) X dX3_write_15 (nmul (rfl) ((rfl : (5 : Int32) = nI 5))) ?_
    refine r_istore X dX3_write_16 (by decide) ?_
    refine r_aload_n X dX3_write_18 rfl ?_
    refine a_get (a := 5) X hn fg_X3_9 dX3_write_19 rfl rfl ?_
    refine r_iload X dX3_write_22 rfl ?_
    refine r_aload_n X dX3_write_24 rfl ?_
    refine a_get (a := 2) X hn fg_X3_15 dX3_write_25 rfl rfl ?_
    refine a_iast_any (a := 6) X hn dX3_write_28 rfl (vin (k := (z0 * 5)) (rfl) (by omega) (by decide)) (fun g1 => ?_)
    refine r_eq (h' := h0 ++ (((hgas n vas6 vas2_4 vas2_5 vas2_7 vas2_9 vas59_1 vas59_2 vas61 vas62 vas63 vas64 vas65 vas66 vas67 vas68 vas69 vas70 vas71 vas72 vas73 vas74 vas75 vas76 vas77 vas78 ++ T).set 2 (eO 0 [vR (n + 3), vR (n + 4), vI 0, vI 0, vI vas2_4, vI vas2_5, vI 0, vI (vas2_7 + 1), vI 0, vI (nI vas2_9)])).set 6 (eI 750 g1))) rfl rfl rfl ?_
    refine r_aload_n X dX3_write_29 rfl ?_
    refine a_get (a := 5) X hn fg_X3_9 dX3_write_30 rfl rfl ?_
    refine r_iload X dX3_write_33 rfl ?_
    refine r_iconst (v := 1) X dX3_write_35 (by decide +kernel) ?_
    refine r_iaddE (v := nI ((z0 * 5) + 1)) X dX3_write_36 (nadd (rfl) ((rfl : (1 : Int32) = nI 1))) ?_
    refine r_aload_n X dX3_write_37 rfl ?_
    refine a_get (a := 2) X hn fg_X3_21 dX3_write_38 rfl rfl ?_
    refine a_iast_any (a := 6) X hn dX3_write_41 rfl (vin (k := (z0 * 5 + 1)) (rfl) (by omega) (by decide)) (fun g2 => ?_)
    refine r_eq (h' := h0 ++ (((hgas n vas6 vas2_4 vas2_5 vas2_7 vas2_9 vas59_1 vas59_2 vas61 vas62 vas63 vas64 vas65 vas66 vas67 vas68 vas69 vas70 vas71 vas72 vas73 vas74 vas75 vas76 vas77 vas78 ++ T).set 2 (eO 0 [vR (n + 3), vR (n + 4), vI 0, vI 0, vI vas2_4, vI vas2_5, vI 0, vI (vas2_7 + 1), vI 0, vI (nI vas2_9)])).set 6 (eI 750 g2))) rfl rfl rfl ?_
    refine r_aload_n X dX3_write_42 rfl ?_
    refine a_get (a := 5) X hn fg_X3_9 dX3_write_43 rfl rfl ?_
    refine r_iload X dX3_write_46 rfl ?_
    refine r_iconst (v := 2) X dX3_write_48 (by decide +kernel) ?_
    refine r_iaddE (v := nI ((z0 * 5) + 2)) X dX3_write_49 (nadd (rfl) ((rfl : (2 : Int32) = nI 2))) ?_
    refine r_iload_n X dX3_write_50 rfl ?_
    refine a_iast_any (a := 6) X hn dX3_write_51 rfl (vin (k := (z0 * 5 + 2)) (rfl) (by omega) (by decide)) (fun g3 => ?_)
    refine r_eq (h' := h0 ++ (((hgas n vas6 vas2_4 vas2_5 vas2_7 vas2_9 vas59_1 vas59_2 vas61 vas62 vas63 vas64 vas65 vas66 vas67 vas68 vas69 vas70 vas71 vas72 vas73 vas74 vas75 vas76 vas77 vas78 ++ T).set 2 (eO 0 [vR (n + 3), vR (n + 4), vI 0, vI 0, vI vas2_4, vI vas2_5, vI 0, vI (vas2_7 + 1), vI 0, vI (nI vas2_9)])).set 6 (eI 750 g3))) rfl rfl rfl ?_
    refine r_aload_n X dX3_write_52 rfl ?_
    refine a_get (a := 5) X hn fg_X3_9 dX3_write_53 rfl rfl ?_
    refine r_iload X dX3_write_56 rfl ?_
    refine r_iconst (v := 3) X dX3_write_58 (by decide +kernel) ?_
    refine r_iaddE (v := nI ((z0 * 5) + 3)) X dX3_write_59 (nadd (rfl) ((rfl : (3 : Int32) = nI 3))) ?_
    refine r_iload X dX3_write_60 rfl ?_
    refine a_iast_any (a := 6) X hn dX3_write_62 rfl (vin (k := (z0 * 5 + 3)) (rfl) (by omega) (by decide)) (fun g4 => ?_)
    refine r_eq (h' := h0 ++ (((hgas n vas6 vas2_4 vas2_5 vas2_7 vas2_9 vas59_1 vas59_2 vas61 vas62 vas63 vas64 vas65 vas66 vas67 vas68 vas69 vas70 vas71 vas72 vas73 vas74 vas75 vas76 vas77 vas78 ++ T).set 2 (eO 0 [vR (n + 3), vR (n + 4), vI 0, vI 0, vI vas2_4, vI vas2_5, vI 0, vI (vas2_7 + 1), vI 0, vI (nI vas2_9)])).set 6 (eI 750 g4))) rfl rfl rfl ?_
    refine r_aload_n X dX3_write_63 rfl ?_
    refine a_get (a := 5) X hn fg_X3_9 dX3_write_64 rfl rfl ?_
    refine r_iload X dX3_write_67 rfl ?_
    refine r_iconst (v := 4) X dX3_write_69 (by decide +kernel) ?_
    refine r_iaddE (v := nI ((z0 * 5) + 4)) X dX3_write_70 (nadd (rfl) ((rfl : (4 : Int32) = nI 4))) ?_
    refine r_iload X dX3_write_71 rfl ?_
    refine a_iast_any (a := 6) X hn dX3_write_73 rfl (vin (k := (z0 * 5 + 4)) (rfl) (by omega) (by decide)) (fun g5 => ?_)
    refine r_eq (h' := h0 ++ (((hgas n vas6 vas2_4 vas2_5 vas2_7 vas2_9 vas59_1 vas59_2 vas61 vas62 vas63 vas64 vas65 vas66 vas67 vas68 vas69 vas70 vas71 vas72 vas73 vas74 vas75 vas76 vas77 vas78 ++ T).set 2 (eO 0 [vR (n + 3), vR (n + 4), vI 0, vI 0, vI vas2_4, vI vas2_5, vI 0, vI (vas2_7 + 1), vI 0, vI (nI vas2_9)])).set 6 (eI 750 g5))) rfl rfl rfl ?_
    refine r_iload_n X dX3_write_74 rfl ?_
    refine r_iconst (v := 1) X dX3_write_75 (by decide +kernel) ?_
    refine r_iaddE (v := nI (z0 + 1)) X dX3_write_76 (nadd (rfl) ((rfl : (1 : Int32) = nI 1))) ?_
    exact r_ret_i X hr hlk dX3_write_77 (Nat.le_of_ble_eq_true rfl) (Nat.le_of_ble_eq_true rfl) ⟨_, rfl, Or.inl ⟨_, q1, rfl, rfl⟩⟩
  · have nq1 : ¬ (z0 < 150) := by have e0 : (150 : Int32).toInt = 150 := (by decide); have e1 : (nI z0).toInt = ((z0 : Nat) : Int) := toN (rfl) (by omega); simp only [Int32.lt_iff_toInt_lt, Int32.le_iff_toInt_le, ← Int32.toInt_inj] at q1 ⊢; omega
    refine r_iload_n X dX3_write_11 rfl ?_
    exact r_ret_i X hr hlk dX3_write_12 (Nat.le_of_ble_eq_true rfl) (Nat.le_of_ble_eq_true rfl) ⟨_, rfl, Or.inr (⟨q1, rfl, rfl⟩)⟩
