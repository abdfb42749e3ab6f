/-! the class's canton beside the reference's row of numbers -/
def b5 (G : FA) (l : Nat) (a b c d e : Int32) : FA := upd (upd (upd (upd (upd G (5 * l) a) (5 * l + 1) b) (5 * l + 2) c) (5 * l + 3) d) (5 * l + 4) e
/-- scalars -/
def CRs (c nv : Nat) (z : Nat → Int32) (g : FA) : Prop := z (10 * c + 2) = nI nv ∧ z (10 * c + 3) = g 4 ∧ z (10 * c + 4) = g 1 ∧ z (10 * c + 5) = g 0 ∧ z (10 * c + 6) = g 5 ∧ z (10 * c + 7) = g 6 ∧ z (10 * c + 8) = g 2 ∧ z (10 * c + 9) = g 3
/-- voters -/
def CRt (nv : Nat) (t : FA) (g w4 w5 w6 : FA) : Prop := ∀ v, v < nv → t v = w4 v ∧ t (20 + v) = g (7 + v) ∧ t (40 + v) = w5 v ∧ t (60 + v) = w6 v ∧ t (80 + v) = g (27 + v) ∧ t (100 + v) = g (47 + v) ∧ (∃ a, a ≤ 11 ∧ w5 v = nI a) ∧ (∃ p, p ≤ 9 ∧ w6 v = nI p) ∧ (g (7 + v) = -1 ∨ g (7 + v) = 0 ∨ g (7 + v) = 1)
def CRr (g : FA) : Prop := (∃ h, h ≤ 11 ∧ g 1 = nI h) ∧ ∃ l, l ≤ 150 ∧ g 3 = nI l
def CRL (c nv : Nat) (z : Nat → Int32) (f r : Nat → FA) : Prop := nv ≤ 20 ∧ CRs c nv z (r 1) ∧ CRt nv (f (c + 1)) (r 1) (r 4) (r 5) (r 6) ∧ MRS nv (f (c + 2)) (r 1) ∧ CRr (r 1)
def BKR (f r : Nat → FA) : Prop := ∀ j, j < 750 → f 6 j = r 7 j
theorem CRt.cong {nv : Nat} {t t' g g' w4 w5 w6 w4' w5' w6' : FA} (h : CRt nv t g w4 w5 w6) (ht : ∀ j, j < 120 → t' j = t j) (hg : ∀ j, 7 ≤ j → j < 67 → g' j = g j) (h4 : ∀ v, v < 20 → w4' v = w4 v) (h5 : ∀ v, v < 20 → w5' v = w5 v) (h6 : ∀ v, v < 20 → w6' v = w6 v) (hn : nv ≤ 20) : CRt nv t' g' w4' w5' w6' := by
  intro v hv
  rw [ht v (by omega), ht (20 + v) (by omega), ht (40 + v) (by omega), ht (60 + v) (by omega), ht (80 + v) (by omega), ht (100 + v) (by omega), hg (7 + v) (by omega) (by omega), hg (27 + v) (by omega) (by omega), hg (47 + v) (by omega) (by omega), h4 v (by omega), h5 v (by omega), h6 v (by omega)]
  exact h v hv
theorem MRS.cong {nv : Nat} {m m' g g' : FA} (h : MRS nv m g) (hm : ∀ j, j < 144 → m' j = m j) (hg : ∀ j, 67 ≤ j → j < 499 → g' j = g j) : MRS nv m' g' := by
  intro i hi
  rw [hm i hi, hg (67 + i) (by omega) (by omega), hg (211 + i) (by omega) (by omega), hg (355 + i) (by omega) (by omega)]
  exact h i hi
theorem uZ_id {z : Nat → Int32} {j : Nat} {x : Int32} (h : z j = x) : uZ z j x = z := by
  funext i
  unfold uZ
  by_cases c : i = j
  · rw [if_pos c, c, h]
  · rw [if_neg c]
set_option maxRecDepth 100000 in
theorem b243_1 (call : QC FA) (x1 : Int32) (x2 : Int32) (x3 : Int32) (o4 : Option PV) (z : Nat → Int32) (f : Nat → FA) (F : Nat) : rnG call 243 (F + 2) 0 [some (vR 0), some (vI x1), some (vI x2), some (vI x3), o4] [] (LR z f) = rnG call 243 F 2 [some (vR 0), some (vI x1), some (vI x2), some (vI x3), o4] [vI (z 5)] (LR z f) := rfl
set_option maxRecDepth 100000 in
theorem b243_2 (call : QC FA) (x : Int32) (ls : List (Option PV)) (L : QH FA) (F : Nat) : rnG call 243 (F + 1) 2 ls [vI x] L = bif pcmp 1 x 0 then rnG call 243 F 9 ls [] L else rnG call 243 F 3 ls [] L := rfl
set_option maxRecDepth 100000 in
theorem b243_3 (call : QC FA) (ls : List (Option PV)) (L : QH FA) (F : Nat) : rnG call 243 (F + 1) 9 ls [] L = some (none, L) := rfl
set_option maxRecDepth 100000 in
theorem b243_4 (call : QC FA) (x1 : Int32) (x2 : Int32) (x3 : Int32) (o4 : Option PV) (z : Nat → Int32) (f : Nat → FA) (F : Nat) : rnG call 243 (F + 3) 3 [some (vR 0), some (vI x1), some (vI x2), some (vI x3), o4] [] (LR z f) = rnG call 243 F 6 [some (vR 0), some (vI x1), some (vI x2), some (vI x3), o4] [vI 3, vR 1] (LR z f) := rfl
set_option maxRecDepth 100000 in
theorem b243_5 (call : QC FA) (x : Int32) (ls : List (Option PV)) (z : Nat → Int32) (f : Nat → FA) (F : Nat) : rnG call 243 (F + 1) 6 ls [vI x, vR 1] (LR z f) = bif (Nat.beq 0 0 && pin x 499) then rnG call 243 F 7 ls [vI (f 1 (ix x))] (LR z f) else none := rfl
set_option maxRecDepth 100000 in
theorem b243_6 (call : QC FA) (x1 : Int32) (x2 : Int32) (x3 : Int32) (o4 : Option PV) (s0 : Int32) (L : QH FA) (F : Nat) : rnG call 243 (F + 1) 7 [some (vR 0), some (vI x1), some (vI x2), some (vI x3), o4] [vI s0] L = rnG call 243 F 8 [some (vR 0), some (vI x1), some (vI x2), some (vI x3), o4] [vI 150, vI s0] L := rfl
set_option maxRecDepth 100000 in
theorem b243_7 (call : QC FA) (x y : Int32) (ls : List (Option PV)) (L : QH FA) (F : Nat) : rnG call 243 (F + 1) 8 ls [vI y, vI x] L = bif pcmp 1 x y then rnG call 243 F 10 ls [] L else rnG call 243 F 9 ls [] L := rfl
set_option maxRecDepth 100000 in
theorem b243_8 (call : QC FA) (x1 : Int32) (x2 : Int32) (x3 : Int32) (o4 : Option PV) (z : Nat → Int32) (f : Nat → FA) (F : Nat) : rnG call 243 (F + 4) 10 [some (vR 0), some (vI x1), some (vI x2), some (vI x3), o4] [] (LR z f) = rnG call 243 F 14 [some (vR 0), some (vI x1), some (vI x2), some (vI x3), o4] [vI 3, vR 1, vI 5] (LR z f) := rfl
set_option maxRecDepth 100000 in
theorem b243_9 (call : QC FA) (x : Int32) (s0 : Int32) (ls : List (Option PV)) (z : Nat → Int32) (f : Nat → FA) (F : Nat) : rnG call 243 (F + 1) 14 ls [vI x, vR 1, vI s0] (LR z f) = bif (Nat.beq 0 0 && pin x 499) then rnG call 243 F 15 ls [vI (f 1 (ix x)), vI s0] (LR z f) else none := rfl
set_option maxRecDepth 100000 in
theorem b243_10 (call : QC FA) (x1 : Int32) (x2 : Int32) (x3 : Int32) (o4 : Option PV) (s0 : Int32) (s1 : Int32) (z : Nat → Int32) (f : Nat → FA) (F : Nat) : rnG call 243 (F + 8) 15 [some (vR 0), some (vI x1), some (vI x2), some (vI x3), o4] [vI s0, vI s1] (LR z f) = rnG call 243 F 23 [some (vR 0), some (vI x1), some (vI x2), some (vI x3), some (vI (s1 * s0))] [vI 0, vR 1, vI (s1 * s0), vR 7] (LR z f) := rfl
set_option maxRecDepth 100000 in
theorem b243_11 (call : QC FA) (x : Int32) (s0 : Int32) (ls : List (Option PV)) (z : Nat → Int32) (f : Nat → FA) (F : Nat) : rnG call 243 (F + 1) 23 ls [vI x, vR 1, vI s0, vR 7] (LR z f) = bif (Nat.beq 0 0 && pin x 499) then rnG call 243 F 24 ls [vI (f 1 (ix x)), vI s0, vR 7] (LR z f) else none := rfl
set_option maxRecDepth 100000 in
theorem b243_12 (call : QC FA) (x y : Int32) (ls : List (Option PV)) (z : Nat → Int32) (f : Nat → FA) (F : Nat) : rnG call 243 (F + 1) 24 ls [vI y, vI x, vR 7] (LR z f) = bif (Nat.beq 0 0 && pin x 750) then rnG call 243 F 25 ls [] (LR z (uA f 7 (upd (f 7) (ix x) y))) else none := rfl
set_option maxRecDepth 100000 in
theorem b243_13 (call : QC FA) (x1 : Int32) (x2 : Int32) (x3 : Int32) (x4 : Int32) (z : Nat → Int32) (f : Nat → FA) (F : Nat) : rnG call 243 (F + 8) 25 [some (vR 0), some (vI x1), some (vI x2), some (vI x3), some (vI x4)] [] (LR z f) = rnG call 243 F 33 [some (vR 0), some (vI x1), some (vI x2), some (vI x3), some (vI x4)] [vI 1, vR 1, vI (x4 + 1), vR 7] (LR z f) := rfl
set_option maxRecDepth 100000 in
theorem b243_14 (call : QC FA) (x : Int32) (s0 : Int32) (ls : List (Option PV)) (z : Nat → Int32) (f : Nat → FA) (F : Nat) : rnG call 243 (F + 1) 33 ls [vI x, vR 1, vI s0, vR 7] (LR z f) = bif (Nat.beq 0 0 && pin x 499) then rnG call 243 F 34 ls [vI (f 1 (ix x)), vI s0, vR 7] (LR z f) else none := rfl
set_option maxRecDepth 100000 in
theorem b243_15 (call : QC FA) (x y : Int32) (ls : List (Option PV)) (z : Nat → Int32) (f : Nat → FA) (F : Nat) : rnG call 243 (F + 1) 34 ls [vI y, vI x, vR 7] (LR z f) = bif (Nat.beq 0 0 && pin x 750) then rnG call 243 F 35 ls [] (LR z (uA f 7 (upd (f 7) (ix x) y))) else none := rfl
set_option maxRecDepth 100000 in
theorem b243_16 (call : QC FA) (x1 : Int32) (x2 : Int32) (x3 : Int32) (x4 : Int32) (z : Nat → Int32) (f : Nat → FA) (F : Nat) : rnG call 243 (F + 6) 35 [some (vR 0), some (vI x1), some (vI x2), some (vI x3), some (vI x4)] [] (LR z f) = rnG call 243 F 41 [some (vR 0), some (vI x1), some (vI x2), some (vI x3), some (vI x4)] [vI x1, vI (x4 + 2), vR 7] (LR z f) := rfl
set_option maxRecDepth 100000 in
theorem b243_17 (call : QC FA) (x y : Int32) (ls : List (Option PV)) (z : Nat → Int32) (f : Nat → FA) (F : Nat) : rnG call 243 (F + 1) 41 ls [vI y, vI x, vR 7] (LR z f) = bif (Nat.beq 0 0 && pin x 750) then rnG call 243 F 42 ls [] (LR z (uA f 7 (upd (f 7) (ix x) y))) else none := rfl
set_option maxRecDepth 100000 in
theorem b243_18 (call : QC FA) (x1 : Int32) (x2 : Int32) (x3 : Int32) (x4 : Int32) (z : Nat → Int32) (f : Nat → FA) (F : Nat) : rnG call 243 (F + 6) 42 [some (vR 0), some (vI x1), some (vI x2), some (vI x3), some (vI x4)] [] (LR z f) = rnG call 243 F 48 [some (vR 0), some (vI x1), some (vI x2), some (vI x3), some (vI x4)] [vI x2, vI (x4 + 3), vR 7] (LR z f) := rfl
set_option maxRecDepth 100000 in
theorem b243_19 (call : QC FA) (x y : Int32) (ls : List (Option PV)) (z : Nat → Int32) (f : Nat → FA) (F : Nat) : rnG call 243 (F + 1) 48 ls [vI y, vI x, vR 7] (LR z f) = bif (Nat.beq 0 0 && pin x 750) then rnG call 243 F 49 ls [] (LR z (uA f 7 (upd (f 7) (ix x) y))) else none := rfl
set_option maxRecDepth 100000 in
theorem b243_20 (call : QC FA) (x1 : Int32) (x2 : Int32) (x3 : Int32) (x4 : Int32) (z : Nat → Int32) (f : Nat → FA) (F : Nat) : rnG call 243 (F + 6) 49 [some (vR 0), some (vI x1), some (vI x2), some (vI x3), some (vI x4)] [] (LR z f) = rnG call 243 F 55 [some (vR 0), some (vI x1), some (vI x2), some (vI x3), some (vI x4)] [vI x3, vI (x4 + 4), vR 7] (LR z f) := rfl
set_option maxRecDepth 100000 in
theorem b243_21 (call : QC FA) (x y : Int32) (ls : List (Option PV)) (z : Nat → Int32) (f : Nat → FA) (F : Nat) : rnG call 243 (F + 1) 55 ls [vI y, vI x, vR 7] (LR z f) = bif (Nat.beq 0 0 && pin x 750) then rnG call 243 F 56 ls [] (LR z (uA f 7 (upd (f 7) (ix x) y))) else none := rfl
set_option maxRecDepth 100000 in
theorem b243_22 (call : QC FA) (x1 : Int32) (x2 : Int32) (x3 : Int32) (x4 : Int32) (z : Nat → Int32) (f : Nat → FA) (F : Nat) : rnG call 243 (F + 6) 56 [some (vR 0), some (vI x1), some (vI x2), some (vI x3), some (vI x4)] [] (LR z f) = rnG call 243 F 62 [some (vR 0), some (vI x1), some (vI x2), some (vI x3), some (vI x4)] [vI 3, vR 1, vI 3, vR 1] (LR z f) := rfl
set_option maxRecDepth 100000 in
theorem b243_23 (call : QC FA) (x : Int32) (s0 : Int32) (ls : List (Option PV)) (z : Nat → Int32) (f : Nat → FA) (F : Nat) : rnG call 243 (F + 1) 62 ls [vI x, vR 1, vI s0, vR 1] (LR z f) = bif (Nat.beq 0 0 && pin x 499) then rnG call 243 F 63 ls [vI (f 1 (ix x)), vI s0, vR 1] (LR z f) else none := rfl
set_option maxRecDepth 100000 in
theorem b243_24 (call : QC FA) (x1 : Int32) (x2 : Int32) (x3 : Int32) (x4 : Int32) (s0 : Int32) (s1 : Int32) (L : QH FA) (F : Nat) : rnG call 243 (F + 2) 63 [some (vR 0), some (vI x1), some (vI x2), some (vI x3), some (vI x4)] [vI s0, vI s1, vR 1] L = rnG call 243 F 65 [some (vR 0), some (vI x1), some (vI x2), some (vI x3), some (vI x4)] [vI (s0 + 1), vI s1, vR 1] L := rfl
set_option maxRecDepth 100000 in
theorem b243_25 (call : QC FA) (x y : Int32) (ls : List (Option PV)) (z : Nat → Int32) (f : Nat → FA) (F : Nat) : rnG call 243 (F + 1) 65 ls [vI y, vI x, vR 1] (LR z f) = bif (Nat.beq 0 0 && pin x 499) then rnG call 243 F 66 ls [] (LR z (uA f 1 (upd (f 1) (ix x) y))) else none := rfl
set_option maxRecDepth 100000 in
theorem b243_26 (call : QC FA) (ls : List (Option PV)) (L : QH FA) (F : Nat) : rnG call 243 (F + 1) 66 ls [] L = some (none, L) := rfl
theorem vc243_0 (call : QC FA) (x1 : Int32) (x2 : Int32) (x3 : Int32) (o4 : Option PV) (z : Nat → Int32) (f : Nat → FA) (res : Option PV × QH FA) (H : ((¬ z 5 = 0 → res = (none, LR z f)) ∧ (z 5 = 0 → (pin 3 499 = true ∧ ((¬ f 1 (ix 3) = 150 → (pin 3 499 = true ∧ (pin 0 499 = true ∧ (pin (5 * (f 1 (ix 3))) 750 = true ∧ (pin 1 499 = true ∧ (pin ((5 * (f 1 (ix 3))) + 1) 750 = true ∧ (pin ((5 * (f 1 (ix 3))) + 2) 750 = true ∧ (pin ((5 * (f 1 (ix 3))) + 3) 750 = true ∧ (pin ((5 * (f 1 (ix 3))) + 4) 750 = true ∧ (pin 3 499 = true ∧ (pin 3 499 = true ∧ res = (none, LR z (uA (uA (uA (uA (uA (uA f 7 (upd (f 7) (ix (5 * (f 1 (ix 3)))) (f 1 (ix 0)))) 7 (upd (upd (f 7) (ix (5 * (f 1 (ix 3)))) (f 1 (ix 0))) (ix ((5 * (f 1 (ix 3))) + 1)) (f 1 (ix 1)))) 7 (upd (upd (upd (f 7) (ix (5 * (f 1 (ix 3)))) (f 1 (ix 0))) (ix ((5 * (f 1 (ix 3))) + 1)) (f 1 (ix 1))) (ix ((5 * (f 1 (ix 3))) + 2)) x1)) 7 (upd (upd (upd (upd (f 7) (ix (5 * (f 1 (ix 3)))) (f 1 (ix 0))) (ix ((5 * (f 1 (ix 3))) + 1)) (f 1 (ix 1))) (ix ((5 * (f 1 (ix 3))) + 2)) x1) (ix ((5 * (f 1 (ix 3))) + 3)) x2)) 7 (upd (upd (upd (upd (upd (f 7) (ix (5 * (f 1 (ix 3)))) (f 1 (ix 0))) (ix ((5 * (f 1 (ix 3))) + 1)) (f 1 (ix 1))) (ix ((5 * (f 1 (ix 3))) + 2)) x1) (ix ((5 * (f 1 (ix 3))) + 3)) x2) (ix ((5 * (f 1 (ix 3))) + 4)) x3)) 1 (upd (f 1) (ix 3) ((f 1 (ix 3)) + 1))))))))))))))) ∧ (f 1 (ix 3) = 150 → res = (none, LR z f))))))) : RC call (mP 243) 0 [some (vR 0), some (vI x1), some (vI x2), some (vI x3), o4] [] (LR z f) res := by
  refine rc_b (i' := 2) (ls' := [some (vR 0), some (vI x1), some (vI x2), some (vI x3), o4]) (st' := [vI (z 5)]) (L' := LR z f) 2 (b243_1 call x1 x2 x3 o4 z f) ?_
  refine rc_if (it := 9) (ie := 3) (ls' := [some (vR 0), some (vI x1), some (vI x2), some (vI x3), o4]) (st' := []) (b243_2 call (z 5) _ _) (fun q1 => ?_) (fun q1 => ?_)
  · have H := H.1 (cI1t q1)
    subst H
    exact rc_ret (b243_3 call _ _)
  · have H := H.2 (cI1f q1)
    refine rc_b (i' := 6) (ls' := [some (vR 0), some (vI x1), some (vI x2), some (vI x3), o4]) (st' := [vI 3, vR 1]) (L' := LR z f) 3 (b243_4 call x1 x2 x3 o4 z f) ?_
    obtain ⟨g1, H⟩ := H
    refine rc_g (i' := 7) (ls' := [some (vR 0), some (vI x1), some (vI x2), some (vI x3), o4]) (st' := [vI (f 1 (ix 3))]) (L' := LR z f) (b243_5 call 3 _ z f) (pinG g1) ?_
    refine rc_b (i' := 8) (ls' := [some (vR 0), some (vI x1), some (vI x2), some (vI x3), o4]) (st' := [vI 150, vI (f 1 (ix 3))]) (L' := LR z f) 1 (b243_6 call x1 x2 x3 o4 (f 1 (ix 3)) _) ?_
    refine rc_if (it := 10) (ie := 9) (ls' := [some (vR 0), some (vI x1), some (vI x2), some (vI x3), o4]) (st' := []) (b243_7 call (f 1 (ix 3)) 150 _ _) (fun q2 => ?_) (fun q2 => ?_)
    · have H := H.1 (cI1t q2)
      refine rc_b (i' := 14) (ls' := [some (vR 0), some (vI x1), some (vI x2), some (vI x3), o4]) (st' := [vI 3, vR 1, vI 5]) (L' := LR z f) 4 (b243_8 call x1 x2 x3 o4 z f) ?_
      obtain ⟨g1, H⟩ := H
      refine rc_g (i' := 15) (ls' := [some (vR 0), some (vI x1), some (vI x2), some (vI x3), o4]) (st' := [vI (f 1 (ix 3)), vI 5]) (L' := LR z f) (b243_9 call 3 5 _ z f) (pinG g1) ?_
      refine rc_b (i' := 23) (ls' := [some (vR 0), some (vI x1), some (vI x2), some (vI x3), some (vI (5 * (f 1 (ix 3))))]) (st' := [vI 0, vR 1, vI (5 * (f 1 (ix 3))), vR 7]) (L' := LR z f) 8 (b243_10 call x1 x2 x3 o4 (f 1 (ix 3)) 5 z f) ?_
      obtain ⟨g1, H⟩ := H
      refine rc_g (i' := 24) (ls' := [some (vR 0), some (vI x1), some (vI x2), some (vI x3), some (vI (5 * (f 1 (ix 3))))]) (st' := [vI (f 1 (ix 0)), vI (5 * (f 1 (ix 3))), vR 7]) (L' := LR z f) (b243_11 call 0 (5 * (f 1 (ix 3))) _ z f) (pinG g1) ?_
      obtain ⟨g1, H⟩ := H
      refine rc_g (i' := 25) (ls' := [some (vR 0), some (vI x1), some (vI x2), some (vI x3), some (vI (5 * (f 1 (ix 3))))]) (st' := []) (L' := LR z (uA f 7 (upd (f 7) (ix (5 * (f 1 (ix 3)))) (f 1 (ix 0))))) (b243_12 call (5 * (f 1 (ix 3))) (f 1 (ix 0)) _ z f) (pinG g1) ?_
      refine rc_b (i' := 33) (ls' := [some (vR 0), some (vI x1), some (vI x2), some (vI x3), some (vI (5 * (f 1 (ix 3))))]) (st' := [vI 1, vR 1, vI ((5 * (f 1 (ix 3))) + 1), vR 7]) (L' := LR z (uA f 7 (upd (f 7) (ix (5 * (f 1 (ix 3)))) (f 1 (ix 0))))) 8 (b243_13 call x1 x2 x3 (5 * (f 1 (ix 3))) z (uA f 7 (upd (f 7) (ix (5 * (f 1 (ix 3)))) (f 1 (ix 0))))) ?_
      obtain ⟨g1, H⟩ := H
      refine rc_g (i' := 34) (ls' := [some (vR 0), some (vI x1), some (vI x2), some (vI x3), some (vI (5 * (f 1 (ix 3))))]) (st' := [vI (f 1 (ix 1)), vI ((5 * (f 1 (ix 3))) + 1), vR 7]) (L' := LR z (uA f 7 (upd (f 7) (ix (5 * (f 1 (ix 3)))) (f 1 (ix 0))))) (b243_14 call 1 ((5 * (f 1 (ix 3))) + 1) _ z (uA f 7 (upd (f 7) (ix (5 * (f 1 (ix 3)))) (f 1 (ix 0))))) (pinG g1) ?_
      obtain ⟨g1, H⟩ := H
      refine rc_g (i' := 35) (ls' := [some (vR 0), some (vI x1), some (vI x2), some (vI x3), some (vI (5 * (f 1 (ix 3))))]) (st' := []) (L' := LR z (uA (uA f 7 (upd (f 7) (ix (5 * (f 1 (ix 3)))) (f 1 (ix 0)))) 7 (upd (upd (f 7) (ix (5 * (f 1 (ix 3)))) (f 1 (ix 0))) (ix ((5 * (f 1 (ix 3))) + 1)) (f 1 (ix 1))))) (b243_15 call ((5 * (f 1 (ix 3))) + 1) (f 1 (ix 1)) _ z (uA f 7 (upd (f 7) (ix (5 * (f 1 (ix 3)))) (f 1 (ix 0))))) (pinG g1) ?_
      refine rc_b (i' := 41) (ls' := [some (vR 0), some (vI x1), some (vI x2), some (vI x3), some (vI (5 * (f 1 (ix 3))))]) (st' := [vI x1, vI ((5 * (f 1 (ix 3))) + 2), vR 7]) (L' := LR z (uA (uA f 7 (upd (f 7) (ix (5 * (f 1 (ix 3)))) (f 1 (ix 0)))) 7 (upd (upd (f 7) (ix (5 * (f 1 (ix 3)))) (f 1 (ix 0))) (ix ((5 * (f 1 (ix 3))) + 1)) (f 1 (ix 1))))) 6 (b243_16 call x1 x2 x3 (5 * (f 1 (ix 3))) z (uA (uA f 7 (upd (f 7) (ix (5 * (f 1 (ix 3)))) (f 1 (ix 0)))) 7 (upd (upd (f 7) (ix (5 * (f 1 (ix 3)))) (f 1 (ix 0))) (ix ((5 * (f 1 (ix 3))) + 1)) (f 1 (ix 1))))) ?_
      obtain ⟨g1, H⟩ := H
      refine rc_g (i' := 42) (ls' := [some (vR 0), some (vI x1), some (vI x2), some (vI x3), some (vI (5 * (f 1 (ix 3))))]) (st' := []) (L' := LR z (uA (uA (uA f 7 (upd (f 7) (ix (5 * (f 1 (ix 3)))) (f 1 (ix 0)))) 7 (upd (upd (f 7) (ix (5 * (f 1 (ix 3)))) (f 1 (ix 0))) (ix ((5 * (f 1 (ix 3))) + 1)) (f 1 (ix 1)))) 7 (upd (upd (upd (f 7) (ix (5 * (f 1 (ix 3)))) (f 1 (ix 0))) (ix ((5 * (f 1 (ix 3))) + 1)) (f 1 (ix 1))) (ix ((5 * (f 1 (ix 3))) + 2)) x1))) (b243_17 call ((5 * (f 1 (ix 3))) + 2) x1 _ z (uA (uA f 7 (upd (f 7) (ix (5 * (f 1 (ix 3)))) (f 1 (ix 0)))) 7 (upd (upd (f 7) (ix (5 * (f 1 (ix 3)))) (f 1 (ix 0))) (ix ((5 * (f 1 (ix 3))) + 1)) (f 1 (ix 1))))) (pinG g1) ?_
      refine rc_b (i' := 48) (ls' := [some (vR 0), some (vI x1), some (vI x2), some (vI x3), some (vI (5 * (f 1 (ix 3))))]) (st' := [vI x2, vI ((5 * (f 1 (ix 3))) + 3), vR 7]) (L' := LR z (uA (uA (uA f 7 (upd (f 7) (ix (5 * (f 1 (ix 3)))) (f 1 (ix 0)))) 7 (upd (upd (f 7) (ix (5 * (f 1 (ix 3)))) (f 1 (ix 0))) (ix ((5 * (f 1 (ix 3))) + 1)) (f 1 (ix 1)))) 7 (upd (upd (upd (f 7) (ix (5 * (f 1 (ix 3)))) (f 1 (ix 0))) (ix ((5 * (f 1 (ix 3))) + 1)) (f 1 (ix 1))) (ix ((5 * (f 1 (ix 3))) + 2)) x1))) 6 (b243_18 call x1 x2 x3 (5 * (f 1 (ix 3))) z (uA (uA (uA f 7 (upd (f 7) (ix (5 * (f 1 (ix 3)))) (f 1 (ix 0)))) 7 (upd (upd (f 7) (ix (5 * (f 1 (ix 3)))) (f 1 (ix 0))) (ix ((5 * (f 1 (ix 3))) + 1)) (f 1 (ix 1)))) 7 (upd (upd (upd (f 7) (ix (5 * (f 1 (ix 3)))) (f 1 (ix 0))) (ix ((5 * (f 1 (ix 3))) + 1)) (f 1 (ix 1))) (ix ((5 * (f 1 (ix 3))) + 2)) x1))) ?_
      obtain ⟨g1, H⟩ := H
      refine rc_g (i' := 49) (ls' := [some (vR 0), some (vI x1), some (vI x2), some (vI x3), some (vI (5 * (f 1 (ix 3))))]) (st' := []) (L' := LR z (uA (uA (uA (uA f 7 (upd (f 7) (ix (5 * (f 1 (ix 3)))) (f 1 (ix 0)))) 7 (upd (upd (f 7) (ix (5 * (f 1 (ix 3)))) (f 1 (ix 0))) (ix ((5 * (f 1 (ix 3))) + 1)) (f 1 (ix 1)))) 7 (upd (upd (upd (f 7) (ix (5 * (f 1 (ix 3)))) (f 1 (ix 0))) (ix ((5 * (f 1 (ix 3))) + 1)) (f 1 (ix 1))) (ix ((5 * (f 1 (ix 3))) + 2)) x1)) 7 (upd (upd (upd (upd (f 7) (ix (5 * (f 1 (ix 3)))) (f 1 (ix 0))) (ix ((5 * (f 1 (ix 3))) + 1)) (f 1 (ix 1))) (ix ((5 * (f 1 (ix 3))) + 2)) x1) (ix ((5 * (f 1 (ix 3))) + 3)) x2))) (b243_19 call ((5 * (f 1 (ix 3))) + 3) x2 _ z (uA (uA (uA f 7 (upd (f 7) (ix (5 * (f 1 (ix 3)))) (f 1 (ix 0)))) 7 (upd (upd (f 7) (ix (5 * (f 1 (ix 3)))) (f 1 (ix 0))) (ix ((5 * (f 1 (ix 3))) + 1)) (f 1 (ix 1)))) 7 (upd (upd (upd (f 7) (ix (5 * (f 1 (ix 3)))) (f 1 (ix 0))) (ix ((5 * (f 1 (ix 3))) + 1)) (f 1 (ix 1))) (ix ((5 * (f 1 (ix 3))) + 2)) x1))) (pinG g1) ?_
      refine rc_b (i' := 55) (ls' := [some (vR 0), some (vI x1), some (vI x2), some (vI x3), some (vI (5 * (f 1 (ix 3))))]) (st' := [vI x3, vI ((5 * (f 1 (ix 3))) + 4), vR 7]) (L' := LR z (uA (uA (uA (uA f 7 (upd (f 7) (ix (5 * (f 1 (ix 3)))) (f 1 (ix 0)))) 7 (upd (upd (f 7) (ix (5 * (f 1 (ix 3)))) (f 1 (ix 0))) (ix ((5 * (f 1 (ix 3))) + 1)) (f 1 (ix 1)))) 7 (upd (upd (upd (f 7) (ix (5 * (f 1 (ix 3)))) (f 1 (ix 0))) (ix ((5 * (f 1 (ix 3))) + 1)) (f 1 (ix 1))) (ix ((5 * (f 1 (ix 3))) + 2)) x1)) 7 (upd (upd (upd (upd (f 7) (ix (5 * (f 1 (ix 3)))) (f 1 (ix 0))) (ix ((5 * (f 1 (ix 3))) + 1)) (f 1 (ix 1))) (ix ((5 * (f 1 (ix 3))) + 2)) x1) (ix ((5 * (f 1 (ix 3))) + 3)) x2))) 6 (b243_20 call x1 x2 x3 (5 * (f 1 (ix 3))) z (uA (uA (uA (uA f 7 (upd (f 7) (ix (5 * (f 1 (ix 3)))) (f 1 (ix 0)))) 7 (upd (upd (f 7) (ix (5 * (f 1 (ix 3)))) (f 1 (ix 0))) (ix ((5 * (f 1 (ix 3))) + 1)) (f 1 (ix 1)))) 7 (upd (upd (upd (f 7) (ix (5 * (f 1 (ix 3)))) (f 1 (ix 0))) (ix ((5 * (f 1 (ix 3))) + 1)) (f 1 (ix 1))) (ix ((5 * (f 1 (ix 3))) + 2)) x1)) 7 (upd (upd (upd (upd (f 7) (ix (5 * (f 1 (ix 3)))) (f 1 (ix 0))) (ix ((5 * (f 1 (ix 3))) + 1)) (f 1 (ix 1))) (ix ((5 * (f 1 (ix 3))) + 2)) x1) (ix ((5 * (f 1 (ix 3))) + 3)) x2))) ?_
      obtain ⟨g1, H⟩ := H
      refine rc_g (i' := 56) (ls' := [some (vR 0), some (vI x1), some (vI x2), some (vI x3), some (vI (5 * (f 1 (ix 3))))]) (st' := []) (L' := LR z (uA (uA (uA (uA (uA f 7 (upd (f 7) (ix (5 * (f 1 (ix 3)))) (f 1 (ix 0)))) 7 (upd (upd (f 7) (ix (5 * (f 1 (ix 3)))) (f 1 (ix 0))) (ix ((5 * (f 1 (ix 3))) + 1)) (f 1 (ix 1)))) 7 (upd (upd (upd (f 7) (ix (5 * (f 1 (ix 3)))) (f 1 (ix 0))) (ix ((5 * (f 1 (ix 3))) + 1)) (f 1 (ix 1))) (ix ((5 * (f 1 (ix 3))) + 2)) x1)) 7 (upd (upd (upd (upd (f 7) (ix (5 * (f 1 (ix 3)))) (f 1 (ix 0))) (ix ((5 * (f 1 (ix 3))) + 1)) (f 1 (ix 1))) (ix ((5 * (f 1 (ix 3))) + 2)) x1) (ix ((5 * (f 1 (ix 3))) + 3)) x2)) 7 (upd (upd (upd (upd (upd (f 7) (ix (5 * (f 1 (ix 3)))) (f 1 (ix 0))) (ix ((5 * (f 1 (ix 3))) + 1)) (f 1 (ix 1))) (ix ((5 * (f 1 (ix 3))) + 2)) x1) (ix ((5 * (f 1 (ix 3))) + 3)) x2) (ix ((5 * (f 1 (ix 3))) + 4)) x3))) (b243_21 call ((5 * (f 1 (ix 3))) + 4) x3 _ z (uA (uA (uA (uA f 7 (upd (f 7) (ix (5 * (f 1 (ix 3)))) (f 1 (ix 0)))) 7 (upd (upd (f 7) (ix (5 * (f 1 (ix 3)))) (f 1 (ix 0))) (ix ((5 * (f 1 (ix 3))) + 1)) (f 1 (ix 1)))) 7 (upd (upd (upd (f 7) (ix (5 * (f 1 (ix 3)))) (f 1 (ix 0))) (ix ((5 * (f 1 (ix 3))) + 1)) (f 1 (ix 1))) (ix ((5 * (f 1 (ix 3))) + 2)) x1)) 7 (upd (upd (upd (upd (f 7) (ix (5 * (f 1 (ix 3)))) (f 1 (ix 0))) (ix ((5 * (f 1 (ix 3))) + 1)) (f 1 (ix 1))) (ix ((5 * (f 1 (ix 3))) + 2)) x1) (ix ((5 * (f 1 (ix 3))) + 3)) x2))) (pinG g1) ?_
      refine rc_b (i' := 62) (ls' := [some (vR 0), some (vI x1), some (vI x2), some (vI x3), some (vI (5 * (f 1 (ix 3))))]) (st' := [vI 3, vR 1, vI 3, vR 1]) (L' := LR z (uA (uA (uA (uA (uA f 7 (upd (f 7) (ix (5 * (f 1 (ix 3)))) (f 1 (ix 0)))) 7 (upd (upd (f 7) (ix (5 * (f 1 (ix 3)))) (f 1 (ix 0))) (ix ((5 * (f 1 (ix 3))) + 1)) (f 1 (ix 1)))) 7 (upd (upd (upd (f 7) (ix (5 * (f 1 (ix 3)))) (f 1 (ix 0))) (ix ((5 * (f 1 (ix 3))) + 1)) (f 1 (ix 1))) (ix ((5 * (f 1 (ix 3))) + 2)) x1)) 7 (upd (upd (upd (upd (f 7) (ix (5 * (f 1 (ix 3)))) (f 1 (ix 0))) (ix ((5 * (f 1 (ix 3))) + 1)) (f 1 (ix 1))) (ix ((5 * (f 1 (ix 3))) + 2)) x1) (ix ((5 * (f 1 (ix 3))) + 3)) x2)) 7 (upd (upd (upd (upd (upd (f 7) (ix (5 * (f 1 (ix 3)))) (f 1 (ix 0))) (ix ((5 * (f 1 (ix 3))) + 1)) (f 1 (ix 1))) (ix ((5 * (f 1 (ix 3))) + 2)) x1) (ix ((5 * (f 1 (ix 3))) + 3)) x2) (ix ((5 * (f 1 (ix 3))) + 4)) x3))) 6 (b243_22 call x1 x2 x3 (5 * (f 1 (ix 3))) z (uA (uA (uA (uA (uA f 7 (upd (f 7) (ix (5 * (f 1 (ix 3)))) (f 1 (ix 0)))) 7 (upd (upd (f 7) (ix (5 * (f 1 (ix 3)))) (f 1 (ix 0))) (ix ((5 * (f 1 (ix 3))) + 1)) (f 1 (ix 1)))) 7 (upd (upd (upd (f 7) (ix (5 * (f 1 (ix 3)))) (f 1 (ix 0))) (ix ((5 * (f 1 (ix 3))) + 1)) (f 1 (ix 1))) (ix ((5 * (f 1 (ix 3))) + 2)) x1)) 7 (upd (upd (upd (upd (f 7) (ix (5 * (f 1 (ix 3)))) (f 1 (ix 0))) (ix ((5 * (f 1 (ix 3))) + 1)) (f 1 (ix 1))) (ix ((5 * (f 1 (ix 3))) + 2)) x1) (ix ((5 * (f 1 (ix 3))) + 3)) x2)) 7 (upd (upd (upd (upd (upd (f 7) (ix (5 * (f 1 (ix 3)))) (f 1 (ix 0))) (ix ((5 * (f 1 (ix 3))) + 1)) (f 1 (ix 1))) (ix ((5 * (f 1 (ix 3))) + 2)) x1) (ix ((5 * (f 1 (ix 3))) + 3)) x2) (ix ((5 * (f 1 (ix 3))) + 4)) x3))) ?_
      obtain ⟨g1, H⟩ := H
      refine rc_g (i' := 63) (ls' := [some (vR 0), some (vI x1), some (vI x2), some (vI x3), some (vI (5 * (f 1 (ix 3))))]) (st' := [vI (f 1 (ix 3)), vI 3, vR 1]) (L' := LR z (uA (uA (uA (uA (uA f 7 (upd (f 7) (ix (5 * (f 1 (ix 3)))) (f 1 (ix 0)))) 7 (upd (upd (f 7) (ix (5 * (f 1 (ix 3)))) (f 1 (ix 0))) (ix ((5 * (f 1 (ix 3))) + 1)) (f 1 (ix 1)))) 7 (upd (upd (upd (f 7) (ix (5 * (f 1 (ix 3)))) (f 1 (ix 0))) (ix ((5 * (f 1 (ix 3))) + 1)) (f 1 (ix 1))) (ix ((5 * (f 1 (ix 3))) + 2)) x1)) 7 (upd (upd (upd (upd (f 7) (ix (5 * (f 1 (ix 3)))) (f 1 (ix 0))) (ix ((5 * (f 1 (ix 3))) + 1)) (f 1 (ix 1))) (ix ((5 * (f 1 (ix 3))) + 2)) x1) (ix ((5 * (f 1 (ix 3))) + 3)) x2)) 7 (upd (upd (upd (upd (upd (f 7) (ix (5 * (f 1 (ix 3)))) (f 1 (ix 0))) (ix ((5 * (f 1 (ix 3))) + 1)) (f 1 (ix 1))) (ix ((5 * (f 1 (ix 3))) + 2)) x1) (ix ((5 * (f 1 (ix 3))) + 3)) x2) (ix ((5 * (f 1 (ix 3))) + 4)) x3))) (b243_23 call 3 3 _ z (uA (uA (uA (uA (uA f 7 (upd (f 7) (ix (5 * (f 1 (ix 3)))) (f 1 (ix 0)))) 7 (upd (upd (f 7) (ix (5 * (f 1 (ix 3)))) (f 1 (ix 0))) (ix ((5 * (f 1 (ix 3))) + 1)) (f 1 (ix 1)))) 7 (upd (upd (upd (f 7) (ix (5 * (f 1 (ix 3)))) (f 1 (ix 0))) (ix ((5 * (f 1 (ix 3))) + 1)) (f 1 (ix 1))) (ix ((5 * (f 1 (ix 3))) + 2)) x1)) 7 (upd (upd (upd (upd (f 7) (ix (5 * (f 1 (ix 3)))) (f 1 (ix 0))) (ix ((5 * (f 1 (ix 3))) + 1)) (f 1 (ix 1))) (ix ((5 * (f 1 (ix 3))) + 2)) x1) (ix ((5 * (f 1 (ix 3))) + 3)) x2)) 7 (upd (upd (upd (upd (upd (f 7) (ix (5 * (f 1 (ix 3)))) (f 1 (ix 0))) (ix ((5 * (f 1 (ix 3))) + 1)) (f 1 (ix 1))) (ix ((5 * (f 1 (ix 3))) + 2)) x1) (ix ((5 * (f 1 (ix 3))) + 3)) x2) (ix ((5 * (f 1 (ix 3))) + 4)) x3))) (pinG g1) ?_
      refine rc_b (i' := 65) (ls' := [some (vR 0), some (vI x1), some (vI x2), some (vI x3), some (vI (5 * (f 1 (ix 3))))]) (st' := [vI ((f 1 (ix 3)) + 1), vI 3, vR 1]) (L' := LR z (uA (uA (uA (uA (uA f 7 (upd (f 7) (ix (5 * (f 1 (ix 3)))) (f 1 (ix 0)))) 7 (upd (upd (f 7) (ix (5 * (f 1 (ix 3)))) (f 1 (ix 0))) (ix ((5 * (f 1 (ix 3))) + 1)) (f 1 (ix 1)))) 7 (upd (upd (upd (f 7) (ix (5 * (f 1 (ix 3)))) (f 1 (ix 0))) (ix ((5 * (f 1 (ix 3))) + 1)) (f 1 (ix 1))) (ix ((5 * (f 1 (ix 3))) + 2)) x1)) 7 (upd (upd (upd (upd (f 7) (ix (5 * (f 1 (ix 3)))) (f 1 (ix 0))) (ix ((5 * (f 1 (ix 3))) + 1)) (f 1 (ix 1))) (ix ((5 * (f 1 (ix 3))) + 2)) x1) (ix ((5 * (f 1 (ix 3))) + 3)) x2)) 7 (upd (upd (upd (upd (upd (f 7) (ix (5 * (f 1 (ix 3)))) (f 1 (ix 0))) (ix ((5 * (f 1 (ix 3))) + 1)) (f 1 (ix 1))) (ix ((5 * (f 1 (ix 3))) + 2)) x1) (ix ((5 * (f 1 (ix 3))) + 3)) x2) (ix ((5 * (f 1 (ix 3))) + 4)) x3))) 2 (b243_24 call x1 x2 x3 (5 * (f 1 (ix 3))) (f 1 (ix 3)) 3 _) ?_
      obtain ⟨g1, H⟩ := H
      refine rc_g (i' := 66) (ls' := [some (vR 0), some (vI x1), some (vI x2), some (vI x3), some (vI (5 * (f 1 (ix 3))))]) (st' := []) (L' := LR z (uA (uA (uA (uA (uA (uA f 7 (upd (f 7) (ix (5 * (f 1 (ix 3)))) (f 1 (ix 0)))) 7 (upd (upd (f 7) (ix (5 * (f 1 (ix 3)))) (f 1 (ix 0))) (ix ((5 * (f 1 (ix 3))) + 1)) (f 1 (ix 1)))) 7 (upd (upd (upd (f 7) (ix (5 * (f 1 (ix 3)))) (f 1 (ix 0))) (ix ((5 * (f 1 (ix 3))) + 1)) (f 1 (ix 1))) (ix ((5 * (f 1 (ix 3))) + 2)) x1)) 7 (upd (upd (upd (upd (f 7) (ix (5 * (f 1 (ix 3)))) (f 1 (ix 0))) (ix ((5 * (f 1 (ix 3))) + 1)) (f 1 (ix 1))) (ix ((5 * (f 1 (ix 3))) + 2)) x1) (ix ((5 * (f 1 (ix 3))) + 3)) x2)) 7 (upd (upd (upd (upd (upd (f 7) (ix (5 * (f 1 (ix 3)))) (f 1 (ix 0))) (ix ((5 * (f 1 (ix 3))) + 1)) (f 1 (ix 1))) (ix ((5 * (f 1 (ix 3))) + 2)) x1) (ix ((5 * (f 1 (ix 3))) + 3)) x2) (ix ((5 * (f 1 (ix 3))) + 4)) x3)) 1 (upd (f 1) (ix 3) ((f 1 (ix 3)) + 1)))) (b243_25 call 3 ((f 1 (ix 3)) + 1) _ z (uA (uA (uA (uA (uA f 7 (upd (f 7) (ix (5 * (f 1 (ix 3)))) (f 1 (ix 0)))) 7 (upd (upd (f 7) (ix (5 * (f 1 (ix 3)))) (f 1 (ix 0))) (ix ((5 * (f 1 (ix 3))) + 1)) (f 1 (ix 1)))) 7 (upd (upd (upd (f 7) (ix (5 * (f 1 (ix 3)))) (f 1 (ix 0))) (ix ((5 * (f 1 (ix 3))) + 1)) (f 1 (ix 1))) (ix ((5 * (f 1 (ix 3))) + 2)) x1)) 7 (upd (upd (upd (upd (f 7) (ix (5 * (f 1 (ix 3)))) (f 1 (ix 0))) (ix ((5 * (f 1 (ix 3))) + 1)) (f 1 (ix 1))) (ix ((5 * (f 1 (ix 3))) + 2)) x1) (ix ((5 * (f 1 (ix 3))) + 3)) x2)) 7 (upd (upd (upd (upd (upd (f 7) (ix (5 * (f 1 (ix 3)))) (f 1 (ix 0))) (ix ((5 * (f 1 (ix 3))) + 1)) (f 1 (ix 1))) (ix ((5 * (f 1 (ix 3))) + 2)) x1) (ix ((5 * (f 1 (ix 3))) + 3)) x2) (ix ((5 * (f 1 (ix 3))) + 4)) x3))) (pinG g1) ?_
      subst H
      exact rc_ret (b243_26 call _ _)
    · have H := H.2 (cI1f q2)
      subst H
      exact rc_ret (b243_3 call _ _)
set_option maxRecDepth 100000 in
theorem b220_1 (call : QC FA) (x1 : Int32) (z : Nat → Int32) (f : Nat → FA) (F : Nat) : rnG call 220 (F + 6) 0 [some (vR 0), some (vI x1)] [] (LR z f) = rnG call 220 F 6 [some (vR 0), some (vI x1)] [vI 0, vI (67 + x1), vR 1] (LR z f) := rfl
set_option maxRecDepth 100000 in
theorem b220_2 (call : QC FA) (x y : Int32) (ls : List (Option PV)) (z : Nat → Int32) (f : Nat → FA) (F : Nat) : rnG call 220 (F + 1) 6 ls [vI y, vI x, vR 1] (LR z f) = bif (Nat.beq 0 0 && pin x 499) then rnG call 220 F 7 ls [] (LR z (uA f 1 (upd (f 1) (ix x) y))) else none := rfl
set_option maxRecDepth 100000 in
theorem b220_3 (call : QC FA) (x1 : Int32) (z : Nat → Int32) (f : Nat → FA) (F : Nat) : rnG call 220 (F + 6) 7 [some (vR 0), some (vI x1)] [] (LR z f) = rnG call 220 F 13 [some (vR 0), some (vI x1)] [vI 0, vI (211 + x1), vR 1] (LR z f) := rfl
set_option maxRecDepth 100000 in
theorem b220_4 (call : QC FA) (x y : Int32) (ls : List (Option PV)) (z : Nat → Int32) (f : Nat → FA) (F : Nat) : rnG call 220 (F + 1) 13 ls [vI y, vI x, vR 1] (LR z f) = bif (Nat.beq 0 0 && pin x 499) then rnG call 220 F 14 ls [] (LR z (uA f 1 (upd (f 1) (ix x) y))) else none := rfl
set_option maxRecDepth 100000 in
theorem b220_5 (call : QC FA) (x1 : Int32) (z : Nat → Int32) (f : Nat → FA) (F : Nat) : rnG call 220 (F + 6) 14 [some (vR 0), some (vI x1)] [] (LR z f) = rnG call 220 F 20 [some (vR 0), some (vI x1)] [vI 0, vI (355 + x1), vR 1] (LR z f) := rfl
set_option maxRecDepth 100000 in
theorem b220_6 (call : QC FA) (x y : Int32) (ls : List (Option PV)) (z : Nat → Int32) (f : Nat → FA) (F : Nat) : rnG call 220 (F + 1) 20 ls [vI y, vI x, vR 1] (LR z f) = bif (Nat.beq 0 0 && pin x 499) then rnG call 220 F 21 ls [] (LR z (uA f 1 (upd (f 1) (ix x) y))) else none := rfl
set_option maxRecDepth 100000 in
theorem b220_7 (call : QC FA) (ls : List (Option PV)) (L : QH FA) (F : Nat) : rnG call 220 (F + 1) 21 ls [] L = some (none, L) := rfl
theorem vc220_0 (call : QC FA) (x1 : Int32) (z : Nat → Int32) (f : Nat → FA) (res : Option PV × QH FA) (H : (pin (67 + x1) 499 = true ∧ (pin (211 + x1) 499 = true ∧ (pin (355 + x1) 499 = true ∧ res = (none, LR z (uA (uA (uA f 1 (upd (f 1) (ix (67 + x1)) 0)) 1 (upd (upd (f 1) (ix (67 + x1)) 0) (ix (211 + x1)) 0)) 1 (upd (upd (upd (f 1) (ix (67 + x1)) 0) (ix (211 + x1)) 0) (ix (355 + x1)) 0))))))) : RC call (mP 220) 0 [some (vR 0), some (vI x1)] [] (LR z f) res := by
  refine rc_b (i' := 6) (ls' := [some (vR 0), some (vI x1)]) (st' := [vI 0, vI (67 + x1), vR 1]) (L' := LR z f) 6 (b220_1 call x1 z f) ?_
  obtain ⟨g1, H⟩ := H
  refine rc_g (i' := 7) (ls' := [some (vR 0), some (vI x1)]) (st' := []) (L' := LR z (uA f 1 (upd (f 1) (ix (67 + x1)) 0))) (b220_2 call (67 + x1) 0 _ z f) (pinG g1) ?_
  refine rc_b (i' := 13) (ls' := [some (vR 0), some (vI x1)]) (st' := [vI 0, vI (211 + x1), vR 1]) (L' := LR z (uA f 1 (upd (f 1) (ix (67 + x1)) 0))) 6 (b220_3 call x1 z (uA f 1 (upd (f 1) (ix (67 + x1)) 0))) ?_
  obtain ⟨g1, H⟩ := H
  refine rc_g (i' := 14) (ls' := [some (vR 0), some (vI x1)]) (st' := []) (L' := LR z (uA (uA f 1 (upd (f 1) (ix (67 + x1)) 0)) 1 (upd (upd (f 1) (ix (67 + x1)) 0) (ix (211 + x1)) 0))) (b220_4 call (211 + x1) 0 _ z (uA f 1 (upd (f 1) (ix (67 + x1)) 0))) (pinG g1) ?_
  refine rc_b (i' := 20) (ls' := [some (vR 0), some (vI x1)]) (st' := [vI 0, vI (355 + x1), vR 1]) (L' := LR z (uA (uA f 1 (upd (f 1) (ix (67 + x1)) 0)) 1 (upd (upd (f 1) (ix (67 + x1)) 0) (ix (211 + x1)) 0))) 6 (b220_5 call x1 z (uA (uA f 1 (upd (f 1) (ix (67 + x1)) 0)) 1 (upd (upd (f 1) (ix (67 + x1)) 0) (ix (211 + x1)) 0))) ?_
  obtain ⟨g1, H⟩ := H
  refine rc_g (i' := 21) (ls' := [some (vR 0), some (vI x1)]) (st' := []) (L' := LR z (uA (uA (uA f 1 (upd (f 1) (ix (67 + x1)) 0)) 1 (upd (upd (f 1) (ix (67 + x1)) 0) (ix (211 + x1)) 0)) 1 (upd (upd (upd (f 1) (ix (67 + x1)) 0) (ix (211 + x1)) 0) (ix (355 + x1)) 0))) (b220_6 call (355 + x1) 0 _ z (uA (uA f 1 (upd (f 1) (ix (67 + x1)) 0)) 1 (upd (upd (f 1) (ix (67 + x1)) 0) (ix (211 + x1)) 0))) (pinG g1) ?_
  subst H
  exact rc_ret (b220_7 call _ _)
set_option maxRecDepth 100000 in
theorem b223_1 (call : QC FA) (x1 : Int32) (L : QH FA) (F : Nat) : rnG call 223 (F + 2) 0 [some (vR 0), some (vI x1)] [] L = rnG call 223 F 2 [some (vR 0), some (vI x1)] [vI x1, vR 0] L := rfl
set_option maxRecDepth 100000 in
theorem b223_2 (call : QC FA) (a0 : Int32) (ls : List (Option PV)) (z : Nat → Int32) (f : Nat → FA) (F : Nat) : rnG call 223 (F + 1) 2 ls [vI a0, vR 0] (LR z f) = cbd (call 49 [vR 0, vI a0] (LR z f)) (fun r L' => rnG call 223 F 3 ls (r.toList ++ []) L') := pcY (ih := rnG call 223 F) (call := call) (a := 49) (b := 1) (v := 12) (t := 3) (x := 0) (ls := ls) (As := [vI a0]) (st' := []) (L := LR z f) rfl rfl rfl
set_option maxRecDepth 100000 in
theorem b223_3 (call : QC FA) (x : Int32) (ls : List (Option PV)) (L : QH FA) (F : Nat) : rnG call 223 (F + 1) 3 ls [vI x] L = bif pcmp 1 x 0 then rnG call 223 F 5 ls [] L else rnG call 223 F 4 ls [] L := rfl
set_option maxRecDepth 100000 in
theorem b223_4 (call : QC FA) (x1 : Int32) (z : Nat → Int32) (f : Nat → FA) (F : Nat) : rnG call 223 (F + 7) 5 [some (vR 0), some (vI x1)] [] (LR z f) = rnG call 223 F 12 [some (vR 0), some (vI x1)] [vI (67 + x1), vR 1, vI 3, vR 0] (LR z f) := rfl
set_option maxRecDepth 100000 in
theorem b223_5 (call : QC FA) (x : Int32) (s0 : Int32) (ls : List (Option PV)) (z : Nat → Int32) (f : Nat → FA) (F : Nat) : rnG call 223 (F + 1) 12 ls [vI x, vR 1, vI s0, vR 0] (LR z f) = bif (Nat.beq 0 0 && pin x 499) then rnG call 223 F 13 ls [vI (f 1 (ix x)), vI s0, vR 0] (LR z f) else none := rfl
set_option maxRecDepth 100000 in
theorem b223_6 (call : QC FA) (x1 : Int32) (s0 : Int32) (s1 : Int32) (L : QH FA) (F : Nat) : rnG call 223 (F + 3) 13 [some (vR 0), some (vI x1)] [vI s0, vI s1, vR 0] L = rnG call 223 F 16 [some (vR 0), some (vI x1)] [vI x1, vI (s0 - 1), vI s1, vR 0] L := rfl
set_option maxRecDepth 100000 in
theorem b223_7 (call : QC FA) (a0 : Int32) (a1 : Int32) (a2 : Int32) (ls : List (Option PV)) (z : Nat → Int32) (f : Nat → FA) (F : Nat) : rnG call 223 (F + 1) 16 ls [vI a2, vI a1, vI a0, vR 0] (LR z f) = cbd (call 243 [vR 0, vI a0, vI a1, vI a2] (LR z f)) (fun r L' => rnG call 223 F 17 ls (r.toList ++ []) L') := pcY (ih := rnG call 223 F) (call := call) (a := 243) (b := 3) (v := 12) (t := 17) (x := 0) (ls := ls) (As := [vI a0, vI a1, vI a2]) (st' := []) (L := LR z f) rfl rfl rfl
set_option maxRecDepth 100000 in
theorem b223_8 (call : QC FA) (x1 : Int32) (L : QH FA) (F : Nat) : rnG call 223 (F + 2) 17 [some (vR 0), some (vI x1)] [] L = rnG call 223 F 19 [some (vR 0), some (vI x1)] [vI x1, vR 0] L := rfl
set_option maxRecDepth 100000 in
theorem b223_9 (call : QC FA) (a0 : Int32) (ls : List (Option PV)) (z : Nat → Int32) (f : Nat → FA) (F : Nat) : rnG call 223 (F + 1) 19 ls [vI a0, vR 0] (LR z f) = cbd (call 220 [vR 0, vI a0] (LR z f)) (fun r L' => rnG call 223 F 20 ls (r.toList ++ []) L') := pcY (ih := rnG call 223 F) (call := call) (a := 220) (b := 1) (v := 12) (t := 20) (x := 0) (ls := ls) (As := [vI a0]) (st' := []) (L := LR z f) rfl rfl rfl
set_option maxRecDepth 100000 in
theorem b223_10 (call : QC FA) (ls : List (Option PV)) (L : QH FA) (F : Nat) : rnG call 223 (F + 1) 20 ls [] L = some (none, L) := rfl
set_option maxRecDepth 100000 in
theorem b223_11 (call : QC FA) (ls : List (Option PV)) (L : QH FA) (F : Nat) : rnG call 223 (F + 1) 4 ls [] L = some (none, L) := rfl
theorem vc223_0 (d : Nat) (x1 : Int32) (z : Nat → Int32) (f : Nat → FA) (res : Option PV × QH FA) (H : (∃ (r1 : Int32) (z1 : Nat → Int32) (f1 : Nat → FA), (mcall (d + 1)) 49 [vR 0, vI x1] (LR z f) = some (some (vI r1), LR z1 f1) ∧ ((¬ r1 = 0 → (pin (67 + x1) 499 = true ∧ (∃ (z2 : Nat → Int32) (f2 : Nat → FA), (mcall (d + 1)) 243 [vR 0, vI 3, vI ((f1 1 (ix (67 + x1))) - 1), vI x1] (LR z1 f1) = some (none, LR z2 f2) ∧ (∃ (z3 : Nat → Int32) (f3 : Nat → FA), (mcall (d + 1)) 220 [vR 0, vI x1] (LR z2 f2) = some (none, LR z3 f3) ∧ res = (none, LR z3 f3))))) ∧ (r1 = 0 → res = (none, LR z1 f1))))) : RC (mcall (d + 1)) (mP 223) 0 [some (vR 0), some (vI x1)] [] (LR z f) res := by
  refine rc_b (i' := 2) (ls' := [some (vR 0), some (vI x1)]) (st' := [vI x1, vR 0]) (L' := LR z f) 2 (b223_1 (mcall (d + 1)) x1 _) ?_
  obtain ⟨r1, z1, f1, hc, H⟩ := H
  refine rc_call (t := 3) (ls' := [some (vR 0), some (vI x1)]) (st' := []) (b223_2 (mcall (d + 1)) x1 _ z f) hc ?_
  show RC (mcall (d + 1)) (mP 223) 3 [some (vR 0), some (vI x1)] [vI r1] (LR z1 f1) res
  refine rc_if (it := 5) (ie := 4) (ls' := [some (vR 0), some (vI x1)]) (st' := []) (b223_3 (mcall (d + 1)) r1 _ _) (fun q1 => ?_) (fun q1 => ?_)
  · have H := H.1 (cI1t q1)
    refine rc_b (i' := 12) (ls' := [some (vR 0), some (vI x1)]) (st' := [vI (67 + x1), vR 1, vI 3, vR 0]) (L' := LR z1 f1) 7 (b223_4 (mcall (d + 1)) x1 z1 f1) ?_
    obtain ⟨g1, H⟩ := H
    refine rc_g (i' := 13) (ls' := [some (vR 0), some (vI x1)]) (st' := [vI (f1 1 (ix (67 + x1))), vI 3, vR 0]) (L' := LR z1 f1) (b223_5 (mcall (d + 1)) (67 + x1) 3 _ z1 f1) (pinG g1) ?_
    refine rc_b (i' := 16) (ls' := [some (vR 0), some (vI x1)]) (st' := [vI x1, vI ((f1 1 (ix (67 + x1))) - 1), vI 3, vR 0]) (L' := LR z1 f1) 3 (b223_6 (mcall (d + 1)) x1 (f1 1 (ix (67 + x1))) 3 _) ?_
    obtain ⟨z2, f2, hc, H⟩ := H
    refine rc_call (t := 17) (ls' := [some (vR 0), some (vI x1)]) (st' := []) (b223_7 (mcall (d + 1)) 3 ((f1 1 (ix (67 + x1))) - 1) x1 _ z1 f1) hc ?_
    show RC (mcall (d + 1)) (mP 223) 17 [some (vR 0), some (vI x1)] [] (LR z2 f2) res
    refine rc_b (i' := 19) (ls' := [some (vR 0), some (vI x1)]) (st' := [vI x1, vR 0]) (L' := LR z2 f2) 2 (b223_8 (mcall (d + 1)) x1 _) ?_
    obtain ⟨z3, f3, hc, H⟩ := H
    refine rc_call (t := 20) (ls' := [some (vR 0), some (vI x1)]) (st' := []) (b223_9 (mcall (d + 1)) x1 _ z2 f2) hc ?_
    show RC (mcall (d + 1)) (mP 223) 20 [some (vR 0), some (vI x1)] [] (LR z3 f3) res
    subst H
    exact rc_ret (b223_10 (mcall (d + 1)) _ _)
  · have H := H.2 (cI1f q1)
    subst H
    exact rc_ret (b223_11 (mcall (d + 1)) _ _)
set_option maxRecDepth 100000 in
theorem b193_1 (call : QC FA) (x1 : Int32) (z : Nat → Int32) (f : Nat → FA) (F : Nat) : rnG call 193 (F + 5) 0 [some (vR 0), some (vI x1)] [] (LR z f) = rnG call 193 F 5 [some (vR 0), some (vI x1)] [vI (27 + x1), vR 1] (LR z f) := rfl
set_option maxRecDepth 100000 in
theorem b193_2 (call : QC FA) (x : Int32) (ls : List (Option PV)) (z : Nat → Int32) (f : Nat → FA) (F : Nat) : rnG call 193 (F + 1) 5 ls [vI x, vR 1] (LR z f) = bif (Nat.beq 0 0 && pin x 499) then rnG call 193 F 6 ls [vI (f 1 (ix x))] (LR z f) else none := rfl
set_option maxRecDepth 100000 in
theorem b193_3 (call : QC FA) (x : Int32) (ls : List (Option PV)) (L : QH FA) (F : Nat) : rnG call 193 (F + 1) 6 ls [vI x] L = bif pcmp 1 x 0 then rnG call 193 F 16 ls [] L else rnG call 193 F 7 ls [] L := rfl
set_option maxRecDepth 100000 in
theorem b193_4 (call : QC FA) (x1 : Int32) (L : QH FA) (F : Nat) : rnG call 193 (F + 1) 16 [some (vR 0), some (vI x1)] [] L = rnG call 193 F 17 [some (vR 0), some (vI x1)] [vI 0] L := rfl
set_option maxRecDepth 100000 in
theorem b193_5 (call : QC FA) (ls : List (Option PV)) (L : QH FA) (F : Nat) : rnG call 193 (F + 1) 17 ls [vI 0] L = some (some (vI 0), L) := rfl
set_option maxRecDepth 100000 in
theorem b193_6 (call : QC FA) (x1 : Int32) (z : Nat → Int32) (f : Nat → FA) (F : Nat) : rnG call 193 (F + 5) 7 [some (vR 0), some (vI x1)] [] (LR z f) = rnG call 193 F 12 [some (vR 0), some (vI x1)] [vI (7 + x1), vR 1] (LR z f) := rfl
set_option maxRecDepth 100000 in
theorem b193_7 (call : QC FA) (x : Int32) (ls : List (Option PV)) (z : Nat → Int32) (f : Nat → FA) (F : Nat) : rnG call 193 (F + 1) 12 ls [vI x, vR 1] (LR z f) = bif (Nat.beq 0 0 && pin x 499) then rnG call 193 F 13 ls [vI (f 1 (ix x))] (LR z f) else none := rfl
set_option maxRecDepth 100000 in
theorem b193_8 (call : QC FA) (x : Int32) (ls : List (Option PV)) (L : QH FA) (F : Nat) : rnG call 193 (F + 1) 13 ls [vI x] L = bif pcmp 0 x 0 then rnG call 193 F 16 ls [] L else rnG call 193 F 14 ls [] L := rfl
set_option maxRecDepth 100000 in
theorem b193_9 (call : QC FA) (x1 : Int32) (L : QH FA) (F : Nat) : rnG call 193 (F + 2) 14 [some (vR 0), some (vI x1)] [] L = rnG call 193 F 17 [some (vR 0), some (vI x1)] [vI 1] L := rfl
set_option maxRecDepth 100000 in
theorem b193_10 (call : QC FA) (ls : List (Option PV)) (L : QH FA) (F : Nat) : rnG call 193 (F + 1) 17 ls [vI 1] L = some (some (vI 1), L) := rfl
theorem vc193_0 (call : QC FA) (x1 : Int32) (z : Nat → Int32) (f : Nat → FA) (res : Option PV × QH FA) (H : (pin (27 + x1) 499 = true ∧ ((¬ f 1 (ix (27 + x1)) = 0 → res = (some (vI 0), LR z f)) ∧ (f 1 (ix (27 + x1)) = 0 → (pin (7 + x1) 499 = true ∧ ((f 1 (ix (7 + x1)) = 0 → res = (some (vI 0), LR z f)) ∧ (¬ f 1 (ix (7 + x1)) = 0 → res = (some (vI 1), LR z f)))))))) : RC call (mP 193) 0 [some (vR 0), some (vI x1)] [] (LR z f) res := by
  refine rc_b (i' := 5) (ls' := [some (vR 0), some (vI x1)]) (st' := [vI (27 + x1), vR 1]) (L' := LR z f) 5 (b193_1 call x1 z f) ?_
  obtain ⟨g1, H⟩ := H
  refine rc_g (i' := 6) (ls' := [some (vR 0), some (vI x1)]) (st' := [vI (f 1 (ix (27 + x1)))]) (L' := LR z f) (b193_2 call (27 + x1) _ z f) (pinG g1) ?_
  refine rc_if (it := 16) (ie := 7) (ls' := [some (vR 0), some (vI x1)]) (st' := []) (b193_3 call (f 1 (ix (27 + x1))) _ _) (fun q1 => ?_) (fun q1 => ?_)
  · have H := H.1 (cI1t q1)
    refine rc_b (i' := 17) (ls' := [some (vR 0), some (vI x1)]) (st' := [vI 0]) (L' := LR z f) 1 (b193_4 call x1 _) ?_
    subst H
    exact rc_ret (b193_5 call _ _)
  · have H := H.2 (cI1f q1)
    refine rc_b (i' := 12) (ls' := [some (vR 0), some (vI x1)]) (st' := [vI (7 + x1), vR 1]) (L' := LR z f) 5 (b193_6 call x1 z f) ?_
    obtain ⟨g1, H⟩ := H
    refine rc_g (i' := 13) (ls' := [some (vR 0), some (vI x1)]) (st' := [vI (f 1 (ix (7 + x1)))]) (L' := LR z f) (b193_7 call (7 + x1) _ z f) (pinG g1) ?_
    refine rc_if (it := 16) (ie := 14) (ls' := [some (vR 0), some (vI x1)]) (st' := []) (b193_8 call (f 1 (ix (7 + x1))) _ _) (fun q2 => ?_) (fun q2 => ?_)
    · have H := H.1 (cI0t q2)
      refine rc_b (i' := 17) (ls' := [some (vR 0), some (vI x1)]) (st' := [vI 0]) (L' := LR z f) 1 (b193_4 call x1 _) ?_
      subst H
      exact rc_ret (b193_5 call _ _)
    · have H := H.2 (cI0f q2)
      refine rc_b (i' := 17) (ls' := [some (vR 0), some (vI x1)]) (st' := [vI 1]) (L' := LR z f) 2 (b193_9 call x1 _) ?_
      subst H
      exact rc_ret (b193_10 call _ _)
set_option maxRecDepth 100000 in
theorem b216_1 (call : QC FA) (x1 : Int32) (z : Nat → Int32) (f : Nat → FA) (F : Nat) : rnG call 216 (F + 2) 0 [some (vR 0), some (vI x1)] [] (LR z f) = rnG call 216 F 2 [some (vR 0), some (vI x1)] [vI (z 5)] (LR z f) := rfl
set_option maxRecDepth 100000 in
theorem b216_2 (call : QC FA) (x : Int32) (ls : List (Option PV)) (L : QH FA) (F : Nat) : rnG call 216 (F + 1) 2 ls [vI x] L = bif pcmp 0 x 0 then rnG call 216 F 12 ls [] L else rnG call 216 F 3 ls [] L := rfl
set_option maxRecDepth 100000 in
theorem b216_3 (call : QC FA) (x1 : Int32) (L : QH FA) (F : Nat) : rnG call 216 (F + 1) 12 [some (vR 0), some (vI x1)] [] L = rnG call 216 F 13 [some (vR 0), some (vI x1)] [vI x1] L := rfl
set_option maxRecDepth 100000 in
theorem b216_4 (call : QC FA) (x : Int32) (ls : List (Option PV)) (L : QH FA) (F : Nat) : rnG call 216 (F + 1) 13 ls [vI x] L = bif pcmp 5 x 0 then rnG call 216 F 21 ls [] L else rnG call 216 F 14 ls [] L := rfl
set_option maxRecDepth 100000 in
theorem b216_5 (call : QC FA) (x1 : Int32) (L : QH FA) (F : Nat) : rnG call 216 (F + 1) 21 [some (vR 0), some (vI x1)] [] L = rnG call 216 F 22 [some (vR 0), some (vI x1)] [vI 0] L := rfl
set_option maxRecDepth 100000 in
theorem b216_6 (call : QC FA) (ls : List (Option PV)) (L : QH FA) (F : Nat) : rnG call 216 (F + 1) 22 ls [vI 0] L = some (some (vI 0), L) := rfl
set_option maxRecDepth 100000 in
theorem b216_7 (call : QC FA) (x1 : Int32) (L : QH FA) (F : Nat) : rnG call 216 (F + 2) 14 [some (vR 0), some (vI x1)] [] L = rnG call 216 F 16 [some (vR 0), some (vI x1)] [vI 1000, vR 0] L := rfl
set_option maxRecDepth 100000 in
theorem b216_8 (call : QC FA) (a0 : Int32) (ls : List (Option PV)) (z : Nat → Int32) (f : Nat → FA) (F : Nat) : rnG call 216 (F + 1) 16 ls [vI a0, vR 0] (LR z f) = cbd (call 204 [vR 0, vI a0] (LR z f)) (fun r L' => rnG call 216 F 17 ls (r.toList ++ []) L') := pcY (ih := rnG call 216 F) (call := call) (a := 204) (b := 1) (v := 12) (t := 17) (x := 0) (ls := ls) (As := [vI a0]) (st' := []) (L := LR z f) rfl rfl rfl
set_option maxRecDepth 100000 in
theorem b216_9 (call : QC FA) (x1 : Int32) (s0 : Int32) (L : QH FA) (F : Nat) : rnG call 216 (F + 1) 17 [some (vR 0), some (vI x1)] [vI s0] L = rnG call 216 F 18 [some (vR 0), some (vI x1)] [vI x1, vI s0] L := rfl
set_option maxRecDepth 100000 in
theorem b216_10 (call : QC FA) (x y : Int32) (ls : List (Option PV)) (L : QH FA) (F : Nat) : rnG call 216 (F + 1) 18 ls [vI y, vI x] L = bif pcmp 3 x y then rnG call 216 F 21 ls [] L else rnG call 216 F 19 ls [] L := rfl
set_option maxRecDepth 100000 in
theorem b216_11 (call : QC FA) (x1 : Int32) (L : QH FA) (F : Nat) : rnG call 216 (F + 2) 19 [some (vR 0), some (vI x1)] [] L = rnG call 216 F 22 [some (vR 0), some (vI x1)] [vI 1] L := rfl
set_option maxRecDepth 100000 in
theorem b216_12 (call : QC FA) (ls : List (Option PV)) (L : QH FA) (F : Nat) : rnG call 216 (F + 1) 22 ls [vI 1] L = some (some (vI 1), L) := rfl
set_option maxRecDepth 100000 in
theorem b216_13 (call : QC FA) (x1 : Int32) (L : QH FA) (F : Nat) : rnG call 216 (F + 4) 3 [some (vR 0), some (vI x1)] [] L = rnG call 216 F 7 [some (vR 0), some (vI x1)] [vI 1000, vI (2 * x1)] L := rfl
set_option maxRecDepth 100000 in
theorem b216_14 (call : QC FA) (x y : Int32) (ls : List (Option PV)) (L : QH FA) (F : Nat) : rnG call 216 (F + 1) 7 ls [vI y, vI x] L = bif pcmp 2 x y then rnG call 216 F 10 ls [] L else rnG call 216 F 8 ls [] L := rfl
set_option maxRecDepth 100000 in
theorem b216_15 (call : QC FA) (x1 : Int32) (L : QH FA) (F : Nat) : rnG call 216 (F + 2) 10 [some (vR 0), some (vI x1)] [] L = rnG call 216 F 22 [some (vR 0), some (vI x1)] [vI 0] L := rfl
set_option maxRecDepth 100000 in
theorem b216_16 (call : QC FA) (x1 : Int32) (L : QH FA) (F : Nat) : rnG call 216 (F + 2) 8 [some (vR 0), some (vI x1)] [] L = rnG call 216 F 22 [some (vR 0), some (vI x1)] [vI 1] L := rfl
theorem vc216_0 (d : Nat) (x1 : Int32) (z : Nat → Int32) (f : Nat → FA) (res : Option PV × QH FA) (H : ((z 5 = 0 → ((I x1 ≤ 0 → res = (some (vI 0), LR z f)) ∧ (0 < I x1 → (∃ (r1 : Int32) (z1 : Nat → Int32) (f1 : Nat → FA), (mcall (d + 1)) 204 [vR 0, vI 1000] (LR z f) = some (some (vI r1), LR z1 f1) ∧ ((I x1 ≤ I r1 → res = (some (vI 0), LR z1 f1)) ∧ (I r1 < I x1 → res = (some (vI 1), LR z1 f1))))))) ∧ (¬ z 5 = 0 → ((I (2 * x1) < 1000 → res = (some (vI 0), LR z f)) ∧ (1000 ≤ I (2 * x1) → res = (some (vI 1), LR z f)))))) : RC (mcall (d + 1)) (mP 216) 0 [some (vR 0), some (vI x1)] [] (LR z f) res := by
  refine rc_b (i' := 2) (ls' := [some (vR 0), some (vI x1)]) (st' := [vI (z 5)]) (L' := LR z f) 2 (b216_1 (mcall (d + 1)) x1 z f) ?_
  refine rc_if (it := 12) (ie := 3) (ls' := [some (vR 0), some (vI x1)]) (st' := []) (b216_2 (mcall (d + 1)) (z 5) _ _) (fun q1 => ?_) (fun q1 => ?_)
  · have H := H.1 (cI0t q1)
    refine rc_b (i' := 13) (ls' := [some (vR 0), some (vI x1)]) (st' := [vI x1]) (L' := LR z f) 1 (b216_3 (mcall (d + 1)) x1 _) ?_
    refine rc_if (it := 21) (ie := 14) (ls' := [some (vR 0), some (vI x1)]) (st' := []) (b216_4 (mcall (d + 1)) x1 _ _) (fun q2 => ?_) (fun q2 => ?_)
    · have H := H.1 (cI5t q2 rfl rfl)
      refine rc_b (i' := 22) (ls' := [some (vR 0), some (vI x1)]) (st' := [vI 0]) (L' := LR z f) 1 (b216_5 (mcall (d + 1)) x1 _) ?_
      subst H
      exact rc_ret (b216_6 (mcall (d + 1)) _ _)
    · have H := H.2 (cI5f q2 rfl rfl)
      refine rc_b (i' := 16) (ls' := [some (vR 0), some (vI x1)]) (st' := [vI 1000, vR 0]) (L' := LR z f) 2 (b216_7 (mcall (d + 1)) x1 _) ?_
      obtain ⟨r1, z1, f1, hc, H⟩ := H
      refine rc_call (t := 17) (ls' := [some (vR 0), some (vI x1)]) (st' := []) (b216_8 (mcall (d + 1)) 1000 _ z f) hc ?_
      show RC (mcall (d + 1)) (mP 216) 17 [some (vR 0), some (vI x1)] [vI r1] (LR z1 f1) res
      refine rc_b (i' := 18) (ls' := [some (vR 0), some (vI x1)]) (st' := [vI x1, vI r1]) (L' := LR z1 f1) 1 (b216_9 (mcall (d + 1)) x1 r1 _) ?_
      refine rc_if (it := 21) (ie := 19) (ls' := [some (vR 0), some (vI x1)]) (st' := []) (b216_10 (mcall (d + 1)) r1 x1 _ _) (fun q3 => ?_) (fun q3 => ?_)
      · have H := H.1 (cI3t q3 rfl rfl)
        refine rc_b (i' := 22) (ls' := [some (vR 0), some (vI x1)]) (st' := [vI 0]) (L' := LR z1 f1) 1 (b216_5 (mcall (d + 1)) x1 _) ?_
        subst H
        exact rc_ret (b216_6 (mcall (d + 1)) _ _)
      · have H := H.2 (cI3f q3 rfl rfl)
        refine rc_b (i' := 22) (ls' := [some (vR 0), some (vI x1)]) (st' := [vI 1]) (L' := LR z1 f1) 2 (b216_11 (mcall (d + 1)) x1 _) ?_
        subst H
        exact rc_ret (b216_12 (mcall (d + 1)) _ _)
  · have H := H.2 (cI0f q1)
    refine rc_b (i' := 7) (ls' := [some (vR 0), some (vI x1)]) (st' := [vI 1000, vI (2 * x1)]) (L' := LR z f) 4 (b216_13 (mcall (d + 1)) x1 _) ?_
    refine rc_if (it := 10) (ie := 8) (ls' := [some (vR 0), some (vI x1)]) (st' := []) (b216_14 (mcall (d + 1)) (2 * x1) 1000 _ _) (fun q4 => ?_) (fun q4 => ?_)
    · have H := H.1 (cI2t q4 rfl rfl)
      refine rc_b (i' := 22) (ls' := [some (vR 0), some (vI x1)]) (st' := [vI 0]) (L' := LR z f) 2 (b216_15 (mcall (d + 1)) x1 _) ?_
      subst H
      exact rc_ret (b216_6 (mcall (d + 1)) _ _)
    · have H := H.2 (cI2f q4 rfl rfl)
      refine rc_b (i' := 22) (ls' := [some (vR 0), some (vI x1)]) (st' := [vI 1]) (L' := LR z f) 2 (b216_16 (mcall (d + 1)) x1 _) ?_
      subst H
      exact rc_ret (b216_12 (mcall (d + 1)) _ _)
set_option maxRecDepth 100000 in
theorem b204_1 (call : QC FA) (x1 : Int32) (z : Nat → Int32) (f : Nat → FA) (F : Nat) : rnG call 204 (F + 7) 0 [some (vR 0), some (vI x1)] [] (LR z f) = rnG call 204 F 7 [some (vR 0), some (vI x1)] [vI 2, vR 1, vI 1664525, vI 2, vR 1] (LR z f) := rfl
set_option maxRecDepth 100000 in
theorem b204_2 (call : QC FA) (x : Int32) (s0 : Int32) (s1 : Int32) (ls : List (Option PV)) (z : Nat → Int32) (f : Nat → FA) (F : Nat) : rnG call 204 (F + 1) 7 ls [vI x, vR 1, vI s0, vI s1, vR 1] (LR z f) = bif (Nat.beq 0 0 && pin x 499) then rnG call 204 F 8 ls [vI (f 1 (ix x)), vI s0, vI s1, vR 1] (LR z f) else none := rfl
set_option maxRecDepth 100000 in
theorem b204_3a (call : QC FA) (x1 : Int32) (s0 : Int32) (s1 : Int32) (s2 : Int32) (L : QH FA) (F : Nat) : rnG call 204 (F + 2) 8 [some (vR 0), some (vI x1)] [vI s0, vI s1, vI s2, vR 1] L = rnG call 204 F 10 [some (vR 0), some (vI x1)] [vI 1013904223, vI (s1 * s0), vI s2, vR 1] L := rfl
set_option maxRecDepth 100000 in
theorem b204_3b (call : QC FA) (x1 a b : Int32) (s2 : Int32) (L : QH FA) (F : Nat) : rnG call 204 (F + 1) 10 [some (vR 0), some (vI x1)] [vI b, vI a, vI s2, vR 1] L = rnG call 204 F 11 [some (vR 0), some (vI x1)] [vI (a + b), vI s2, vR 1] L := rfl
theorem b204_3 (call : QC FA) (x1 : Int32) (s0 : Int32) (s1 : Int32) (s2 : Int32) (L : QH FA) (F : Nat) : rnG call 204 (F + 3) 8 [some (vR 0), some (vI x1)] [vI s0, vI s1, vI s2, vR 1] L = rnG call 204 F 11 [some (vR 0), some (vI x1)] [vI ((s1 * s0) + 1013904223), vI s2, vR 1] L := (b204_3a call x1 s0 s1 s2 L (F + 1)).trans (b204_3b call x1 (s1 * s0) 1013904223 s2 L F)
set_option maxRecDepth 100000 in
theorem b204_4 (call : QC FA) (x y : Int32) (ls : List (Option PV)) (z : Nat → Int32) (f : Nat → FA) (F : Nat) : rnG call 204 (F + 1) 11 ls [vI y, vI x, vR 1] (LR z f) = bif (Nat.beq 0 0 && pin x 499) then rnG call 204 F 12 ls [] (LR z (uA f 1 (upd (f 1) (ix x) y))) else none := rfl
set_option maxRecDepth 100000 in
theorem b204_5 (call : QC FA) (x1 : Int32) (z : Nat → Int32) (f : Nat → FA) (F : Nat) : rnG call 204 (F + 3) 12 [some (vR 0), some (vI x1)] [] (LR z f) = rnG call 204 F 15 [some (vR 0), some (vI x1)] [vI 2, vR 1] (LR z f) := rfl
set_option maxRecDepth 100000 in
theorem b204_6 (call : QC FA) (x : Int32) (ls : List (Option PV)) (z : Nat → Int32) (f : Nat → FA) (F : Nat) : rnG call 204 (F + 1) 15 ls [vI x, vR 1] (LR z f) = bif (Nat.beq 0 0 && pin x 499) then rnG call 204 F 16 ls [vI (f 1 (ix x))] (LR z f) else none := rfl
set_option maxRecDepth 100000 in
theorem b204_7 (call : QC FA) (x1 : Int32) (s0 : Int32) (L : QH FA) (F : Nat) : rnG call 204 (F + 3) 16 [some (vR 0), some (vI x1)] [vI s0] L = rnG call 204 F 19 [some (vR 0), some (vI x1)] [vI x1, vI (pbin 8 s0 8)] L := rfl
set_option maxRecDepth 100000 in
theorem b204_8 (call : QC FA) (x y : Int32) (ls : List (Option PV)) (L : QH FA) (F : Nat) : rnG call 204 (F + 1) 19 ls [vI y, vI x] L = bif pcmp 1 y 0 then rnG call 204 F 20 ls [vI (x - x / y * y)] L else none := rfl
set_option maxRecDepth 100000 in
theorem b204_9 (call : QC FA) (x : Int32) (ls : List (Option PV)) (L : QH FA) (F : Nat) : rnG call 204 (F + 1) 20 ls [vI x] L = some (some (vI x), L) := rfl
theorem vc204_0 (call : QC FA) (x1 : Int32) (z : Nat → Int32) (f : Nat → FA) (res : Option PV × QH FA) (H : (pin 2 499 = true ∧ (pin 2 499 = true ∧ (pin 2 499 = true ∧ (¬ x1 = 0 ∧ res = (some (vI ((pbin 8 ((upd (f 1) (ix 2) ((1664525 * (f 1 (ix 2))) + 1013904223)) (ix 2)) 8) - (pbin 8 ((upd (f 1) (ix 2) ((1664525 * (f 1 (ix 2))) + 1013904223)) (ix 2)) 8) / x1 * x1)), LR z (uA f 1 (upd (f 1) (ix 2) ((1664525 * (f 1 (ix 2))) + 1013904223))))))))) : RC call (mP 204) 0 [some (vR 0), some (vI x1)] [] (LR z f) res := by
  refine rc_b (i' := 7) (ls' := [some (vR 0), some (vI x1)]) (st' := [vI 2, vR 1, vI 1664525, vI 2, vR 1]) (L' := LR z f) 7 (b204_1 call x1 z f) ?_
  obtain ⟨g1, H⟩ := H
  refine rc_g (i' := 8) (ls' := [some (vR 0), some (vI x1)]) (st' := [vI (f 1 (ix 2)), vI 1664525, vI 2, vR 1]) (L' := LR z f) (b204_2 call 2 1664525 2 _ z f) (pinG g1) ?_
  refine rc_b (i' := 11) (ls' := [some (vR 0), some (vI x1)]) (st' := [vI ((1664525 * (f 1 (ix 2))) + 1013904223), vI 2, vR 1]) (L' := LR z f) 3 (b204_3 call x1 (f 1 (ix 2)) 1664525 2 _) ?_
  obtain ⟨g1, H⟩ := H
  refine rc_g (i' := 12) (ls' := [some (vR 0), some (vI x1)]) (st' := []) (L' := LR z (uA f 1 (upd (f 1) (ix 2) ((1664525 * (f 1 (ix 2))) + 1013904223)))) (b204_4 call 2 ((1664525 * (f 1 (ix 2))) + 1013904223) _ z f) (pinG g1) ?_
  refine rc_b (i' := 15) (ls' := [some (vR 0), some (vI x1)]) (st' := [vI 2, vR 1]) (L' := LR z (uA f 1 (upd (f 1) (ix 2) ((1664525 * (f 1 (ix 2))) + 1013904223)))) 3 (b204_5 call x1 z (uA f 1 (upd (f 1) (ix 2) ((1664525 * (f 1 (ix 2))) + 1013904223)))) ?_
  obtain ⟨g1, H⟩ := H
  refine rc_g (i' := 16) (ls' := [some (vR 0), some (vI x1)]) (st' := [vI ((upd (f 1) (ix 2) ((1664525 * (f 1 (ix 2))) + 1013904223)) (ix 2))]) (L' := LR z (uA f 1 (upd (f 1) (ix 2) ((1664525 * (f 1 (ix 2))) + 1013904223)))) (b204_6 call 2 _ z (uA f 1 (upd (f 1) (ix 2) ((1664525 * (f 1 (ix 2))) + 1013904223)))) (pinG g1) ?_
  refine rc_b (i' := 19) (ls' := [some (vR 0), some (vI x1)]) (st' := [vI x1, vI (pbin 8 ((upd (f 1) (ix 2) ((1664525 * (f 1 (ix 2))) + 1013904223)) (ix 2)) 8)]) (L' := LR z (uA f 1 (upd (f 1) (ix 2) ((1664525 * (f 1 (ix 2))) + 1013904223)))) 3 (b204_7 call x1 ((upd (f 1) (ix 2) ((1664525 * (f 1 (ix 2))) + 1013904223)) (ix 2)) _) ?_
  obtain ⟨g1, H⟩ := H
  refine rc_g (i' := 20) (ls' := [some (vR 0), some (vI x1)]) (st' := [vI ((pbin 8 ((upd (f 1) (ix 2) ((1664525 * (f 1 (ix 2))) + 1013904223)) (ix 2)) 8) - (pbin 8 ((upd (f 1) (ix 2) ((1664525 * (f 1 (ix 2))) + 1013904223)) (ix 2)) 8) / x1 * x1)]) (L' := LR z (uA f 1 (upd (f 1) (ix 2) ((1664525 * (f 1 (ix 2))) + 1013904223)))) (b204_8 call (pbin 8 ((upd (f 1) (ix 2) ((1664525 * (f 1 (ix 2))) + 1013904223)) (ix 2)) 8) x1 _ _) (cmp_ne.trans (decide_eq_true g1)) ?_
  subst H
  exact rc_ret (b204_9 call _ _ _)
theorem mNoteT (d : Nat) (w who much : Int32) {z : Nat → Int32} {r : Nat → FA} (h5 : ¬ z 5 = 0) : mcall (d + 1) 243 [vR 0, vI w, vI who, vI much] (LR z r) = some (none, LR z r) := mcall_i (mq243 (cu := [])).2.2 rfl (vc243_0 (mcall d) w who much none z r _ ⟨fun _ => rfl, fun q => absurd q h5⟩)
theorem mNoteF (d : Nat) (w who much : Int32) {z : Nat → Int32} {r : Nat → FA} (h5 : z 5 = 0) (h3 : r 1 3 = nI 150) : mcall (d + 1) 243 [vR 0, vI w, vI who, vI much] (LR z r) = some (none, LR z r) := by
  have x3 : ix 3 = 3 := by decide
  refine mcall_i (mq243 (cu := [])).2.2 rfl (vc243_0 (mcall d) w who much none z r _ ⟨fun q => absurd h5 q, fun _ => ⟨by decide, fun q => ?_, fun _ => rfl⟩⟩)
  rw [x3, h3] at q
  exact absurd rfl q
theorem mNote (d : Nat) (w who much : Int32) {z : Nat → Int32} {r : Nat → FA} {l : Nat} (h5 : z 5 = 0) (h3 : r 1 3 = nI l) (hl : l < 150) : mcall (d + 1) 243 [vR 0, vI w, vI who, vI much] (LR z r) = some (none, LR z (uA (uA r 7 (b5 (r 7) l (r 1 0) (r 1 1) w who much)) 1 (upd (r 1) 3 (nI (l + 1))))) := by
  have x3 : ix 3 = 3 := by decide
  have x0 : ix 0 = 0 := by decide
  have x1 : ix 1 = 1 := by decide
  have e5 : (5 : Int32) * nI l = nI (5 * l) := by rw [show (5 : Int32) = nI 5 from rfl, mul_nI]
  have go : ∀ res, _ → mcall (d + 1) 243 [vR 0, vI w, vI who, vI much] (LR z r) = some res := fun res H => mcall_i (mq243 (cu := [])).2.2 rfl (vc243_0 (mcall d) w who much none z r res H)
  have ne : ¬ nI l = 150 := fun q => by have := nI_inj (b := 150) (by omega) (by omega) q; omega
  rw [x3, h3, e5, show nI (5 * l) + 1 = nI (5 * l + 1) from nI_add _ 1, show nI (5 * l) + 2 = nI (5 * l + 2) from nI_add _ 2, show nI (5 * l) + 3 = nI (5 * l + 3) from nI_add _ 3, show nI (5 * l) + 4 = nI (5 * l + 4) from nI_add _ 4, show nI l + 1 = nI (l + 1) from nI_add l 1, x0, x1, ix_nI (j := 5 * l) (by omega), ix_nI (j := 5 * l + 1) (by omega), ix_nI (j := 5 * l + 2) (by omega), ix_nI (j := 5 * l + 3) (by omega), ix_nI (j := 5 * l + 4) (by omega)] at go
  refine go _ ⟨fun q => absurd h5 q, fun _ => ⟨by decide, fun _ => ⟨by decide, by decide, pin_nI (by omega) (by omega), by decide, pin_nI (by omega) (by omega), pin_nI (by omega) (by omega), pin_nI (by omega) (by omega), pin_nI (by omega) (by omega), by decide, by decide, ?_⟩, fun q => absurd q ne⟩⟩
  simp only [uA_uA]
  rfl
theorem mBare (d : Nat) {i : Nat} (hi : i < 144) {z : Nat → Int32} {r : Nat → FA} : mcall (d + 1) 220 [vR 0, vI (nI i)] (LR z r) = some (none, LR z (uA r 1 (upd (upd (upd (r 1) (67 + i) 0) (211 + i) 0) (355 + i) 0))) := by
  have e67 : (67 : Int32) + nI i = nI (67 + i) := nI_add 67 i
  have e211 : (211 : Int32) + nI i = nI (211 + i) := nI_add 211 i
  have e355 : (355 : Int32) + nI i = nI (355 + i) := nI_add 355 i
  have go : ∀ res, _ → mcall (d + 1) 220 [vR 0, vI (nI i)] (LR z r) = some res := fun res H => mcall_i (mq220 (cu := [])).2.2 rfl (vc220_0 (mcall d) (nI i) z r res H)
  rw [e67, e211, e355, ix_nI (j := 67 + i) (by omega), ix_nI (j := 211 + i) (by omega), ix_nI (j := 355 + i) (by omega)] at go
  refine go _ ⟨pin_nI (by omega) (by omega), pin_nI (by omega) (by omega), pin_nI (by omega) (by omega), ?_⟩
  simp only [uA_uA]
theorem MRS.bare {nv : Nat} {m g : FA} (h : MRS nv m g) {i : Nat} (hi : i < 144) : MRS nv (upd m i 0) (upd (upd (upd g (67 + i) 0) (211 + i) 0) (355 + i) 0) := by
  intro j hj
  by_cases c : j = i
  · subst c
    rw [pk_us, pk_us, pk_un (show 211 + j ≠ 355 + j by omega), pk_us, pk_un (show 67 + j ≠ 355 + j by omega), pk_un (show 67 + j ≠ 211 + j by omega), pk_us]
    exact Or.inl ⟨rfl, rfl, rfl, rfl⟩
  · rw [pk_un c, pk_un (show 67 + j ≠ 355 + i by omega), pk_un (show 67 + j ≠ 211 + i by omega), pk_un (show 67 + j ≠ 67 + i by omega), pk_un (show 211 + j ≠ 355 + i by omega), pk_un (show 211 + j ≠ 211 + i by omega), pk_un (show 211 + j ≠ 67 + i by omega), pk_un (show 355 + j ≠ 355 + i by omega), pk_un (show 355 + j ≠ 211 + i by omega), pk_un (show 355 + j ≠ 67 + i by omega)]
    exact h j hj
theorem b5_lo {G : FA} {l : Nat} {a b c d e : Int32} {G' : FA} (h : ∀ j, j < 750 → G j = G' j) : ∀ j, j < 750 → b5 G l a b c d e j = b5 G' l a b c d e j := by
  intro j hj
  unfold b5 upd
  simp only [h j hj]
