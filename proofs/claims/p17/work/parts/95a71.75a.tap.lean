/-! the tape on both sides: the class over main, reader and tape -/
def LM3 (z : Nat → Int32) (f : Nat → FA) : QH FA := .inr (11, [vR 20, vR 21, vI (z 0), vR 22, vR 1, vR 23, vR 24, vR 25, vR 26, vR 27, vR 28]) :: .inr (5, [vR 2, vI (z 11), vI (z 12), vI (z 13), vI (z 14), vI (z 15), vI (z 16), vI (z 17), vI (z 18), vI (z 19), vR 11, vI (z 21), vR 12, vI (z 23)]) :: .inl (.inl (0, 400, f 2)) :: []
theorem LM3_sh (z z' : Nat → Int32) (f f' : Nat → FA) : R2 SHQ (LM3 z f) (LM3 z' f') := ⟨(fun _ => ⟨rfl, rfl, rfl, trivial, rfl, rfl, rfl, rfl, rfl, rfl, rfl, rfl, trivial⟩), (fun _ => ⟨rfl, rfl, trivial, trivial, trivial, trivial, trivial, trivial, trivial, trivial, trivial, rfl, trivial, rfl, trivial, trivial⟩), (fun _ => ⟨rfl, rfl⟩), trivial⟩
set_option maxRecDepth 100000 in
theorem bq136_1 (call : QC FA) (x1 : Int32) (o2 : Option PV) (L : QH FA) (F : Nat) : rnG call 136 (F + 2) 0 [some (vR 1), some (vI x1), o2] [] L = rnG call 136 F 2 [some (vR 1), some (vI x1), some (vI 24)] [] L := rfl
theorem vcq136_0 (call : QC FA) (x1 : Int32) (o2 : Option PV) (z : Nat → Int32) (f : Nat → FA) (res : Option PV × QH FA) (H : RC call (mP 136) 2 [some (vR 1), some (vI x1), some (vI 24)] [] (LM3 z f) res) : RC call (mP 136) 0 [some (vR 1), some (vI x1), o2] [] (LM3 z f) res := by
  refine rc_b (i' := 2) (ls' := [some (vR 1), some (vI x1), some (vI 24)]) (st' := []) (L' := LM3 z f) 2 (bq136_1 call x1 o2 _) ?_
  exact H
set_option maxRecDepth 100000 in
theorem bqc2_136_1 (call : QC FA) (x1 : Int32) (x2 : Int32) (L : QH FA) (F : Nat) : rnG call 136 (F + 1) 2 [some (vR 1), some (vI x1), some (vI x2)] [] L = rnG call 136 F 3 [some (vR 1), some (vI x1), some (vI x2)] [vI x2] L := rfl
set_option maxRecDepth 100000 in
theorem bqc2_136_2 (call : QC FA) (x : Int32) (ls : List (Option PV)) (L : QH FA) (F : Nat) : rnG call 136 (F + 1) 3 ls [vI x] L = bif pcmp 2 x 0 then rnG call 136 F 26 ls [] L else rnG call 136 F 4 ls [] L := rfl
set_option maxRecDepth 100000 in
theorem bqc2_136_3 (call : QC FA) (ls : List (Option PV)) (L : QH FA) (F : Nat) : rnG call 136 (F + 1) 26 ls [] L = some (none, L) := rfl
set_option maxRecDepth 100000 in
theorem bqc2_136_4 (call : QC FA) (x1 : Int32) (x2 : Int32) (z : Nat → Int32) (f : Nat → FA) (F : Nat) : rnG call 136 (F + 3) 4 [some (vR 1), some (vI x1), some (vI x2)] [] (LM3 z f) = rnG call 136 F 7 [some (vR 1), some (vI x1), some (vI x2)] [vI 400, vI (z 11)] (LM3 z f) := rfl
set_option maxRecDepth 100000 in
theorem bqc2_136_5 (call : QC FA) (x y : Int32) (ls : List (Option PV)) (L : QH FA) (F : Nat) : rnG call 136 (F + 1) 7 ls [vI y, vI x] L = bif pcmp 3 x y then rnG call 136 F 24 ls [] L else rnG call 136 F 8 ls [] L := rfl
theorem bqc2_136_6i (ih : QK FA) (t : Nat) (v x : Int32) (l0 l1 : Option PV) (st : List PV) (L : QH FA) : p_iinc ih fzF 2 v t [l0, l1, some (vI x)] st L = ih t [l0, l1, some (vI (x + v))] st L := rfl
set_option maxRecDepth 100000 in
theorem bqc2_136_6 (call : QC FA) (x1 : Int32) (x2 : Int32) (L : QH FA) (F : Nat) : rnG call 136 (F + 1) 24 [some (vR 1), some (vI x1), some (vI x2)] [] L = rnG call 136 F 25 [some (vR 1), some (vI x1), some (vI (x2 + (-8)))] [] L := bqc2_136_6i (rnG call 136 F) 25 (-8) x2 _ _ _ _
set_option maxRecDepth 100000 in
theorem bqc2_136_7 (call : QC FA) (x1 : Int32) (x2 : Int32) (L : QH FA) (F : Nat) : rnG call 136 (F + 1) 25 [some (vR 1), some (vI x1), some (vI x2)] [] L = rnG call 136 F 2 [some (vR 1), some (vI x1), some (vI x2)] [] L := rfl
set_option maxRecDepth 100000 in
theorem bqc2_136_8 (call : QC FA) (x1 : Int32) (x2 : Int32) (z : Nat → Int32) (f : Nat → FA) (F : Nat) : rnG call 136 (F + 9) 8 [some (vR 1), some (vI x1), some (vI x2)] [] (LM3 z f) = rnG call 136 F 17 [some (vR 1), some (vI x1), some (vI x2)] [vI ((pbin 8 x1 x2) &&& 255), vI (z 11), vR 2] (LM3 z f) := rfl
set_option maxRecDepth 100000 in
theorem bqc2_136_9 (call : QC FA) (x y : Int32) (ls : List (Option PV)) (z : Nat → Int32) (f : Nat → FA) (F : Nat) : rnG call 136 (F + 1) 17 ls [vI y, vI x, vR 2] (LM3 z f) = bif (Nat.beq 0 0 && pin x 400) then rnG call 136 F 18 ls [] (LM3 z (uA f 2 (upd (f 2) (ix x) y))) else none := rfl
set_option maxRecDepth 100000 in
theorem bqc2_136_10 (call : QC FA) (x1 : Int32) (x2 : Int32) (z : Nat → Int32) (f : Nat → FA) (F : Nat) : rnG call 136 (F + 5) 18 [some (vR 1), some (vI x1), some (vI x2)] [] (LM3 z f) = rnG call 136 F 23 [some (vR 1), some (vI x1), some (vI x2)] [vI ((z 11) + 1), vR 1] (LM3 z f) := rfl
set_option maxRecDepth 100000 in
theorem bqc2_136_11 (call : QC FA) (y : Int32) (ls : List (Option PV)) (z : Nat → Int32) (f : Nat → FA) (F : Nat) : rnG call 136 (F + 1) 23 ls [vI y, vR 1] (LM3 z f) = rnG call 136 F 24 ls [] (LM3 (uZ z 11 y) f) := rfl
theorem vcqc2_136_2 (call : QC FA) (x1 : Int32) (x2 : Int32) (z : Nat → Int32) (f : Nat → FA) (res : Option PV × QH FA) (H : ((I x2 < 0 → res = (none, LM3 z f)) ∧ (0 ≤ I x2 → ((400 ≤ I (z 11) → RC call (mP 136) 2 [some (vR 1), some (vI x1), some (vI (x2 + (-8)))] [] (LM3 z f) res) ∧ (I (z 11) < 400 → (pin (z 11) 400 = true ∧ RC call (mP 136) 2 [some (vR 1), some (vI x1), some (vI (x2 + (-8)))] [] (LM3 (uZ z 11 ((z 11) + 1)) (uA f 2 (upd (f 2) (ix (z 11)) ((pbin 8 x1 x2) &&& 255)))) res)))))) : RC call (mP 136) 2 [some (vR 1), some (vI x1), some (vI x2)] [] (LM3 z f) res := by
  refine rc_b (i' := 3) (ls' := [some (vR 1), some (vI x1), some (vI x2)]) (st' := [vI x2]) (L' := LM3 z f) 1 (bqc2_136_1 call x1 x2 _) ?_
  refine rc_if (it := 26) (ie := 4) (ls' := [some (vR 1), some (vI x1), some (vI x2)]) (st' := []) (bqc2_136_2 call x2 _ _) (fun q1 => ?_) (fun q1 => ?_)
  · have H := H.1 (cI2t q1 rfl rfl)
    subst H
    exact rc_ret (bqc2_136_3 call _ _)
  · have H := H.2 (cI2f q1 rfl rfl)
    refine rc_b (i' := 7) (ls' := [some (vR 1), some (vI x1), some (vI x2)]) (st' := [vI 400, vI (z 11)]) (L' := LM3 z f) 3 (bqc2_136_4 call x1 x2 z f) ?_
    refine rc_if (it := 24) (ie := 8) (ls' := [some (vR 1), some (vI x1), some (vI x2)]) (st' := []) (bqc2_136_5 call (z 11) 400 _ _) (fun q2 => ?_) (fun q2 => ?_)
    · have H := H.1 (cI3t q2 rfl rfl)
      refine rc_b (i' := 25) (ls' := [some (vR 1), some (vI x1), some (vI (x2 + (-8)))]) (st' := []) (L' := LM3 z f) 1 (bqc2_136_6 call x1 x2 _) ?_
      refine rc_b (i' := 2) (ls' := [some (vR 1), some (vI x1), some (vI (x2 + (-8)))]) (st' := []) (L' := LM3 z f) 1 (bqc2_136_7 call x1 (x2 + (-8)) _) ?_
      exact H
    · have H := H.2 (cI3f q2 rfl rfl)
      refine rc_b (i' := 17) (ls' := [some (vR 1), some (vI x1), some (vI x2)]) (st' := [vI ((pbin 8 x1 x2) &&& 255), vI (z 11), vR 2]) (L' := LM3 z f) 9 (bqc2_136_8 call x1 x2 z f) ?_
      obtain ⟨g1, H⟩ := H
      refine rc_g (i' := 18) (ls' := [some (vR 1), some (vI x1), some (vI x2)]) (st' := []) (L' := LM3 z (uA f 2 (upd (f 2) (ix (z 11)) ((pbin 8 x1 x2) &&& 255)))) (bqc2_136_9 call (z 11) ((pbin 8 x1 x2) &&& 255) _ z f) (pinG g1) ?_
      refine rc_b (i' := 23) (ls' := [some (vR 1), some (vI x1), some (vI x2)]) (st' := [vI ((z 11) + 1), vR 1]) (L' := LM3 z (uA f 2 (upd (f 2) (ix (z 11)) ((pbin 8 x1 x2) &&& 255)))) 5 (bqc2_136_10 call x1 x2 z (uA f 2 (upd (f 2) (ix (z 11)) ((pbin 8 x1 x2) &&& 255)))) ?_
      refine rc_b (i' := 24) (ls' := [some (vR 1), some (vI x1), some (vI x2)]) (st' := []) (L' := LM3 (uZ z 11 ((z 11) + 1)) (uA f 2 (upd (f 2) (ix (z 11)) ((pbin 8 x1 x2) &&& 255)))) 1 (bqc2_136_11 call ((z 11) + 1) _ z (uA f 2 (upd (f 2) (ix (z 11)) ((pbin 8 x1 x2) &&& 255)))) ?_
      refine rc_b (i' := 25) (ls' := [some (vR 1), some (vI x1), some (vI (x2 + (-8)))]) (st' := []) (L' := LM3 (uZ z 11 ((z 11) + 1)) (uA f 2 (upd (f 2) (ix (z 11)) ((pbin 8 x1 x2) &&& 255)))) 1 (bqc2_136_6 call x1 x2 _) ?_
      refine rc_b (i' := 2) (ls' := [some (vR 1), some (vI x1), some (vI (x2 + (-8)))]) (st' := []) (L' := LM3 (uZ z 11 ((z 11) + 1)) (uA f 2 (upd (f 2) (ix (z 11)) ((pbin 8 x1 x2) &&& 255)))) 1 (bqc2_136_7 call x1 (x2 + (-8)) _) ?_
      exact H
set_option maxRecDepth 100000 in
theorem bq160_1 (call : QC FA) (x1 : Int32) (x2 : Int32) (x3 : Int32) (x4 : Int32) (x5 : Int32) (z : Nat → Int32) (f : Nat → FA) (F : Nat) : rnG call 160 (F + 6) 0 [some (vR 0), some (vI x1), some (vI x2), some (vI x3), some (vI x4), some (vI x5)] [] (LM3 z f) = rnG call 160 F 6 [some (vR 0), some (vI x1), some (vI x2), some (vI x3), some (vI x4), some (vI x5)] [vI 400, vI ((z 11) + 20)] (LM3 z f) := rfl
set_option maxRecDepth 100000 in
theorem bq160_2 (call : QC FA) (x y : Int32) (ls : List (Option PV)) (L : QH FA) (F : Nat) : rnG call 160 (F + 1) 6 ls [vI y, vI x] L = bif pcmp 5 x y then rnG call 160 F 9 ls [] L else rnG call 160 F 7 ls [] L := rfl
set_option maxRecDepth 100000 in
theorem bq160_3 (call : QC FA) (x1 : Int32) (x2 : Int32) (x3 : Int32) (x4 : Int32) (x5 : Int32) (z : Nat → Int32) (f : Nat → FA) (F : Nat) : rnG call 160 (F + 3) 9 [some (vR 0), some (vI x1), some (vI x2), some (vI x3), some (vI x4), some (vI x5)] [] (LM3 z f) = rnG call 160 F 12 [some (vR 0), some (vI x1), some (vI x2), some (vI x3), some (vI x4), some (vI x5)] [vI x1, vR 1] (LM3 z f) := rfl
set_option maxRecDepth 100000 in
theorem bq160_4 (call : QC FA) (a0 : Int32) (ls : List (Option PV)) (z : Nat → Int32) (f : Nat → FA) (F : Nat) : rnG call 160 (F + 1) 12 ls [vI a0, vR 1] (LM3 z f) = cbd (call 136 [vR 1, vI a0] (LM3 z f)) (fun r L' => rnG call 160 F 13 ls (r.toList ++ []) L') := pcY (ih := rnG call 160 F) (call := call) (a := 136) (b := 1) (v := 5) (t := 13) (x := 1) (ls := ls) (As := [vI a0]) (st' := []) (L := LM3 z f) rfl rfl rfl
set_option maxRecDepth 100000 in
theorem bq160_5 (call : QC FA) (x1 : Int32) (x2 : Int32) (x3 : Int32) (x4 : Int32) (x5 : Int32) (z : Nat → Int32) (f : Nat → FA) (F : Nat) : rnG call 160 (F + 3) 13 [some (vR 0), some (vI x1), some (vI x2), some (vI x3), some (vI x4), some (vI x5)] [] (LM3 z f) = rnG call 160 F 16 [some (vR 0), some (vI x1), some (vI x2), some (vI x3), some (vI x4), some (vI x5)] [vI x2, vR 1] (LM3 z f) := rfl
set_option maxRecDepth 100000 in
theorem bq160_6 (call : QC FA) (a0 : Int32) (ls : List (Option PV)) (z : Nat → Int32) (f : Nat → FA) (F : Nat) : rnG call 160 (F + 1) 16 ls [vI a0, vR 1] (LM3 z f) = cbd (call 136 [vR 1, vI a0] (LM3 z f)) (fun r L' => rnG call 160 F 17 ls (r.toList ++ []) L') := pcY (ih := rnG call 160 F) (call := call) (a := 136) (b := 1) (v := 5) (t := 17) (x := 1) (ls := ls) (As := [vI a0]) (st' := []) (L := LM3 z f) rfl rfl rfl
set_option maxRecDepth 100000 in
theorem bq160_7 (call : QC FA) (x1 : Int32) (x2 : Int32) (x3 : Int32) (x4 : Int32) (x5 : Int32) (z : Nat → Int32) (f : Nat → FA) (F : Nat) : rnG call 160 (F + 3) 17 [some (vR 0), some (vI x1), some (vI x2), some (vI x3), some (vI x4), some (vI x5)] [] (LM3 z f) = rnG call 160 F 20 [some (vR 0), some (vI x1), some (vI x2), some (vI x3), some (vI x4), some (vI x5)] [vI x3, vR 1] (LM3 z f) := rfl
set_option maxRecDepth 100000 in
theorem bq160_8 (call : QC FA) (a0 : Int32) (ls : List (Option PV)) (z : Nat → Int32) (f : Nat → FA) (F : Nat) : rnG call 160 (F + 1) 20 ls [vI a0, vR 1] (LM3 z f) = cbd (call 136 [vR 1, vI a0] (LM3 z f)) (fun r L' => rnG call 160 F 21 ls (r.toList ++ []) L') := pcY (ih := rnG call 160 F) (call := call) (a := 136) (b := 1) (v := 5) (t := 21) (x := 1) (ls := ls) (As := [vI a0]) (st' := []) (L := LM3 z f) rfl rfl rfl
set_option maxRecDepth 100000 in
theorem bq160_9 (call : QC FA) (x1 : Int32) (x2 : Int32) (x3 : Int32) (x4 : Int32) (x5 : Int32) (z : Nat → Int32) (f : Nat → FA) (F : Nat) : rnG call 160 (F + 3) 21 [some (vR 0), some (vI x1), some (vI x2), some (vI x3), some (vI x4), some (vI x5)] [] (LM3 z f) = rnG call 160 F 24 [some (vR 0), some (vI x1), some (vI x2), some (vI x3), some (vI x4), some (vI x5)] [vI x4, vR 1] (LM3 z f) := rfl
set_option maxRecDepth 100000 in
theorem bq160_10 (call : QC FA) (a0 : Int32) (ls : List (Option PV)) (z : Nat → Int32) (f : Nat → FA) (F : Nat) : rnG call 160 (F + 1) 24 ls [vI a0, vR 1] (LM3 z f) = cbd (call 136 [vR 1, vI a0] (LM3 z f)) (fun r L' => rnG call 160 F 25 ls (r.toList ++ []) L') := pcY (ih := rnG call 160 F) (call := call) (a := 136) (b := 1) (v := 5) (t := 25) (x := 1) (ls := ls) (As := [vI a0]) (st' := []) (L := LM3 z f) rfl rfl rfl
set_option maxRecDepth 100000 in
theorem bq160_11 (call : QC FA) (x1 : Int32) (x2 : Int32) (x3 : Int32) (x4 : Int32) (x5 : Int32) (z : Nat → Int32) (f : Nat → FA) (F : Nat) : rnG call 160 (F + 3) 25 [some (vR 0), some (vI x1), some (vI x2), some (vI x3), some (vI x4), some (vI x5)] [] (LM3 z f) = rnG call 160 F 28 [some (vR 0), some (vI x1), some (vI x2), some (vI x3), some (vI x4), some (vI x5)] [vI x5, vR 1] (LM3 z f) := rfl
set_option maxRecDepth 100000 in
theorem bq160_12 (call : QC FA) (a0 : Int32) (ls : List (Option PV)) (z : Nat → Int32) (f : Nat → FA) (F : Nat) : rnG call 160 (F + 1) 28 ls [vI a0, vR 1] (LM3 z f) = cbd (call 136 [vR 1, vI a0] (LM3 z f)) (fun r L' => rnG call 160 F 29 ls (r.toList ++ []) L') := pcY (ih := rnG call 160 F) (call := call) (a := 136) (b := 1) (v := 5) (t := 29) (x := 1) (ls := ls) (As := [vI a0]) (st' := []) (L := LM3 z f) rfl rfl rfl
set_option maxRecDepth 100000 in
theorem bq160_13 (call : QC FA) (x1 : Int32) (x2 : Int32) (x3 : Int32) (x4 : Int32) (x5 : Int32) (z : Nat → Int32) (f : Nat → FA) (F : Nat) : rnG call 160 (F + 3) 29 [some (vR 0), some (vI x1), some (vI x2), some (vI x3), some (vI x4), some (vI x5)] [] (LM3 z f) = rnG call 160 F 32 [some (vR 0), some (vI x1), some (vI x2), some (vI x3), some (vI x4), some (vI x5)] [vI (z 11)] (LM3 z f) := rfl
set_option maxRecDepth 100000 in
theorem bq160_14 (call : QC FA) (x : Int32) (ls : List (Option PV)) (L : QH FA) (F : Nat) : rnG call 160 (F + 1) 32 ls [vI x] L = some (some (vI x), L) := rfl
set_option maxRecDepth 100000 in
theorem bq160_15 (call : QC FA) (x1 : Int32) (x2 : Int32) (x3 : Int32) (x4 : Int32) (x5 : Int32) (L : QH FA) (F : Nat) : rnG call 160 (F + 1) 7 [some (vR 0), some (vI x1), some (vI x2), some (vI x3), some (vI x4), some (vI x5)] [] L = rnG call 160 F 8 [some (vR 0), some (vI x1), some (vI x2), some (vI x3), some (vI x4), some (vI x5)] [vI ((-1))] L := rfl
set_option maxRecDepth 100000 in
theorem bq160_16 (call : QC FA) (x : Int32) (ls : List (Option PV)) (L : QH FA) (F : Nat) : rnG call 160 (F + 1) 8 ls [vI x] L = some (some (vI x), L) := rfl
theorem vcq160_0 (call : QC FA) (x1 : Int32) (x2 : Int32) (x3 : Int32) (x4 : Int32) (x5 : Int32) (z : Nat → Int32) (f : Nat → FA) (res : Option PV × QH FA) (H : ((I ((z 11) + 20) ≤ 400 → (∃ (z1 : Nat → Int32) (f1 : Nat → FA), call 136 [vR 1, vI x1] (LM3 z f) = some (none, LM3 z1 f1) ∧ (∃ (z2 : Nat → Int32) (f2 : Nat → FA), call 136 [vR 1, vI x2] (LM3 z1 f1) = some (none, LM3 z2 f2) ∧ (∃ (z3 : Nat → Int32) (f3 : Nat → FA), call 136 [vR 1, vI x3] (LM3 z2 f2) = some (none, LM3 z3 f3) ∧ (∃ (z4 : Nat → Int32) (f4 : Nat → FA), call 136 [vR 1, vI x4] (LM3 z3 f3) = some (none, LM3 z4 f4) ∧ (∃ (z5 : Nat → Int32) (f5 : Nat → FA), call 136 [vR 1, vI x5] (LM3 z4 f4) = some (none, LM3 z5 f5) ∧ res = (some (vI (z5 11)), LM3 z5 f5))))))) ∧ (400 < I ((z 11) + 20) → res = (some (vI ((-1))), LM3 z f)))) : RC call (mP 160) 0 [some (vR 0), some (vI x1), some (vI x2), some (vI x3), some (vI x4), some (vI x5)] [] (LM3 z f) res := by
  refine rc_b (i' := 6) (ls' := [some (vR 0), some (vI x1), some (vI x2), some (vI x3), some (vI x4), some (vI x5)]) (st' := [vI 400, vI ((z 11) + 20)]) (L' := LM3 z f) 6 (bq160_1 call x1 x2 x3 x4 x5 z f) ?_
  refine rc_if (it := 9) (ie := 7) (ls' := [some (vR 0), some (vI x1), some (vI x2), some (vI x3), some (vI x4), some (vI x5)]) (st' := []) (bq160_2 call ((z 11) + 20) 400 _ _) (fun q1 => ?_) (fun q1 => ?_)
  · have H := H.1 (cI5t q1 rfl rfl)
    refine rc_b (i' := 12) (ls' := [some (vR 0), some (vI x1), some (vI x2), some (vI x3), some (vI x4), some (vI x5)]) (st' := [vI x1, vR 1]) (L' := LM3 z f) 3 (bq160_3 call x1 x2 x3 x4 x5 z f) ?_
    obtain ⟨z1, f1, hc, H⟩ := H
    refine rc_call (t := 13) (ls' := [some (vR 0), some (vI x1), some (vI x2), some (vI x3), some (vI x4), some (vI x5)]) (st' := []) (bq160_4 call x1 _ z f) hc ?_
    show RC call (mP 160) 13 [some (vR 0), some (vI x1), some (vI x2), some (vI x3), some (vI x4), some (vI x5)] [] (LM3 z1 f1) res
    refine rc_b (i' := 16) (ls' := [some (vR 0), some (vI x1), some (vI x2), some (vI x3), some (vI x4), some (vI x5)]) (st' := [vI x2, vR 1]) (L' := LM3 z1 f1) 3 (bq160_5 call x1 x2 x3 x4 x5 z1 f1) ?_
    obtain ⟨z2, f2, hc, H⟩ := H
    refine rc_call (t := 17) (ls' := [some (vR 0), some (vI x1), some (vI x2), some (vI x3), some (vI x4), some (vI x5)]) (st' := []) (bq160_6 call x2 _ z1 f1) hc ?_
    show RC call (mP 160) 17 [some (vR 0), some (vI x1), some (vI x2), some (vI x3), some (vI x4), some (vI x5)] [] (LM3 z2 f2) res
    refine rc_b (i' := 20) (ls' := [some (vR 0), some (vI x1), some (vI x2), some (vI x3), some (vI x4), some (vI x5)]) (st' := [vI x3, vR 1]) (L' := LM3 z2 f2) 3 (bq160_7 call x1 x2 x3 x4 x5 z2 f2) ?_
    obtain ⟨z3, f3, hc, H⟩ := H
    refine rc_call (t := 21) (ls' := [some (vR 0), some (vI x1), some (vI x2), some (vI x3), some (vI x4), some (vI x5)]) (st' := []) (bq160_8 call x3 _ z2 f2) hc ?_
    show RC call (mP 160) 21 [some (vR 0), some (vI x1), some (vI x2), some (vI x3), some (vI x4), some (vI x5)] [] (LM3 z3 f3) res
    refine rc_b (i' := 24) (ls' := [some (vR 0), some (vI x1), some (vI x2), some (vI x3), some (vI x4), some (vI x5)]) (st' := [vI x4, vR 1]) (L' := LM3 z3 f3) 3 (bq160_9 call x1 x2 x3 x4 x5 z3 f3) ?_
    obtain ⟨z4, f4, hc, H⟩ := H
    refine rc_call (t := 25) (ls' := [some (vR 0), some (vI x1), some (vI x2), some (vI x3), some (vI x4), some (vI x5)]) (st' := []) (bq160_10 call x4 _ z3 f3) hc ?_
    show RC call (mP 160) 25 [some (vR 0), some (vI x1), some (vI x2), some (vI x3), some (vI x4), some (vI x5)] [] (LM3 z4 f4) res
    refine rc_b (i' := 28) (ls' := [some (vR 0), some (vI x1), some (vI x2), some (vI x3), some (vI x4), some (vI x5)]) (st' := [vI x5, vR 1]) (L' := LM3 z4 f4) 3 (bq160_11 call x1 x2 x3 x4 x5 z4 f4) ?_
    obtain ⟨z5, f5, hc, H⟩ := H
    refine rc_call (t := 29) (ls' := [some (vR 0), some (vI x1), some (vI x2), some (vI x3), some (vI x4), some (vI x5)]) (st' := []) (bq160_12 call x5 _ z4 f4) hc ?_
    show RC call (mP 160) 29 [some (vR 0), some (vI x1), some (vI x2), some (vI x3), some (vI x4), some (vI x5)] [] (LM3 z5 f5) res
    refine rc_b (i' := 32) (ls' := [some (vR 0), some (vI x1), some (vI x2), some (vI x3), some (vI x4), some (vI x5)]) (st' := [vI (z5 11)]) (L' := LM3 z5 f5) 3 (bq160_13 call x1 x2 x3 x4 x5 z5 f5) ?_
    subst H
    exact rc_ret (bq160_14 call _ _ _)
  · have H := H.2 (cI5f q1 rfl rfl)
    refine rc_b (i' := 8) (ls' := [some (vR 0), some (vI x1), some (vI x2), some (vI x3), some (vI x4), some (vI x5)]) (st' := [vI ((-1))]) (L' := LM3 z f) 1 (bq160_15 call x1 x2 x3 x4 x5 _) ?_
    subst H
    exact rc_ret (bq160_16 call _ _ _)
set_option maxRecDepth 100000 in
theorem bq158_1 (call : QC FA) (x1 : Int32) (L : QH FA) (F : Nat) : rnG call 158 (F + 1) 0 [some (vR 0), some (vI x1)] [] L = rnG call 158 F 1 [some (vR 0), some (vI x1)] [vI x1] L := rfl
set_option maxRecDepth 100000 in
theorem bq158_2 (call : QC FA) (x : Int32) (ls : List (Option PV)) (L : QH FA) (F : Nat) : rnG call 158 (F + 1) 1 ls [vI x] L = bif pcmp 2 x 0 then rnG call 158 F 7 ls [] L else rnG call 158 F 2 ls [] L := rfl
set_option maxRecDepth 100000 in
theorem bq158_3 (call : QC FA) (x1 : Int32) (L : QH FA) (F : Nat) : rnG call 158 (F + 1) 7 [some (vR 0), some (vI x1)] [] L = rnG call 158 F 8 [some (vR 0), some (vI x1)] [vI 0] L := rfl
set_option maxRecDepth 100000 in
theorem bq158_4 (call : QC FA) (ls : List (Option PV)) (L : QH FA) (F : Nat) : rnG call 158 (F + 1) 8 ls [vI 0] L = some (some (vI 0), L) := rfl
set_option maxRecDepth 100000 in
theorem bq158_5 (call : QC FA) (x1 : Int32) (z : Nat → Int32) (f : Nat → FA) (F : Nat) : rnG call 158 (F + 4) 2 [some (vR 0), some (vI x1)] [] (LM3 z f) = rnG call 158 F 6 [some (vR 0), some (vI x1)] [vI (z 11), vI x1] (LM3 z f) := rfl
set_option maxRecDepth 100000 in
theorem bq158_6 (call : QC FA) (x y : Int32) (ls : List (Option PV)) (L : QH FA) (F : Nat) : rnG call 158 (F + 1) 6 ls [vI y, vI x] L = bif pcmp 5 x y then rnG call 158 F 9 ls [] L else rnG call 158 F 7 ls [] L := rfl
set_option maxRecDepth 100000 in
theorem bq158_7 (call : QC FA) (x1 : Int32) (z : Nat → Int32) (f : Nat → FA) (F : Nat) : rnG call 158 (F + 3) 9 [some (vR 0), some (vI x1)] [] (LM3 z f) = rnG call 158 F 12 [some (vR 0), some (vI x1)] [vI x1, vR 1] (LM3 z f) := rfl
set_option maxRecDepth 100000 in
theorem bq158_8 (call : QC FA) (y : Int32) (ls : List (Option PV)) (z : Nat → Int32) (f : Nat → FA) (F : Nat) : rnG call 158 (F + 1) 12 ls [vI y, vR 1] (LM3 z f) = rnG call 158 F 13 ls [] (LM3 (uZ z 11 y) f) := rfl
set_option maxRecDepth 100000 in
theorem bq158_9 (call : QC FA) (x1 : Int32) (L : QH FA) (F : Nat) : rnG call 158 (F + 1) 13 [some (vR 0), some (vI x1)] [] L = rnG call 158 F 14 [some (vR 0), some (vI x1)] [vI 1] L := rfl
set_option maxRecDepth 100000 in
theorem bq158_10 (call : QC FA) (ls : List (Option PV)) (L : QH FA) (F : Nat) : rnG call 158 (F + 1) 14 ls [vI 1] L = some (some (vI 1), L) := rfl
theorem vcq158_0 (call : QC FA) (x1 : Int32) (z : Nat → Int32) (f : Nat → FA) (res : Option PV × QH FA) (H : ((I x1 < 0 → res = (some (vI 0), LM3 z f)) ∧ (0 ≤ I x1 → ((I x1 ≤ I (z 11) → res = (some (vI 1), LM3 (uZ z 11 x1) f)) ∧ (I (z 11) < I x1 → res = (some (vI 0), LM3 z f)))))) : RC call (mP 158) 0 [some (vR 0), some (vI x1)] [] (LM3 z f) res := by
  refine rc_b (i' := 1) (ls' := [some (vR 0), some (vI x1)]) (st' := [vI x1]) (L' := LM3 z f) 1 (bq158_1 call x1 _) ?_
  refine rc_if (it := 7) (ie := 2) (ls' := [some (vR 0), some (vI x1)]) (st' := []) (bq158_2 call x1 _ _) (fun q1 => ?_) (fun q1 => ?_)
  · have H := H.1 (cI2t q1 rfl rfl)
    refine rc_b (i' := 8) (ls' := [some (vR 0), some (vI x1)]) (st' := [vI 0]) (L' := LM3 z f) 1 (bq158_3 call x1 _) ?_
    subst H
    exact rc_ret (bq158_4 call _ _)
  · have H := H.2 (cI2f q1 rfl rfl)
    refine rc_b (i' := 6) (ls' := [some (vR 0), some (vI x1)]) (st' := [vI (z 11), vI x1]) (L' := LM3 z f) 4 (bq158_5 call x1 z f) ?_
    refine rc_if (it := 9) (ie := 7) (ls' := [some (vR 0), some (vI x1)]) (st' := []) (bq158_6 call x1 (z 11) _ _) (fun q2 => ?_) (fun q2 => ?_)
    · have H := H.1 (cI5t q2 rfl rfl)
      refine rc_b (i' := 12) (ls' := [some (vR 0), some (vI x1)]) (st' := [vI x1, vR 1]) (L' := LM3 z f) 3 (bq158_7 call x1 z f) ?_
      refine rc_b (i' := 13) (ls' := [some (vR 0), some (vI x1)]) (st' := []) (L' := LM3 (uZ z 11 x1) f) 1 (bq158_8 call x1 _ z f) ?_
      refine rc_b (i' := 14) (ls' := [some (vR 0), some (vI x1)]) (st' := [vI 1]) (L' := LM3 (uZ z 11 x1) f) 1 (bq158_9 call x1 _) ?_
      subst H
      exact rc_ret (bq158_10 call _ _)
    · have H := H.2 (cI5f q2 rfl rfl)
      refine rc_b (i' := 8) (ls' := [some (vR 0), some (vI x1)]) (st' := [vI 0]) (L' := LM3 z f) 1 (bq158_3 call x1 _) ?_
      subst H
      exact rc_ret (bq158_4 call _ _)
set_option maxRecDepth 100000 in
theorem bq159_1 (call : QC FA) (x1 : Int32) (L : QH FA) (F : Nat) : rnG call 159 (F + 1) 0 [some (vR 0), some (vI x1)] [] L = rnG call 159 F 1 [some (vR 0), some (vI x1)] [vI x1] L := rfl
set_option maxRecDepth 100000 in
theorem bq159_2 (call : QC FA) (x : Int32) (ls : List (Option PV)) (L : QH FA) (F : Nat) : rnG call 159 (F + 1) 1 ls [vI x] L = bif pcmp 1 x 0 then rnG call 159 F 6 ls [] L else rnG call 159 F 2 ls [] L := rfl
set_option maxRecDepth 100000 in
theorem bq159_3 (call : QC FA) (x1 : Int32) (L : QH FA) (F : Nat) : rnG call 159 (F + 2) 6 [some (vR 0), some (vI x1)] [] L = rnG call 159 F 8 [some (vR 0), some (vI x1)] [vI 1, vI x1] L := rfl
set_option maxRecDepth 100000 in
theorem bq159_4 (call : QC FA) (x y : Int32) (ls : List (Option PV)) (L : QH FA) (F : Nat) : rnG call 159 (F + 1) 8 ls [vI y, vI x] L = bif pcmp 1 x y then rnG call 159 F 13 ls [] L else rnG call 159 F 9 ls [] L := rfl
set_option maxRecDepth 100000 in
theorem bq159_5 (call : QC FA) (x1 : Int32) (L : QH FA) (F : Nat) : rnG call 159 (F + 1) 13 [some (vR 0), some (vI x1)] [] L = rnG call 159 F 14 [some (vR 0), some (vI x1)] [vI ((-1))] L := rfl
set_option maxRecDepth 100000 in
theorem bq159_6 (call : QC FA) (x : Int32) (ls : List (Option PV)) (L : QH FA) (F : Nat) : rnG call 159 (F + 1) 14 ls [vI x] L = some (some (vI x), L) := rfl
set_option maxRecDepth 100000 in
theorem bq159_7 (call : QC FA) (x1 : Int32) (z : Nat → Int32) (f : Nat → FA) (F : Nat) : rnG call 159 (F + 4) 9 [some (vR 0), some (vI x1)] [] (LM3 z f) = rnG call 159 F 14 [some (vR 0), some (vI x1)] [vI (z 18)] (LM3 z f) := rfl
set_option maxRecDepth 100000 in
theorem bq159_8 (call : QC FA) (x1 : Int32) (z : Nat → Int32) (f : Nat → FA) (F : Nat) : rnG call 159 (F + 3) 2 [some (vR 0), some (vI x1)] [] (LM3 z f) = rnG call 159 F 5 [some (vR 0), some (vI x1)] [vI (z 17)] (LM3 z f) := rfl
set_option maxRecDepth 100000 in
theorem bq159_9 (call : QC FA) (x : Int32) (ls : List (Option PV)) (L : QH FA) (F : Nat) : rnG call 159 (F + 1) 5 ls [vI x] L = some (some (vI x), L) := rfl
theorem vcq159_0 (call : QC FA) (x1 : Int32) (z : Nat → Int32) (f : Nat → FA) (res : Option PV × QH FA) (H : ((¬ x1 = 0 → ((¬ x1 = 1 → res = (some (vI ((-1))), LM3 z f)) ∧ (x1 = 1 → res = (some (vI (z 18)), LM3 z f)))) ∧ (x1 = 0 → res = (some (vI (z 17)), LM3 z f)))) : RC call (mP 159) 0 [some (vR 0), some (vI x1)] [] (LM3 z f) res := by
  refine rc_b (i' := 1) (ls' := [some (vR 0), some (vI x1)]) (st' := [vI x1]) (L' := LM3 z f) 1 (bq159_1 call x1 _) ?_
  refine rc_if (it := 6) (ie := 2) (ls' := [some (vR 0), some (vI x1)]) (st' := []) (bq159_2 call x1 _ _) (fun q1 => ?_) (fun q1 => ?_)
  · have H := H.1 (cI1t q1)
    refine rc_b (i' := 8) (ls' := [some (vR 0), some (vI x1)]) (st' := [vI 1, vI x1]) (L' := LM3 z f) 2 (bq159_3 call x1 _) ?_
    refine rc_if (it := 13) (ie := 9) (ls' := [some (vR 0), some (vI x1)]) (st' := []) (bq159_4 call x1 1 _ _) (fun q2 => ?_) (fun q2 => ?_)
    · have H := H.1 (cI1t q2)
      refine rc_b (i' := 14) (ls' := [some (vR 0), some (vI x1)]) (st' := [vI ((-1))]) (L' := LM3 z f) 1 (bq159_5 call x1 _) ?_
      subst H
      exact rc_ret (bq159_6 call _ _ _)
    · have H := H.2 (cI1f q2)
      refine rc_b (i' := 14) (ls' := [some (vR 0), some (vI x1)]) (st' := [vI (z 18)]) (L' := LM3 z f) 4 (bq159_7 call x1 z f) ?_
      subst H
      exact rc_ret (bq159_6 call _ _ _)
  · have H := H.2 (cI1f q1)
    refine rc_b (i' := 5) (ls' := [some (vR 0), some (vI x1)]) (st' := [vI (z 17)]) (L' := LM3 z f) 3 (bq159_8 call x1 z f) ?_
    subst H
    exact rc_ret (bq159_9 call _ _ _)
set_option maxRecDepth 100000 in
theorem b282_1 (call : QC FA) (x1 : Int32) (o2 : Option PV) (L : QH FA) (F : Nat) : rnG call 282 (F + 2) 0 [some (vR 0), some (vI x1), o2] [] L = rnG call 282 F 2 [some (vR 0), some (vI x1), some (vI 24)] [] L := rfl
theorem vc282_0 (d : Nat) (x1 : Int32) (o2 : Option PV) (z : Nat → Int32) (f : Nat → FA) (res : Option PV × QH FA) (H : RC (mcall (d + 5)) (mP 282) 2 [some (vR 0), some (vI x1), some (vI 24)] [] (LR z f) res) : RC (mcall (d + 5)) (mP 282) 0 [some (vR 0), some (vI x1), o2] [] (LR z f) res := by
  refine rc_b (i' := 2) (ls' := [some (vR 0), some (vI x1), some (vI 24)]) (st' := []) (L' := LR z f) 2 (b282_1 (mcall (d + 5)) x1 o2 _) ?_
  exact H
set_option maxRecDepth 100000 in
theorem bc2_282_1 (call : QC FA) (x1 : Int32) (x2 : Int32) (L : QH FA) (F : Nat) : rnG call 282 (F + 1) 2 [some (vR 0), some (vI x1), some (vI x2)] [] L = rnG call 282 F 3 [some (vR 0), some (vI x1), some (vI x2)] [vI x2] L := rfl
set_option maxRecDepth 100000 in
theorem bc2_282_2 (call : QC FA) (x : Int32) (ls : List (Option PV)) (L : QH FA) (F : Nat) : rnG call 282 (F + 1) 3 ls [vI x] L = bif pcmp 2 x 0 then rnG call 282 F 22 ls [] L else rnG call 282 F 4 ls [] L := rfl
set_option maxRecDepth 100000 in
theorem bc2_282_3 (call : QC FA) (ls : List (Option PV)) (L : QH FA) (F : Nat) : rnG call 282 (F + 1) 22 ls [] L = some (none, L) := rfl
set_option maxRecDepth 100000 in
theorem bc2_282_4 (call : QC FA) (x1 : Int32) (x2 : Int32) (z : Nat → Int32) (f : Nat → FA) (F : Nat) : rnG call 282 (F + 9) 4 [some (vR 0), some (vI x1), some (vI x2)] [] (LR z f) = rnG call 282 F 13 [some (vR 0), some (vI x1), some (vI x2)] [vI ((x1 >>> (x2 &&& 31)) &&& 255), vI (z 12), vR 8] (LR z f) := rfl
set_option maxRecDepth 100000 in
theorem bc2_282_5 (call : QC FA) (x y : Int32) (ls : List (Option PV)) (z : Nat → Int32) (f : Nat → FA) (F : Nat) : rnG call 282 (F + 1) 13 ls [vI y, vI x, vR 8] (LR z f) = bif (Nat.beq 0 0 && pin x 400) then rnG call 282 F 14 ls [] (LR z (uA f 8 (upd (f 8) (ix x) y))) else none := rfl
set_option maxRecDepth 100000 in
theorem bc2_282_6 (call : QC FA) (x1 : Int32) (x2 : Int32) (z : Nat → Int32) (f : Nat → FA) (F : Nat) : rnG call 282 (F + 5) 14 [some (vR 0), some (vI x1), some (vI x2)] [] (LR z f) = rnG call 282 F 19 [some (vR 0), some (vI x1), some (vI x2)] [vI ((z 12) + 1), vR 0] (LR z f) := rfl
set_option maxRecDepth 100000 in
theorem bc2_282_7 (call : QC FA) (y : Int32) (ls : List (Option PV)) (z : Nat → Int32) (f : Nat → FA) (F : Nat) : rnG call 282 (F + 1) 19 ls [vI y, vR 0] (LR z f) = rnG call 282 F 20 ls [] (LR (uZ z 12 y) f) := rfl
theorem bc2_282_8i (ih : QK FA) (t : Nat) (v x : Int32) (l0 l1 : Option PV) (st : List PV) (L : QH FA) : p_iinc ih fzF 2 v t [l0, l1, some (vI x)] st L = ih t [l0, l1, some (vI (x + v))] st L := rfl
set_option maxRecDepth 100000 in
theorem bc2_282_8 (call : QC FA) (x1 : Int32) (x2 : Int32) (L : QH FA) (F : Nat) : rnG call 282 (F + 1) 20 [some (vR 0), some (vI x1), some (vI x2)] [] L = rnG call 282 F 21 [some (vR 0), some (vI x1), some (vI (x2 + (-8)))] [] L := bc2_282_8i (rnG call 282 F) 21 (-8) x2 _ _ _ _
set_option maxRecDepth 100000 in
theorem bc2_282_9 (call : QC FA) (x1 : Int32) (x2 : Int32) (L : QH FA) (F : Nat) : rnG call 282 (F + 1) 21 [some (vR 0), some (vI x1), some (vI x2)] [] L = rnG call 282 F 2 [some (vR 0), some (vI x1), some (vI x2)] [] L := rfl
theorem vcc2_282_2 (d : Nat) (x1 : Int32) (x2 : Int32) (z : Nat → Int32) (f : Nat → FA) (res : Option PV × QH FA) (H : ((I x2 < 0 → res = (none, LR z f)) ∧ (0 ≤ I x2 → (pin (z 12) 400 = true ∧ RC (mcall (d + 5)) (mP 282) 2 [some (vR 0), some (vI x1), some (vI (x2 + (-8)))] [] (LR (uZ z 12 ((z 12) + 1)) (uA f 8 (upd (f 8) (ix (z 12)) ((x1 >>> (x2 &&& 31)) &&& 255)))) res)))) : RC (mcall (d + 5)) (mP 282) 2 [some (vR 0), some (vI x1), some (vI x2)] [] (LR z f) res := by
  refine rc_b (i' := 3) (ls' := [some (vR 0), some (vI x1), some (vI x2)]) (st' := [vI x2]) (L' := LR z f) 1 (bc2_282_1 (mcall (d + 5)) x1 x2 _) ?_
  refine rc_if (it := 22) (ie := 4) (ls' := [some (vR 0), some (vI x1), some (vI x2)]) (st' := []) (bc2_282_2 (mcall (d + 5)) x2 _ _) (fun q1 => ?_) (fun q1 => ?_)
  · have H := H.1 (cI2t q1 rfl rfl)
    subst H
    exact rc_ret (bc2_282_3 (mcall (d + 5)) _ _)
  · have H := H.2 (cI2f q1 rfl rfl)
    refine rc_b (i' := 13) (ls' := [some (vR 0), some (vI x1), some (vI x2)]) (st' := [vI ((x1 >>> (x2 &&& 31)) &&& 255), vI (z 12), vR 8]) (L' := LR z f) 9 (bc2_282_4 (mcall (d + 5)) x1 x2 z f) ?_
    obtain ⟨g1, H⟩ := H
    refine rc_g (i' := 14) (ls' := [some (vR 0), some (vI x1), some (vI x2)]) (st' := []) (L' := LR z (uA f 8 (upd (f 8) (ix (z 12)) ((x1 >>> (x2 &&& 31)) &&& 255)))) (bc2_282_5 (mcall (d + 5)) (z 12) ((x1 >>> (x2 &&& 31)) &&& 255) _ z f) (pinG g1) ?_
    refine rc_b (i' := 19) (ls' := [some (vR 0), some (vI x1), some (vI x2)]) (st' := [vI ((z 12) + 1), vR 0]) (L' := LR z (uA f 8 (upd (f 8) (ix (z 12)) ((x1 >>> (x2 &&& 31)) &&& 255)))) 5 (bc2_282_6 (mcall (d + 5)) x1 x2 z (uA f 8 (upd (f 8) (ix (z 12)) ((x1 >>> (x2 &&& 31)) &&& 255)))) ?_
    refine rc_b (i' := 20) (ls' := [some (vR 0), some (vI x1), some (vI x2)]) (st' := []) (L' := LR (uZ z 12 ((z 12) + 1)) (uA f 8 (upd (f 8) (ix (z 12)) ((x1 >>> (x2 &&& 31)) &&& 255)))) 1 (bc2_282_7 (mcall (d + 5)) ((z 12) + 1) _ z (uA f 8 (upd (f 8) (ix (z 12)) ((x1 >>> (x2 &&& 31)) &&& 255)))) ?_
    refine rc_b (i' := 21) (ls' := [some (vR 0), some (vI x1), some (vI (x2 + (-8)))]) (st' := []) (L' := LR (uZ z 12 ((z 12) + 1)) (uA f 8 (upd (f 8) (ix (z 12)) ((x1 >>> (x2 &&& 31)) &&& 255)))) 1 (bc2_282_8 (mcall (d + 5)) x1 x2 _) ?_
    refine rc_b (i' := 2) (ls' := [some (vR 0), some (vI x1), some (vI (x2 + (-8)))]) (st' := []) (L' := LR (uZ z 12 ((z 12) + 1)) (uA f 8 (upd (f 8) (ix (z 12)) ((x1 >>> (x2 &&& 31)) &&& 255)))) 1 (bc2_282_9 (mcall (d + 5)) x1 (x2 + (-8)) _) ?_
    exact H
set_option maxRecDepth 100000 in
theorem b211_1 (call : QC FA) (x1 : Int32) (x2 : Int32) (x3 : Int32) (x4 : Int32) (x5 : Int32) (L : QH FA) (F : Nat) : rnG call 211 (F + 2) 0 [some (vR 0), some (vI x1), some (vI x2), some (vI x3), some (vI x4), some (vI x5)] [] L = rnG call 211 F 2 [some (vR 0), some (vI x1), some (vI x2), some (vI x3), some (vI x4), some (vI x5)] [vI 0, vR 0] L := rfl
set_option maxRecDepth 100000 in
theorem b211_2 (call : QC FA) (y : Int32) (ls : List (Option PV)) (z : Nat → Int32) (f : Nat → FA) (F : Nat) : rnG call 211 (F + 1) 2 ls [vI y, vR 0] (LR z f) = rnG call 211 F 3 ls [] (LR (uZ z 0 y) f) := rfl
set_option maxRecDepth 100000 in
theorem b211_3 (call : QC FA) (x1 : Int32) (x2 : Int32) (x3 : Int32) (x4 : Int32) (x5 : Int32) (z : Nat → Int32) (f : Nat → FA) (F : Nat) : rnG call 211 (F + 3) 3 [some (vR 0), some (vI x1), some (vI x2), some (vI x3), some (vI x4), some (vI x5)] [] (LR z f) = rnG call 211 F 6 [some (vR 0), some (vI x1), some (vI x2), some (vI x3), some (vI x4), some (vI x5)] [vI 380, vI (z 12)] (LR z f) := rfl
set_option maxRecDepth 100000 in
theorem b211_4 (call : QC FA) (x y : Int32) (ls : List (Option PV)) (L : QH FA) (F : Nat) : rnG call 211 (F + 1) 6 ls [vI y, vI x] L = bif pcmp 5 x y then rnG call 211 F 9 ls [] L else rnG call 211 F 7 ls [] L := rfl
set_option maxRecDepth 100000 in
theorem b211_5 (call : QC FA) (x1 : Int32) (x2 : Int32) (x3 : Int32) (x4 : Int32) (x5 : Int32) (L : QH FA) (F : Nat) : rnG call 211 (F + 2) 9 [some (vR 0), some (vI x1), some (vI x2), some (vI x3), some (vI x4), some (vI x5)] [] L = rnG call 211 F 11 [some (vR 0), some (vI x1), some (vI x2), some (vI x3), some (vI x4), some (vI x5)] [vI x1, vR 0] L := rfl
set_option maxRecDepth 100000 in
theorem b211_6 (call : QC FA) (a0 : Int32) (ls : List (Option PV)) (z : Nat → Int32) (f : Nat → FA) (F : Nat) : rnG call 211 (F + 1) 11 ls [vI a0, vR 0] (LR z f) = cbd (call 282 [vR 0, vI a0] (LR z f)) (fun r L' => rnG call 211 F 12 ls (r.toList ++ []) L') := pcY (ih := rnG call 211 F) (call := call) (a := 282) (b := 1) (v := 12) (t := 12) (x := 0) (ls := ls) (As := [vI a0]) (st' := []) (L := LR z f) rfl rfl rfl
set_option maxRecDepth 100000 in
theorem b211_7 (call : QC FA) (x1 : Int32) (x2 : Int32) (x3 : Int32) (x4 : Int32) (x5 : Int32) (L : QH FA) (F : Nat) : rnG call 211 (F + 2) 12 [some (vR 0), some (vI x1), some (vI x2), some (vI x3), some (vI x4), some (vI x5)] [] L = rnG call 211 F 14 [some (vR 0), some (vI x1), some (vI x2), some (vI x3), some (vI x4), some (vI x5)] [vI x2, vR 0] L := rfl
set_option maxRecDepth 100000 in
theorem b211_8 (call : QC FA) (a0 : Int32) (ls : List (Option PV)) (z : Nat → Int32) (f : Nat → FA) (F : Nat) : rnG call 211 (F + 1) 14 ls [vI a0, vR 0] (LR z f) = cbd (call 282 [vR 0, vI a0] (LR z f)) (fun r L' => rnG call 211 F 15 ls (r.toList ++ []) L') := pcY (ih := rnG call 211 F) (call := call) (a := 282) (b := 1) (v := 12) (t := 15) (x := 0) (ls := ls) (As := [vI a0]) (st' := []) (L := LR z f) rfl rfl rfl
set_option maxRecDepth 100000 in
theorem b211_9 (call : QC FA) (x1 : Int32) (x2 : Int32) (x3 : Int32) (x4 : Int32) (x5 : Int32) (L : QH FA) (F : Nat) : rnG call 211 (F + 2) 15 [some (vR 0), some (vI x1), some (vI x2), some (vI x3), some (vI x4), some (vI x5)] [] L = rnG call 211 F 17 [some (vR 0), some (vI x1), some (vI x2), some (vI x3), some (vI x4), some (vI x5)] [vI x3, vR 0] L := rfl
set_option maxRecDepth 100000 in
theorem b211_10 (call : QC FA) (a0 : Int32) (ls : List (Option PV)) (z : Nat → Int32) (f : Nat → FA) (F : Nat) : rnG call 211 (F + 1) 17 ls [vI a0, vR 0] (LR z f) = cbd (call 282 [vR 0, vI a0] (LR z f)) (fun r L' => rnG call 211 F 18 ls (r.toList ++ []) L') := pcY (ih := rnG call 211 F) (call := call) (a := 282) (b := 1) (v := 12) (t := 18) (x := 0) (ls := ls) (As := [vI a0]) (st' := []) (L := LR z f) rfl rfl rfl
set_option maxRecDepth 100000 in
theorem b211_11 (call : QC FA) (x1 : Int32) (x2 : Int32) (x3 : Int32) (x4 : Int32) (x5 : Int32) (L : QH FA) (F : Nat) : rnG call 211 (F + 2) 18 [some (vR 0), some (vI x1), some (vI x2), some (vI x3), some (vI x4), some (vI x5)] [] L = rnG call 211 F 20 [some (vR 0), some (vI x1), some (vI x2), some (vI x3), some (vI x4), some (vI x5)] [vI x4, vR 0] L := rfl
set_option maxRecDepth 100000 in
theorem b211_12 (call : QC FA) (a0 : Int32) (ls : List (Option PV)) (z : Nat → Int32) (f : Nat → FA) (F : Nat) : rnG call 211 (F + 1) 20 ls [vI a0, vR 0] (LR z f) = cbd (call 282 [vR 0, vI a0] (LR z f)) (fun r L' => rnG call 211 F 21 ls (r.toList ++ []) L') := pcY (ih := rnG call 211 F) (call := call) (a := 282) (b := 1) (v := 12) (t := 21) (x := 0) (ls := ls) (As := [vI a0]) (st' := []) (L := LR z f) rfl rfl rfl
set_option maxRecDepth 100000 in
theorem b211_13 (call : QC FA) (x1 : Int32) (x2 : Int32) (x3 : Int32) (x4 : Int32) (x5 : Int32) (L : QH FA) (F : Nat) : rnG call 211 (F + 2) 21 [some (vR 0), some (vI x1), some (vI x2), some (vI x3), some (vI x4), some (vI x5)] [] L = rnG call 211 F 23 [some (vR 0), some (vI x1), some (vI x2), some (vI x3), some (vI x4), some (vI x5)] [vI x5, vR 0] L := rfl
set_option maxRecDepth 100000 in
theorem b211_14 (call : QC FA) (a0 : Int32) (ls : List (Option PV)) (z : Nat → Int32) (f : Nat → FA) (F : Nat) : rnG call 211 (F + 1) 23 ls [vI a0, vR 0] (LR z f) = cbd (call 282 [vR 0, vI a0] (LR z f)) (fun r L' => rnG call 211 F 24 ls (r.toList ++ []) L') := pcY (ih := rnG call 211 F) (call := call) (a := 282) (b := 1) (v := 12) (t := 24) (x := 0) (ls := ls) (As := [vI a0]) (st' := []) (L := LR z f) rfl rfl rfl
set_option maxRecDepth 100000 in
theorem b211_15 (call : QC FA) (x1 : Int32) (x2 : Int32) (x3 : Int32) (x4 : Int32) (x5 : Int32) (z : Nat → Int32) (f : Nat → FA) (F : Nat) : rnG call 211 (F + 2) 24 [some (vR 0), some (vI x1), some (vI x2), some (vI x3), some (vI x4), some (vI x5)] [] (LR z f) = rnG call 211 F 26 [some (vR 0), some (vI x1), some (vI x2), some (vI x3), some (vI x4), some (vI x5)] [vI (z 12)] (LR z f) := rfl
set_option maxRecDepth 100000 in
theorem b211_16 (call : QC FA) (x : Int32) (ls : List (Option PV)) (L : QH FA) (F : Nat) : rnG call 211 (F + 1) 26 ls [vI x] L = some (some (vI x), L) := rfl
set_option maxRecDepth 100000 in
theorem b211_17 (call : QC FA) (x1 : Int32) (x2 : Int32) (x3 : Int32) (x4 : Int32) (x5 : Int32) (L : QH FA) (F : Nat) : rnG call 211 (F + 1) 7 [some (vR 0), some (vI x1), some (vI x2), some (vI x3), some (vI x4), some (vI x5)] [] L = rnG call 211 F 8 [some (vR 0), some (vI x1), some (vI x2), some (vI x3), some (vI x4), some (vI x5)] [vI ((-1))] L := rfl
set_option maxRecDepth 100000 in
theorem b211_18 (call : QC FA) (x : Int32) (ls : List (Option PV)) (L : QH FA) (F : Nat) : rnG call 211 (F + 1) 8 ls [vI x] L = some (some (vI x), L) := rfl
theorem vc211_0 (d : Nat) (x1 : Int32) (x2 : Int32) (x3 : Int32) (x4 : Int32) (x5 : Int32) (z : Nat → Int32) (f : Nat → FA) (res : Option PV × QH FA) (H : ((I (z 12) ≤ 380 → (∃ (z1 : Nat → Int32) (f1 : Nat → FA), (mcall (d + 5)) 282 [vR 0, vI x1] (LR (uZ z 0 0) f) = some (none, LR z1 f1) ∧ (∃ (z2 : Nat → Int32) (f2 : Nat → FA), (mcall (d + 5)) 282 [vR 0, vI x2] (LR z1 f1) = some (none, LR z2 f2) ∧ (∃ (z3 : Nat → Int32) (f3 : Nat → FA), (mcall (d + 5)) 282 [vR 0, vI x3] (LR z2 f2) = some (none, LR z3 f3) ∧ (∃ (z4 : Nat → Int32) (f4 : Nat → FA), (mcall (d + 5)) 282 [vR 0, vI x4] (LR z3 f3) = some (none, LR z4 f4) ∧ (∃ (z5 : Nat → Int32) (f5 : Nat → FA), (mcall (d + 5)) 282 [vR 0, vI x5] (LR z4 f4) = some (none, LR z5 f5) ∧ res = (some (vI (z5 12)), LR z5 f5))))))) ∧ (380 < I (z 12) → res = (some (vI ((-1))), LR (uZ z 0 0) f)))) : RC (mcall (d + 5)) (mP 211) 0 [some (vR 0), some (vI x1), some (vI x2), some (vI x3), some (vI x4), some (vI x5)] [] (LR z f) res := by
  refine rc_b (i' := 2) (ls' := [some (vR 0), some (vI x1), some (vI x2), some (vI x3), some (vI x4), some (vI x5)]) (st' := [vI 0, vR 0]) (L' := LR z f) 2 (b211_1 (mcall (d + 5)) x1 x2 x3 x4 x5 _) ?_
  refine rc_b (i' := 3) (ls' := [some (vR 0), some (vI x1), some (vI x2), some (vI x3), some (vI x4), some (vI x5)]) (st' := []) (L' := LR (uZ z 0 0) f) 1 (b211_2 (mcall (d + 5)) 0 _ z f) ?_
  refine rc_b (i' := 6) (ls' := [some (vR 0), some (vI x1), some (vI x2), some (vI x3), some (vI x4), some (vI x5)]) (st' := [vI 380, vI (z 12)]) (L' := LR (uZ z 0 0) f) 3 (b211_3 (mcall (d + 5)) x1 x2 x3 x4 x5 (uZ z 0 0) f) ?_
  refine rc_if (it := 9) (ie := 7) (ls' := [some (vR 0), some (vI x1), some (vI x2), some (vI x3), some (vI x4), some (vI x5)]) (st' := []) (b211_4 (mcall (d + 5)) (z 12) 380 _ _) (fun q1 => ?_) (fun q1 => ?_)
  · have H := H.1 (cI5t q1 rfl rfl)
    refine rc_b (i' := 11) (ls' := [some (vR 0), some (vI x1), some (vI x2), some (vI x3), some (vI x4), some (vI x5)]) (st' := [vI x1, vR 0]) (L' := LR (uZ z 0 0) f) 2 (b211_5 (mcall (d + 5)) x1 x2 x3 x4 x5 _) ?_
    obtain ⟨z1, f1, hc, H⟩ := H
    refine rc_call (t := 12) (ls' := [some (vR 0), some (vI x1), some (vI x2), some (vI x3), some (vI x4), some (vI x5)]) (st' := []) (b211_6 (mcall (d + 5)) x1 _ (uZ z 0 0) f) hc ?_
    show RC (mcall (d + 5)) (mP 211) 12 [some (vR 0), some (vI x1), some (vI x2), some (vI x3), some (vI x4), some (vI x5)] [] (LR z1 f1) res
    refine rc_b (i' := 14) (ls' := [some (vR 0), some (vI x1), some (vI x2), some (vI x3), some (vI x4), some (vI x5)]) (st' := [vI x2, vR 0]) (L' := LR z1 f1) 2 (b211_7 (mcall (d + 5)) x1 x2 x3 x4 x5 _) ?_
    obtain ⟨z2, f2, hc, H⟩ := H
    refine rc_call (t := 15) (ls' := [some (vR 0), some (vI x1), some (vI x2), some (vI x3), some (vI x4), some (vI x5)]) (st' := []) (b211_8 (mcall (d + 5)) x2 _ z1 f1) hc ?_
    show RC (mcall (d + 5)) (mP 211) 15 [some (vR 0), some (vI x1), some (vI x2), some (vI x3), some (vI x4), some (vI x5)] [] (LR z2 f2) res
    refine rc_b (i' := 17) (ls' := [some (vR 0), some (vI x1), some (vI x2), some (vI x3), some (vI x4), some (vI x5)]) (st' := [vI x3, vR 0]) (L' := LR z2 f2) 2 (b211_9 (mcall (d + 5)) x1 x2 x3 x4 x5 _) ?_
    obtain ⟨z3, f3, hc, H⟩ := H
    refine rc_call (t := 18) (ls' := [some (vR 0), some (vI x1), some (vI x2), some (vI x3), some (vI x4), some (vI x5)]) (st' := []) (b211_10 (mcall (d + 5)) x3 _ z2 f2) hc ?_
    show RC (mcall (d + 5)) (mP 211) 18 [some (vR 0), some (vI x1), some (vI x2), some (vI x3), some (vI x4), some (vI x5)] [] (LR z3 f3) res
    refine rc_b (i' := 20) (ls' := [some (vR 0), some (vI x1), some (vI x2), some (vI x3), some (vI x4), some (vI x5)]) (st' := [vI x4, vR 0]) (L' := LR z3 f3) 2 (b211_11 (mcall (d + 5)) x1 x2 x3 x4 x5 _) ?_
    obtain ⟨z4, f4, hc, H⟩ := H
    refine rc_call (t := 21) (ls' := [some (vR 0), some (vI x1), some (vI x2), some (vI x3), some (vI x4), some (vI x5)]) (st' := []) (b211_12 (mcall (d + 5)) x4 _ z3 f3) hc ?_
    show RC (mcall (d + 5)) (mP 211) 21 [some (vR 0), some (vI x1), some (vI x2), some (vI x3), some (vI x4), some (vI x5)] [] (LR z4 f4) res
    refine rc_b (i' := 23) (ls' := [some (vR 0), some (vI x1), some (vI x2), some (vI x3), some (vI x4), some (vI x5)]) (st' := [vI x5, vR 0]) (L' := LR z4 f4) 2 (b211_13 (mcall (d + 5)) x1 x2 x3 x4 x5 _) ?_
    obtain ⟨z5, f5, hc, H⟩ := H
    refine rc_call (t := 24) (ls' := [some (vR 0), some (vI x1), some (vI x2), some (vI x3), some (vI x4), some (vI x5)]) (st' := []) (b211_14 (mcall (d + 5)) x5 _ z4 f4) hc ?_
    show RC (mcall (d + 5)) (mP 211) 24 [some (vR 0), some (vI x1), some (vI x2), some (vI x3), some (vI x4), some (vI x5)] [] (LR z5 f5) res
    refine rc_b (i' := 26) (ls' := [some (vR 0), some (vI x1), some (vI x2), some (vI x3), some (vI x4), some (vI x5)]) (st' := [vI (z5 12)]) (L' := LR z5 f5) 2 (b211_15 (mcall (d + 5)) x1 x2 x3 x4 x5 z5 f5) ?_
    subst H
    exact rc_ret (b211_16 (mcall (d + 5)) _ _ _)
  · have H := H.2 (cI5f q1 rfl rfl)
    refine rc_b (i' := 8) (ls' := [some (vR 0), some (vI x1), some (vI x2), some (vI x3), some (vI x4), some (vI x5)]) (st' := [vI ((-1))]) (L' := LR (uZ z 0 0) f) 1 (b211_17 (mcall (d + 5)) x1 x2 x3 x4 x5 _) ?_
    subst H
    exact rc_ret (b211_18 (mcall (d + 5)) _ _ _)
set_option maxRecDepth 100000 in
theorem b206_1 (call : QC FA) (x1 : Int32) (L : QH FA) (F : Nat) : rnG call 206 (F + 2) 0 [some (vR 0), some (vI x1)] [] L = rnG call 206 F 2 [some (vR 0), some (vI x1)] [vI 0, vR 0] L := rfl
set_option maxRecDepth 100000 in
theorem b206_2 (call : QC FA) (y : Int32) (ls : List (Option PV)) (z : Nat → Int32) (f : Nat → FA) (F : Nat) : rnG call 206 (F + 1) 2 ls [vI y, vR 0] (LR z f) = rnG call 206 F 3 ls [] (LR (uZ z 0 y) f) := rfl
set_option maxRecDepth 100000 in
theorem b206_3 (call : QC FA) (x1 : Int32) (z : Nat → Int32) (f : Nat → FA) (F : Nat) : rnG call 206 (F + 5) 3 [some (vR 0), some (vI x1)] [] (LR z f) = rnG call 206 F 8 [some (vR 0), some (vI x1)] [vI (z 12), vI 0, vI x1, vR 0] (LR z f) := rfl
set_option maxRecDepth 100000 in
theorem b206_4 (call : QC FA) (a0 : Int32) (a1 : Int32) (a2 : Int32) (ls : List (Option PV)) (z : Nat → Int32) (f : Nat → FA) (F : Nat) : rnG call 206 (F + 1) 8 ls [vI a2, vI a1, vI a0, vR 0] (LR z f) = cbd (call 47 [vR 0, vI a0, vI a1, vI a2] (LR z f)) (fun r L' => rnG call 206 F 9 ls (r.toList ++ []) L') := pcY (ih := rnG call 206 F) (call := call) (a := 47) (b := 3) (v := 12) (t := 9) (x := 0) (ls := ls) (As := [vI a0, vI a1, vI a2]) (st' := []) (L := LR z f) rfl rfl rfl
set_option maxRecDepth 100000 in
theorem b206_5 (call : QC FA) (x : Int32) (ls : List (Option PV)) (L : QH FA) (F : Nat) : rnG call 206 (F + 1) 9 ls [vI x] L = bif pcmp 1 x 0 then rnG call 206 F 12 ls [] L else rnG call 206 F 10 ls [] L := rfl
set_option maxRecDepth 100000 in
theorem b206_6 (call : QC FA) (x1 : Int32) (L : QH FA) (F : Nat) : rnG call 206 (F + 2) 12 [some (vR 0), some (vI x1)] [] L = rnG call 206 F 14 [some (vR 0), some (vI x1)] [vI x1, vR 0] L := rfl
set_option maxRecDepth 100000 in
theorem b206_7 (call : QC FA) (y : Int32) (ls : List (Option PV)) (z : Nat → Int32) (f : Nat → FA) (F : Nat) : rnG call 206 (F + 1) 14 ls [vI y, vR 0] (LR z f) = rnG call 206 F 15 ls [] (LR (uZ z 12 y) f) := rfl
set_option maxRecDepth 100000 in
theorem b206_8 (call : QC FA) (x1 : Int32) (L : QH FA) (F : Nat) : rnG call 206 (F + 1) 15 [some (vR 0), some (vI x1)] [] L = rnG call 206 F 16 [some (vR 0), some (vI x1)] [vI 1] L := rfl
set_option maxRecDepth 100000 in
theorem b206_9 (call : QC FA) (ls : List (Option PV)) (L : QH FA) (F : Nat) : rnG call 206 (F + 1) 16 ls [vI 1] L = some (some (vI 1), L) := rfl
set_option maxRecDepth 100000 in
theorem b206_10 (call : QC FA) (x1 : Int32) (L : QH FA) (F : Nat) : rnG call 206 (F + 1) 10 [some (vR 0), some (vI x1)] [] L = rnG call 206 F 11 [some (vR 0), some (vI x1)] [vI 0] L := rfl
set_option maxRecDepth 100000 in
theorem b206_11 (call : QC FA) (ls : List (Option PV)) (L : QH FA) (F : Nat) : rnG call 206 (F + 1) 11 ls [vI 0] L = some (some (vI 0), L) := rfl
theorem vc206_0 (d : Nat) (x1 : Int32) (z : Nat → Int32) (f : Nat → FA) (res : Option PV × QH FA) (H : (((0 ≤ I x1 ∧ I x1 ≤ I (z 12)) → res = (some (vI 1), LR (uZ (uZ z 0 0) 12 x1) f)) ∧ ((¬ (0 ≤ I x1 ∧ I x1 ≤ I (z 12))) → res = (some (vI 0), LR (uZ z 0 0) f)))) : RC (mcall (d + 5)) (mP 206) 0 [some (vR 0), some (vI x1)] [] (LR z f) res := by
  refine rc_b (i' := 2) (ls' := [some (vR 0), some (vI x1)]) (st' := [vI 0, vR 0]) (L' := LR z f) 2 (b206_1 (mcall (d + 5)) x1 _) ?_
  refine rc_b (i' := 3) (ls' := [some (vR 0), some (vI x1)]) (st' := []) (L' := LR (uZ z 0 0) f) 1 (b206_2 (mcall (d + 5)) 0 _ z f) ?_
  refine rc_b (i' := 8) (ls' := [some (vR 0), some (vI x1)]) (st' := [vI (z 12), vI 0, vI x1, vR 0]) (L' := LR (uZ z 0 0) f) 5 (b206_3 (mcall (d + 5)) x1 (uZ z 0 0) f) ?_
  refine rc_call (t := 9) (ls' := [some (vR 0), some (vI x1)]) (st' := []) (b206_4 (mcall (d + 5)) x1 0 (z 12) _ (uZ z 0 0) f) (isIn_r _ x1 0 (z 12) (uZ z 0 0) f) ?_
  show RC (mcall (d + 5)) (mP 206) 9 [some (vR 0), some (vI x1)] [vI (bI (0 ≤ I x1 ∧ I x1 ≤ I (z 12)))] (LR (uZ z 0 0) f) res
  refine rc_bn (it := 12) (ie := 10) (ls' := [some (vR 0), some (vI x1)]) (st' := []) (b206_5 (mcall (d + 5)) (bI (0 ≤ I x1 ∧ I x1 ≤ I (z 12))) _ _) (fun q1 => ?_) (fun q1 => ?_)
  · have H := H.1 q1
    refine rc_b (i' := 14) (ls' := [some (vR 0), some (vI x1)]) (st' := [vI x1, vR 0]) (L' := LR (uZ z 0 0) f) 2 (b206_6 (mcall (d + 5)) x1 _) ?_
    refine rc_b (i' := 15) (ls' := [some (vR 0), some (vI x1)]) (st' := []) (L' := LR (uZ (uZ z 0 0) 12 x1) f) 1 (b206_7 (mcall (d + 5)) x1 _ (uZ z 0 0) f) ?_
    refine rc_b (i' := 16) (ls' := [some (vR 0), some (vI x1)]) (st' := [vI 1]) (L' := LR (uZ (uZ z 0 0) 12 x1) f) 1 (b206_8 (mcall (d + 5)) x1 _) ?_
    subst H
    exact rc_ret (b206_9 (mcall (d + 5)) _ _)
  · have H := H.2 q1
    refine rc_b (i' := 11) (ls' := [some (vR 0), some (vI x1)]) (st' := [vI 0]) (L' := LR (uZ z 0 0) f) 1 (b206_10 (mcall (d + 5)) x1 _) ?_
    subst H
    exact rc_ret (b206_11 (mcall (d + 5)) _ _)
set_option maxRecDepth 100000 in
theorem b210_1 (call : QC FA) (x1 : Int32) (L : QH FA) (F : Nat) : rnG call 210 (F + 2) 0 [some (vR 0), some (vI x1)] [] L = rnG call 210 F 2 [some (vR 0), some (vI x1)] [vI 0, vR 0] L := rfl
set_option maxRecDepth 100000 in
theorem b210_2 (call : QC FA) (y : Int32) (ls : List (Option PV)) (z : Nat → Int32) (f : Nat → FA) (F : Nat) : rnG call 210 (F + 1) 2 ls [vI y, vR 0] (LR z f) = rnG call 210 F 3 ls [] (LR (uZ z 0 y) f) := rfl
set_option maxRecDepth 100000 in
theorem b210_3 (call : QC FA) (x1 : Int32) (L : QH FA) (F : Nat) : rnG call 210 (F + 1) 3 [some (vR 0), some (vI x1)] [] L = rnG call 210 F 4 [some (vR 0), some (vI x1)] [vI x1] L := rfl
set_option maxRecDepth 100000 in
theorem b210_4 (call : QC FA) (x : Int32) (ls : List (Option PV)) (L : QH FA) (F : Nat) : rnG call 210 (F + 1) 4 ls [vI x] L = bif pcmp 1 x 0 then rnG call 210 F 8 ls [] L else rnG call 210 F 5 ls [] L := rfl
set_option maxRecDepth 100000 in
theorem b210_5 (call : QC FA) (x1 : Int32) (L : QH FA) (F : Nat) : rnG call 210 (F + 2) 8 [some (vR 0), some (vI x1)] [] L = rnG call 210 F 10 [some (vR 0), some (vI x1)] [vI 1, vI x1] L := rfl
set_option maxRecDepth 100000 in
theorem b210_6 (call : QC FA) (x y : Int32) (ls : List (Option PV)) (L : QH FA) (F : Nat) : rnG call 210 (F + 1) 10 ls [vI y, vI x] L = bif pcmp 1 x y then rnG call 210 F 14 ls [] L else rnG call 210 F 11 ls [] L := rfl
set_option maxRecDepth 100000 in
theorem b210_7 (call : QC FA) (x1 : Int32) (L : QH FA) (F : Nat) : rnG call 210 (F + 1) 14 [some (vR 0), some (vI x1)] [] L = rnG call 210 F 15 [some (vR 0), some (vI x1)] [vI ((-1))] L := rfl
set_option maxRecDepth 100000 in
theorem b210_8 (call : QC FA) (x : Int32) (ls : List (Option PV)) (L : QH FA) (F : Nat) : rnG call 210 (F + 1) 15 ls [vI x] L = some (some (vI x), L) := rfl
set_option maxRecDepth 100000 in
theorem b210_9 (call : QC FA) (x1 : Int32) (z : Nat → Int32) (f : Nat → FA) (F : Nat) : rnG call 210 (F + 3) 11 [some (vR 0), some (vI x1)] [] (LR z f) = rnG call 210 F 15 [some (vR 0), some (vI x1)] [vI (z 33)] (LR z f) := rfl
set_option maxRecDepth 100000 in
theorem b210_10 (call : QC FA) (x1 : Int32) (z : Nat → Int32) (f : Nat → FA) (F : Nat) : rnG call 210 (F + 3) 5 [some (vR 0), some (vI x1)] [] (LR z f) = rnG call 210 F 15 [some (vR 0), some (vI x1)] [vI (z 32)] (LR z f) := rfl
theorem vc210_0 (d : Nat) (x1 : Int32) (z : Nat → Int32) (f : Nat → FA) (res : Option PV × QH FA) (H : ((¬ x1 = 0 → ((¬ x1 = 1 → res = (some (vI ((-1))), LR (uZ z 0 0) f)) ∧ (x1 = 1 → res = (some (vI (z 33)), LR (uZ z 0 0) f)))) ∧ (x1 = 0 → res = (some (vI (z 32)), LR (uZ z 0 0) f)))) : RC (mcall (d + 5)) (mP 210) 0 [some (vR 0), some (vI x1)] [] (LR z f) res := by
  refine rc_b (i' := 2) (ls' := [some (vR 0), some (vI x1)]) (st' := [vI 0, vR 0]) (L' := LR z f) 2 (b210_1 (mcall (d + 5)) x1 _) ?_
  refine rc_b (i' := 3) (ls' := [some (vR 0), some (vI x1)]) (st' := []) (L' := LR (uZ z 0 0) f) 1 (b210_2 (mcall (d + 5)) 0 _ z f) ?_
  refine rc_b (i' := 4) (ls' := [some (vR 0), some (vI x1)]) (st' := [vI x1]) (L' := LR (uZ z 0 0) f) 1 (b210_3 (mcall (d + 5)) x1 _) ?_
  refine rc_if (it := 8) (ie := 5) (ls' := [some (vR 0), some (vI x1)]) (st' := []) (b210_4 (mcall (d + 5)) x1 _ _) (fun q1 => ?_) (fun q1 => ?_)
  · have H := H.1 (cI1t q1)
    refine rc_b (i' := 10) (ls' := [some (vR 0), some (vI x1)]) (st' := [vI 1, vI x1]) (L' := LR (uZ z 0 0) f) 2 (b210_5 (mcall (d + 5)) x1 _) ?_
    refine rc_if (it := 14) (ie := 11) (ls' := [some (vR 0), some (vI x1)]) (st' := []) (b210_6 (mcall (d + 5)) x1 1 _ _) (fun q2 => ?_) (fun q2 => ?_)
    · have H := H.1 (cI1t q2)
      refine rc_b (i' := 15) (ls' := [some (vR 0), some (vI x1)]) (st' := [vI ((-1))]) (L' := LR (uZ z 0 0) f) 1 (b210_7 (mcall (d + 5)) x1 _) ?_
      subst H
      exact rc_ret (b210_8 (mcall (d + 5)) _ _ _)
    · have H := H.2 (cI1f q2)
      refine rc_b (i' := 15) (ls' := [some (vR 0), some (vI x1)]) (st' := [vI (z 33)]) (L' := LR (uZ z 0 0) f) 3 (b210_9 (mcall (d + 5)) x1 (uZ z 0 0) f) ?_
      subst H
      exact rc_ret (b210_8 (mcall (d + 5)) _ _ _)
  · have H := H.2 (cI1f q1)
    refine rc_b (i' := 15) (ls' := [some (vR 0), some (vI x1)]) (st' := [vI (z 32)]) (L' := LR (uZ z 0 0) f) 3 (b210_10 (mcall (d + 5)) x1 (uZ z 0 0) f) ?_
    subst H
    exact rc_ret (b210_8 (mcall (d + 5)) _ _ _)
/-- one of the four bytes -/
def tkb (x : Int32) (s : Nat) : Int32 := (x >>> (nI s &&& 31)) &&& 255
def tkw (t : FA) (n : Nat) (x : Int32) : FA := upd (upd (upd (upd t n (tkb x 24)) (n + 1) (tkb x 16)) (n + 2) (tkb x 8)) (n + 3) (tkb x 0)
theorem rTake (d : Nat) {n : Nat} (hn : n + 4 ≤ 400) (x : Int32) {z : Nat → Int32} {f : Nat → FA} (hz : z 12 = nI n) : mcall (d + 6) 282 [vR 0, vI x] (LR z f) = some (none, LR (uZ z 12 (nI (n + 4))) (uA f 8 (tkw (f 8) n x))) := by
  have st : ∀ (m s : Nat) (z : Nat → Int32) (f : Nat → FA) (res : Option PV × QH FA), s ≤ 24 → m < 400 → z 12 = nI m → RC (mcall (d + 5)) (mP 282) 2 [some (vR 0), some (vI x), some (vI (nI s + (-8)))] [] (LR (uZ z 12 (nI (m + 1))) (uA f 8 (upd (f 8) m (tkb x s)))) res → RC (mcall (d + 5)) (mP 282) 2 [some (vR 0), some (vI x), some (vI (nI s))] [] (LR z f) res := fun m s z f res hs hm h k => by
    refine vcc2_282_2 d x (nI s) z f res ⟨fun q => ?_, fun _ => ⟨by rw [h]; exact pin_nI hm (by omega), ?_⟩⟩
    · rw [I_nI (by omega)] at q
      omega
    · rw [h, ix_nI (by omega), show nI m + 1 = nI (m + 1) from nI_add m 1]
      exact k
  refine mcall_i (mq282 (cu := [])).2.2 rfl (vc282_0 d x none z f _ ?_)
  refine st n 24 z f _ (by decide) (by omega) hz ?_
  refine st (n + 1) 16 _ _ _ (by decide) (by omega) uZ_s ?_
  rw [uZ_uZ, uA_self, uA_uA]
  refine st (n + 2) 8 _ _ _ (by decide) (by omega) uZ_s ?_
  rw [uZ_uZ, uA_self, uA_uA]
  refine st (n + 3) 0 _ _ _ (by decide) (by omega) uZ_s ?_
  rw [uZ_uZ, uA_self, uA_uA]
  exact vcc2_282_2 d x _ _ _ _ ⟨fun _ => rfl, fun q => absurd q (by decide)⟩
