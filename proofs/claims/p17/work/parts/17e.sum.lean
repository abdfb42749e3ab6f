/-! units, products, sums, compared: what is put is well formed -/
/-- the reader's state: tape t, slack p, codes from i on n many, depth d, token from a on -/
def CS (t p i n d a : Nat) (z : Nat → Int32) (f : Nat → FA) : Prop := f 9 132 = 32 ∧ t ≤ 400 ∧ z 12 = nI t ∧ z 14 = nI a ∧ z 26 = nI (i + n) ∧ i + n + p ≤ a ∧ (∃ s, z 13 = nI s ∧ s ≤ t ∧ ((z 15 = 0 ∧ s = a) ∨ (¬ z 15 = 0 ∧ a < s))) ∧ DP (sh 800 (f 15)) (sh 800 (f 16)) i n = some d
def ST0 (z : Nat → Int32) : Prop := ∃ s a c, z 13 = nI s ∧ z 14 = nI a ∧ z 26 = nI c ∧ s ≤ 400 ∧ a ≤ 400 ∧ c ≤ 400
theorem CS.st0 {t p i n d a : Nat} {z : Nat → Int32} {f : Nat → FA} (h : CS t p i n d a z f) : ST0 z := by
  obtain ⟨-, h1, -, h2, h3, h4, ⟨s, h5, h6, h7⟩, -⟩ := h
  exact ⟨s, a, i + n, h5, h2, h3, by omega, by omega, by omega⟩
theorem CS.a_le {t p i n d a : Nat} {z : Nat → Int32} {f : Nat → FA} (h : CS t p i n d a z f) : a ≤ t := by
  obtain ⟨-, h1, -, h2, h3, h4, ⟨s, h5, h6, h7⟩, -⟩ := h
  omega
theorem CS.weak {t p q i n d a : Nat} {z : Nat → Int32} {f : Nat → FA} (h : CS t p i n d a z f) (hq : q ≤ p) : CS t q i n d a z f := by
  obtain ⟨h0, h1, h2, h3, h4, h5, h6, h7⟩ := h
  exact ⟨h0, h1, h2, h3, h4, by omega, h6, h7⟩
def FRc (b : Nat) (z : Nat → Int32) (f : Nat → FA) (z' : Nat → Int32) (f' : Nat → FA) : Prop := (∀ j, j ≠ 13 → j ≠ 14 → j ≠ 15 → j ≠ 16 → j ≠ 26 → j ≠ 30 → j ≠ 31 → z' j = z j) ∧ (∀ k, k ≠ 15 → k ≠ 16 → f' k = f k) ∧ (∀ j, j < b → f' 15 j = f 15 j ∧ f' 16 j = f 16 j)
theorem FRc.refl {b : Nat} {z : Nat → Int32} {f : Nat → FA} : FRc b z f z f := ⟨fun _ _ _ _ _ _ _ _ => rfl, fun _ _ _ => rfl, fun _ _ => ⟨rfl, rfl⟩⟩
theorem FRc.trans {b c : Nat} {z z1 z2 : Nat → Int32} {f f1 f2 : Nat → FA} (h1 : FRc b z f z1 f1) (h2 : FRc c z1 f1 z2 f2) (hb : b ≤ c) : FRc b z f z2 f2 := by
  obtain ⟨a1, a2, a3⟩ := h1
  obtain ⟨b1, b2, b3⟩ := h2
  refine ⟨fun j q1 q2 q3 q4 q5 q6 q7 => (b1 j q1 q2 q3 q4 q5 q6 q7).trans (a1 j q1 q2 q3 q4 q5 q6 q7), fun k q1 q2 => (b2 k q1 q2).trans (a2 k q1 q2), fun j hj => ?_⟩
  obtain ⟨c1, c2⟩ := b3 j (by omega)
  obtain ⟨d1, d2⟩ := a3 j hj
  exact ⟨c1.trans d1, c2.trans d2⟩
theorem FRc.rd {b : Nat} {z z' : Nat → Int32} {f : Nat → FA} (h : RDZ z z') : FRc b z f z' f := ⟨fun j q1 q2 q3 q4 _ _ _ => h j q1 q2 q3 q4, fun _ _ _ => rfl, fun _ _ => ⟨rfl, rfl⟩⟩
theorem FRc.er {b : Nat} {z : Nat → Int32} {f : Nat → FA} {x y : Int32} : FRc b z f (uZ (uZ z 30 x) 31 y) f := ⟨fun j _ _ _ _ _ q6 q7 => by rw [uZ_n q7, uZ_n q6], fun _ _ _ => rfl, fun _ _ => ⟨rfl, rfl⟩⟩
theorem FRc.em {c : Nat} {z : Nat → Int32} {f : Nat → FA} {w v x : Int32} : FRc (800 + c) z f (uZ z 26 x) (uA (uA f 15 (upd (f 15) (800 + c) w)) 16 (upd (f 16) (800 + c) v)) := ⟨fun j _ _ _ _ q5 _ _ => uZ_n q5, fun k q1 q2 => by rw [uA_ne q2, uA_ne q1], fun j hj => ⟨by
    rw [uA_ne (by decide), uA_self, pk_un (by omega)], by
    rw [uA_self, pk_un (by omega)]⟩⟩
/-- what a code may be put upon -/
def COK (o a : FA) (c n : Nat) (w v : Int32) (d e : Nat) : Prop := (w = 0 ∧ e = d + 1) ∨ (w = 1 ∧ ix v < 10 ∧ e = d + 1) ∨ (w = 9 ∧ 1 ≤ d ∧ e = d) ∨ (w ≠ 0 ∧ w ≠ 1 ∧ w ≠ 9 ∧ 2 ≤ d ∧ e = d - 1 ∧ (w = 5 → 0 < n ∧ o (800 + c - 1) = 0 ∧ ¬ a (800 + c - 1) = 0))
theorem DP_em {o a : FA} {i n d e : Nat} {w v : Int32} (h : DP (sh 800 o) (sh 800 a) i n = some d) (hc : COK o a (i + n) n w v d e) : DP (sh 800 (upd o (800 + (i + n)) w)) (sh 800 (upd a (800 + (i + n)) v)) i (n + 1) = some e := by
  show (DP (sh 800 (upd o (800 + (i + n)) w)) (sh 800 (upd a (800 + (i + n)) v)) i n).bind _ = _
  rw [DP_eq (o := sh 800 o) (a := sh 800 a) n (fun j h1 h2 => by
    unfold sh
    exact ⟨pk_un (by omega), pk_un (by omega)⟩), h]
  show stpC _ _ i (i + n) d = some e
  have e1 : sh 800 (upd o (800 + (i + n)) w) (i + n) = w := by unfold sh; exact pk_us
  have e2 : sh 800 (upd a (800 + (i + n)) v) (i + n) = v := by unfold sh; exact pk_us
  unfold stpC
  rw [e1, e2]
  rcases hc with ⟨rfl, rfl⟩ | ⟨rfl, h1, rfl⟩ | ⟨rfl, h1, rfl⟩ | ⟨h0, h1, h9, h2, rfl, h5⟩
  · rw [if_pos rfl]
  · rw [if_neg (by decide), if_pos rfl, if_pos h1]
  · rw [if_neg (by decide), if_neg (by decide), if_pos rfl, if_pos h1]
  · have key : w = 5 → i < i + n ∧ sh 800 (upd o (800 + (i + n)) w) (i + n - 1) = 0 ∧ ¬ sh 800 (upd a (800 + (i + n)) v) (i + n - 1) = 0 := by
      intro q
      obtain ⟨q1, q2, q3⟩ := h5 q
      unfold sh
      rw [show 800 + (i + n - 1) = 800 + (i + n) - 1 by omega, pk_un (by omega), pk_un (by omega)]
      exact ⟨by omega, q2, q3⟩
    rw [if_neg h0, if_neg h1, if_neg h9, if_pos ⟨h2, key⟩]
/-- reads, where a token is left behind -/
theorem rd_c (d0 : Nat) {t p i n d a : Nat} {z : Nat → Int32} {f : Nat → FA} (h : CS t p i n d a z f) (h15 : ¬ z 15 = 0) : ∃ z' a', mcall (d0 + 3) 269 [vR 0] (LR z f) = some (none, LR z' f) ∧ CS t (p + 1) i n d a' z' f ∧ a < a' ∧ RDZ z z' := by
  obtain ⟨h0, h1, h2, h3, h4, h5, ⟨s, s1, s2, s3⟩, h7⟩ := h
  have s4 : a < s := by
    rcases s3 with q | q
    · exact absurd q.1 h15
    · exact q.2
  obtain ⟨z', g1, g2, a', e, g3, g4, g5, g6, g7⟩ := reads_r d0 t s z f h0 h1 (by omega) h2 s1
  have k12 := g2 12 (by decide) (by decide) (by decide) (by decide)
  have k26 := g2 26 (by decide) (by decide) (by decide) (by decide)
  exact ⟨z', a', g1, ⟨h0, h1, k12.trans h2, g3, k26.trans h4, by omega, ⟨e, g4, by omega, g7⟩, h7⟩, by omega, g2⟩
/-- emits with slack -/
theorem em_c (d0 : Nat) {t p i n d a e : Nat} {z : Nat → Int32} {f : Nat → FA} (w v : Int32) (h : CS t (p + 1) i n d a z f) (hc : COK (f 15) (f 16) (i + n) n w v d e) : ∃ z' f', mcall (d0 + 1) 205 [vR 0, vI w, vI v] (LR z f) = some (none, LR z' f') ∧ CS t p i (n + 1) e a z' f' ∧ FRc (800 + (i + n)) z f z' f' ∧ ∀ j, j ≠ 26 → z' j = z j := by
  have hal := h.a_le
  obtain ⟨h0, h1, h2, h3, h4, h5, ⟨s, s1, s2, s3⟩, h7⟩ := h
  refine ⟨_, _, emits_r d0 w v z f (i + n) h4 (by omega), ⟨h0, h1, ?_, ?_, ?_, by omega, ⟨s, ?_, s2, ?_⟩, ?_⟩, FRc.em, fun j hj => uZ_n hj⟩
  · rw [uZ_n (by decide)]; exact h2
  · rw [uZ_n (by decide)]; exact h3
  · rw [uZ_s, Nat.add_assoc]
  · rw [uZ_n (by decide)]; exact s1
  · rw [uZ_n (by decide)]; exact s3
  · rw [uA_ne (by decide), uA_self, uA_self]
    exact DP_em h7 hc
/-- emits, then reads: a unit -/
theorem er_c (d0 : Nat) {t p i n d a e : Nat} {z : Nat → Int32} {f : Nat → FA} (w v : Int32) (h : CS t p i n d a z f) (h15 : ¬ z 15 = 0) (hc : COK (f 15) (f 16) (i + n) n w v d e) : ∃ z1 f1 z2 a', mcall (d0 + 3) 205 [vR 0, vI w, vI v] (LR z f) = some (none, LR z1 f1) ∧ mcall (d0 + 3) 269 [vR 0] (LR z1 f1) = some (none, LR z2 f1) ∧ CS t p i (n + 1) e a' z2 f1 ∧ a ≤ a' ∧ FRc (800 + (i + n)) z f z2 f1 ∧ f1 15 (800 + (i + n)) = w ∧ f1 16 (800 + (i + n)) = v := by
  obtain ⟨h0, h1, h2, h3, h4, h5, ⟨s, s1, s2, s3⟩, h7⟩ := h
  have s4 : a < s := by
    rcases s3 with q | q
    · exact absurd q.1 h15
    · exact q.2
  have hem := emits_r (d0 + 2) w v z f (i + n) h4 (by omega)
  obtain ⟨z', g1, g2, a', e', g3, g4, g5, g6, g7⟩ := reads_r d0 t s (uZ z 26 (nI (i + n + 1))) (uA (uA f 15 (upd (f 15) (800 + (i + n)) w)) 16 (upd (f 16) (800 + (i + n)) v)) h0 h1 (by omega) (by rw [uZ_n (by decide)]; exact h2) (by rw [uZ_n (by decide)]; exact s1)
  have k12 := g2 12 (by decide) (by decide) (by decide) (by decide)
  have k26 := g2 26 (by decide) (by decide) (by decide) (by decide)
  rw [uZ_n (by decide)] at k12
  rw [uZ_s] at k26
  refine ⟨_, _, z', a', hem, g1, ⟨h0, h1, k12.trans h2, g3, by rw [k26, Nat.add_assoc], by omega, ⟨e', g4, by omega, g7⟩, ?_⟩, by omega, FRc.em.trans (FRc.rd (b := 800 + (i + n)) g2) (Nat.le_refl _), ?_, ?_⟩
  · rw [uA_ne (by decide), uA_self, uA_self]
    exact DP_em h7 hc
  · rw [uA_ne (by decide), uA_self]; exact pk_us
  · rw [uA_self]; exact pk_us
/-- what a reader comes to -/
def RS (t p i n e a : Nat) (z : Nat → Int32) (f : Nat → FA) (r : Int32) (z' : Nat → Int32) (f' : Nat → FA) : Prop := FRc (800 + (i + n)) z f z' f' ∧ ((r = -1 ∧ ST0 z') ∨ (r = 0 ∧ ∃ n' a', n ≤ n' ∧ a ≤ a' ∧ CS t p i n' e a' z' f'))
theorem RS.er {t p i n d e a : Nat} {z : Nat → Int32} {f : Nat → FA} {x y : Int32} (h : CS t p i n d a z f) : RS t p i n e a z f (-1) (uZ (uZ z 30 x) 31 y) f := by
  refine ⟨FRc.er, Or.inl ⟨rfl, ?_⟩⟩
  obtain ⟨s, a, c, h1, h2, h3, h4⟩ := h.st0
  exact ⟨s, a, c, by rw [uZ_n (by decide), uZ_n (by decide)]; exact h1, by rw [uZ_n (by decide), uZ_n (by decide)]; exact h2, by rw [uZ_n (by decide), uZ_n (by decide)]; exact h3, h4⟩
theorem RS.pre {t p q i n m e a b : Nat} {z z1 z' : Nat → Int32} {f f1 f' : Nat → FA} {r : Int32} (h : FRc (800 + (i + n)) z f z1 f1) (hn : n ≤ m) (hb : a ≤ b) (hq : p ≤ q) (h2 : RS t q i m e b z1 f1 r z' f') : RS t p i n e a z f r z' f' := by
  obtain ⟨h3, h4⟩ := h2
  refine ⟨h.trans h3 (by omega), ?_⟩
  rcases h4 with h4 | ⟨h4, n', a', h5, h6, h7⟩
  · exact Or.inl h4
  · exact Or.inr ⟨h4, n', a', by omega, by omega, h7.weak hq⟩
theorem m1n : ¬ (0 : Int32) = -1 := by decide
set_option maxRecDepth 100000 in
theorem b266_1 (call : QC FA) (o1 : Option PV) (z : Nat → Int32) (f : Nat → FA) (F : Nat) : rnG call 266 (F + 3) 0 [some (vR 0), o1] [] (LR z f) = rnG call 266 F 3 [some (vR 0), o1] [vI 2, vI (z 15)] (LR z f) := rfl
set_option maxRecDepth 100000 in
theorem b266_2 (call : QC FA) (x y : Int32) (ls : List (Option PV)) (L : QH FA) (F : Nat) : rnG call 266 (F + 1) 3 ls [vI y, vI x] L = bif pcmp 1 x y then rnG call 266 F 11 ls [] L else rnG call 266 F 4 ls [] L := rfl
set_option maxRecDepth 100000 in
theorem b266_3 (call : QC FA) (o1 : Option PV) (L : QH FA) (F : Nat) : rnG call 266 (F + 3) 11 [some (vR 0), o1] [] L = rnG call 266 F 14 [some (vR 0), some (vI 0)] [vI 0] L := rfl
set_option maxRecDepth 100000 in
theorem b266_4 (call : QC FA) (x : Int32) (ls : List (Option PV)) (L : QH FA) (F : Nat) : rnG call 266 (F + 1) 14 ls [vI x] L = bif pcmp 1 x 0 then rnG call 266 F 23 ls [] L else rnG call 266 F 15 ls [] L := rfl
set_option maxRecDepth 100000 in
theorem b266_5 (call : QC FA) (x1 : Int32) (z : Nat → Int32) (f : Nat → FA) (F : Nat) : rnG call 266 (F + 3) 15 [some (vR 0), some (vI x1)] [] (LR z f) = rnG call 266 F 18 [some (vR 0), some (vI x1)] [vI 3, vI (z 15)] (LR z f) := rfl
set_option maxRecDepth 100000 in
theorem b266_6 (call : QC FA) (x y : Int32) (ls : List (Option PV)) (L : QH FA) (F : Nat) : rnG call 266 (F + 1) 18 ls [vI y, vI x] L = bif pcmp 0 x y then rnG call 266 F 23 ls [] L else rnG call 266 F 19 ls [] L := rfl
set_option maxRecDepth 100000 in
theorem b266_7 (call : QC FA) (x1 : Int32) (L : QH FA) (F : Nat) : rnG call 266 (F + 2) 23 [some (vR 0), some (vI x1)] [] L = rnG call 266 F 25 [some (vR 0), some (vI x1)] [vI x1, vR 0] L := rfl
set_option maxRecDepth 100000 in
theorem b266_8 (call : QC FA) (x : Int32) (ls : List (Option PV)) (L : QH FA) (F : Nat) : rnG call 266 (F + 1) 25 ls [vI x, vR 0] L = bif pcmp 0 x 0 then rnG call 266 F 28 ls [vR 0] L else rnG call 266 F 26 ls [vR 0] L := rfl
set_option maxRecDepth 100000 in
theorem b266_9 (call : QC FA) (x1 : Int32) (L : QH FA) (F : Nat) : rnG call 266 (F + 2) 28 [some (vR 0), some (vI x1)] [vR 0] L = rnG call 266 F 30 [some (vR 0), some (vI x1)] [vI x1, vI 0, vR 0] L := rfl
set_option maxRecDepth 100000 in
theorem b266_10 (call : QC FA) (x : Int32) (s0 : Int32) (ls : List (Option PV)) (L : QH FA) (F : Nat) : rnG call 266 (F + 1) 30 ls [vI x, vI s0, vR 0] L = bif pcmp 0 x 0 then rnG call 266 F 36 ls [vI s0, vR 0] L else rnG call 266 F 31 ls [vI s0, vR 0] L := rfl
set_option maxRecDepth 100000 in
theorem b266_11 (call : QC FA) (x1 : Int32) (s0 : Int32) (z : Nat → Int32) (f : Nat → FA) (F : Nat) : rnG call 266 (F + 2) 36 [some (vR 0), some (vI x1)] [vI s0, vR 0] (LR z f) = rnG call 266 F 38 [some (vR 0), some (vI x1)] [vI (z 16), vI s0, vR 0] (LR z f) := rfl
set_option maxRecDepth 100000 in
theorem b266_12 (call : QC FA) (a0 : Int32) (a1 : Int32) (ls : List (Option PV)) (z : Nat → Int32) (f : Nat → FA) (F : Nat) : rnG call 266 (F + 1) 38 ls [vI a1, vI a0, vR 0] (LR z f) = cbd (call 205 [vR 0, vI a0, vI a1] (LR z f)) (fun r L' => rnG call 266 F 39 ls (r.toList ++ []) L') := pcY (ih := rnG call 266 F) (call := call) (a := 205) (b := 2) (v := 12) (t := 39) (x := 0) (ls := ls) (As := [vI a0, vI a1]) (st' := []) (L := LR z f) rfl rfl rfl
set_option maxRecDepth 100000 in
theorem b266_13 (call : QC FA) (x1 : Int32) (L : QH FA) (F : Nat) : rnG call 266 (F + 1) 39 [some (vR 0), some (vI x1)] [] L = rnG call 266 F 40 [some (vR 0), some (vI x1)] [vR 0] L := rfl
set_option maxRecDepth 100000 in
theorem b266_14 (call : QC FA) (ls : List (Option PV)) (z : Nat → Int32) (f : Nat → FA) (F : Nat) : rnG call 266 (F + 1) 40 ls [vR 0] (LR z f) = cbd (call 269 [vR 0] (LR z f)) (fun r L' => rnG call 266 F 41 ls (r.toList ++ []) L') := pcY (ih := rnG call 266 F) (call := call) (a := 269) (b := 0) (v := 12) (t := 41) (x := 0) (ls := ls) (As := []) (st' := []) (L := LR z f) rfl rfl rfl
set_option maxRecDepth 100000 in
theorem b266_15 (call : QC FA) (x1 : Int32) (L : QH FA) (F : Nat) : rnG call 266 (F + 1) 41 [some (vR 0), some (vI x1)] [] L = rnG call 266 F 42 [some (vR 0), some (vI x1)] [vI 0] L := rfl
set_option maxRecDepth 100000 in
theorem b266_16 (call : QC FA) (x : Int32) (ls : List (Option PV)) (L : QH FA) (F : Nat) : rnG call 266 (F + 1) 42 ls [vI x] L = some (some (vI x), L) := rfl
set_option maxRecDepth 100000 in
theorem b266_17 (call : QC FA) (x1 : Int32) (L : QH FA) (F : Nat) : rnG call 266 (F + 2) 19 [some (vR 0), some (vI x1)] [] L = rnG call 266 F 21 [some (vR 0), some (vI x1)] [vI 1, vR 0] L := rfl
set_option maxRecDepth 100000 in
theorem b266_18 (call : QC FA) (a0 : Int32) (ls : List (Option PV)) (z : Nat → Int32) (f : Nat → FA) (F : Nat) : rnG call 266 (F + 1) 21 ls [vI a0, vR 0] (LR z f) = cbd (call 208 [vR 0, vI a0] (LR z f)) (fun r L' => rnG call 266 F 22 ls (r.toList ++ []) L') := pcY (ih := rnG call 266 F) (call := call) (a := 208) (b := 1) (v := 12) (t := 22) (x := 0) (ls := ls) (As := [vI a0]) (st' := []) (L := LR z f) rfl rfl rfl
set_option maxRecDepth 100000 in
theorem b266_19 (call : QC FA) (x : Int32) (ls : List (Option PV)) (L : QH FA) (F : Nat) : rnG call 266 (F + 1) 22 ls [vI x] L = some (some (vI x), L) := rfl
set_option maxRecDepth 100000 in
theorem b266_20 (call : QC FA) (o1 : Option PV) (z : Nat → Int32) (f : Nat → FA) (F : Nat) : rnG call 266 (F + 3) 4 [some (vR 0), o1] [] (LR z f) = rnG call 266 F 7 [some (vR 0), o1] [vI (z 16), vR 0] (LR z f) := rfl
set_option maxRecDepth 100000 in
theorem b266_21 (call : QC FA) (a0 : Int32) (ls : List (Option PV)) (z : Nat → Int32) (f : Nat → FA) (F : Nat) : rnG call 266 (F + 1) 7 ls [vI a0, vR 0] (LR z f) = cbd (call 192 [vR 0, vI a0] (LR z f)) (fun r L' => rnG call 266 F 8 ls (r.toList ++ []) L') := pcY (ih := rnG call 266 F) (call := call) (a := 192) (b := 1) (v := 12) (t := 8) (x := 0) (ls := ls) (As := [vI a0]) (st' := []) (L := LR z f) rfl rfl rfl
set_option maxRecDepth 100000 in
theorem b266_22 (call : QC FA) (x : Int32) (ls : List (Option PV)) (L : QH FA) (F : Nat) : rnG call 266 (F + 1) 8 ls [vI x] L = bif pcmp 0 x 0 then rnG call 266 F 11 ls [] L else rnG call 266 F 9 ls [] L := rfl
set_option maxRecDepth 100000 in
theorem b266_23 (call : QC FA) (o1 : Option PV) (L : QH FA) (F : Nat) : rnG call 266 (F + 4) 9 [some (vR 0), o1] [] L = rnG call 266 F 14 [some (vR 0), some (vI 1)] [vI 1] L := rfl
set_option maxRecDepth 100000 in
theorem b266_24 (call : QC FA) (x1 : Int32) (L : QH FA) (F : Nat) : rnG call 266 (F + 3) 26 [some (vR 0), some (vI x1)] [vR 0] L = rnG call 266 F 30 [some (vR 0), some (vI x1)] [vI x1, vI 1, vR 0] L := rfl
set_option maxRecDepth 100000 in
theorem b266_25 (call : QC FA) (x1 : Int32) (s0 : Int32) (z : Nat → Int32) (f : Nat → FA) (F : Nat) : rnG call 266 (F + 5) 31 [some (vR 0), some (vI x1)] [vI s0, vR 0] (LR z f) = rnG call 266 F 38 [some (vR 0), some (vI x1)] [vI ((z 16) - 7), vI s0, vR 0] (LR z f) := rfl
theorem vc266_0 (d : Nat) (o1 : Option PV) (z : Nat → Int32) (f : Nat → FA) (res : Option PV × QH FA) (H : ((¬ z 15 = 2 → ((z 15 = 3 → (∃ (z1 : Nat → Int32) (f1 : Nat → FA), (mcall (d + 3)) 205 [vR 0, vI 0, vI (z 16)] (LR z f) = some (none, LR z1 f1) ∧ (∃ (z2 : Nat → Int32) (f2 : Nat → FA), (mcall (d + 3)) 269 [vR 0] (LR z1 f1) = some (none, LR z2 f2) ∧ res = (some (vI 0), LR z2 f2)))) ∧ (¬ z 15 = 3 → (∃ (r3 : Int32) (z3 : Nat → Int32) (f3 : Nat → FA), (mcall (d + 3)) 208 [vR 0, vI 1] (LR z f) = some (some (vI r3), LR z3 f3) ∧ res = (some (vI r3), LR z3 f3))))) ∧ (z 15 = 2 → (((7 ≤ I (z 16) ∧ I (z 16) ≤ 16) → (∃ (z7 : Nat → Int32) (f7 : Nat → FA), (mcall (d + 3)) 205 [vR 0, vI 1, vI ((z 16) - 7)] (LR z f) = some (none, LR z7 f7) ∧ (∃ (z8 : Nat → Int32) (f8 : Nat → FA), (mcall (d + 3)) 269 [vR 0] (LR z7 f7) = some (none, LR z8 f8) ∧ res = (some (vI 0), LR z8 f8)))) ∧ ((¬ (7 ≤ I (z 16) ∧ I (z 16) ≤ 16)) → ((z 15 = 3 → (∃ (z4 : Nat → Int32) (f4 : Nat → FA), (mcall (d + 3)) 205 [vR 0, vI 0, vI (z 16)] (LR z f) = some (none, LR z4 f4) ∧ (∃ (z5 : Nat → Int32) (f5 : Nat → FA), (mcall (d + 3)) 269 [vR 0] (LR z4 f4) = some (none, LR z5 f5) ∧ res = (some (vI 0), LR z5 f5)))) ∧ (¬ z 15 = 3 → (∃ (r6 : Int32) (z6 : Nat → Int32) (f6 : Nat → FA), (mcall (d + 3)) 208 [vR 0, vI 1] (LR z f) = some (some (vI r6), LR z6 f6) ∧ res = (some (vI r6), LR z6 f6))))))))) : RC (mcall (d + 3)) (mP 266) 0 [some (vR 0), o1] [] (LR z f) res := by
  refine rc_b (i' := 3) (ls' := [some (vR 0), o1]) (st' := [vI 2, vI (z 15)]) (L' := LR z f) 3 (b266_1 (mcall (d + 3)) o1 z f) ?_
  refine rc_if (it := 11) (ie := 4) (ls' := [some (vR 0), o1]) (st' := []) (b266_2 (mcall (d + 3)) (z 15) 2 _ _) (fun q1 => ?_) (fun q1 => ?_)
  · have H := H.1 (cI1t q1)
    refine rc_b (i' := 14) (ls' := [some (vR 0), some (vI 0)]) (st' := [vI 0]) (L' := LR z f) 3 (b266_3 (mcall (d + 3)) o1 _) ?_
    refine rc_f (it := 23) (ie := 15) (ls' := [some (vR 0), some (vI 0)]) (st' := []) (b266_4 (mcall (d + 3)) 0 _ _) (by decide) ?_
    refine rc_b (i' := 18) (ls' := [some (vR 0), some (vI 0)]) (st' := [vI 3, vI (z 15)]) (L' := LR z f) 3 (b266_5 (mcall (d + 3)) 0 z f) ?_
    refine rc_if (it := 23) (ie := 19) (ls' := [some (vR 0), some (vI 0)]) (st' := []) (b266_6 (mcall (d + 3)) (z 15) 3 _ _) (fun q2 => ?_) (fun q2 => ?_)
    · have H := H.1 (cI0t q2)
      refine rc_b (i' := 25) (ls' := [some (vR 0), some (vI 0)]) (st' := [vI 0, vR 0]) (L' := LR z f) 2 (b266_7 (mcall (d + 3)) 0 _) ?_
      refine rc_t (it := 28) (ie := 26) (ls' := [some (vR 0), some (vI 0)]) (st' := [vR 0]) (b266_8 (mcall (d + 3)) 0 _ _) (by decide) ?_
      refine rc_b (i' := 30) (ls' := [some (vR 0), some (vI 0)]) (st' := [vI 0, vI 0, vR 0]) (L' := LR z f) 2 (b266_9 (mcall (d + 3)) 0 _) ?_
      refine rc_t (it := 36) (ie := 31) (ls' := [some (vR 0), some (vI 0)]) (st' := [vI 0, vR 0]) (b266_10 (mcall (d + 3)) 0 0 _ _) (by decide) ?_
      refine rc_b (i' := 38) (ls' := [some (vR 0), some (vI 0)]) (st' := [vI (z 16), vI 0, vR 0]) (L' := LR z f) 2 (b266_11 (mcall (d + 3)) 0 0 z f) ?_
      obtain ⟨z1, f1, hc, H⟩ := H
      refine rc_call (t := 39) (ls' := [some (vR 0), some (vI 0)]) (st' := []) (b266_12 (mcall (d + 3)) 0 (z 16) _ z f) hc ?_
      show RC (mcall (d + 3)) (mP 266) 39 [some (vR 0), some (vI 0)] [] (LR z1 f1) res
      refine rc_b (i' := 40) (ls' := [some (vR 0), some (vI 0)]) (st' := [vR 0]) (L' := LR z1 f1) 1 (b266_13 (mcall (d + 3)) 0 _) ?_
      obtain ⟨z2, f2, hc, H⟩ := H
      refine rc_call (t := 41) (ls' := [some (vR 0), some (vI 0)]) (st' := []) (b266_14 (mcall (d + 3)) _ z1 f1) hc ?_
      show RC (mcall (d + 3)) (mP 266) 41 [some (vR 0), some (vI 0)] [] (LR z2 f2) res
      refine rc_b (i' := 42) (ls' := [some (vR 0), some (vI 0)]) (st' := [vI 0]) (L' := LR z2 f2) 1 (b266_15 (mcall (d + 3)) 0 _) ?_
      subst H
      exact rc_ret (b266_16 (mcall (d + 3)) _ _ _)
    · have H := H.2 (cI0f q2)
      refine rc_b (i' := 21) (ls' := [some (vR 0), some (vI 0)]) (st' := [vI 1, vR 0]) (L' := LR z f) 2 (b266_17 (mcall (d + 3)) 0 _) ?_
      obtain ⟨r3, z3, f3, hc, H⟩ := H
      refine rc_call (t := 22) (ls' := [some (vR 0), some (vI 0)]) (st' := []) (b266_18 (mcall (d + 3)) 1 _ z f) hc ?_
      show RC (mcall (d + 3)) (mP 266) 22 [some (vR 0), some (vI 0)] [vI r3] (LR z3 f3) res
      subst H
      exact rc_ret (b266_19 (mcall (d + 3)) _ _ _)
  · have H := H.2 (cI1f q1)
    refine rc_b (i' := 7) (ls' := [some (vR 0), o1]) (st' := [vI (z 16), vR 0]) (L' := LR z f) 3 (b266_20 (mcall (d + 3)) o1 z f) ?_
    refine rc_call (t := 8) (ls' := [some (vR 0), o1]) (st' := []) (b266_21 (mcall (d + 3)) (z 16) _ z f) (canAsk_r _ (z 16) z f) ?_
    show RC (mcall (d + 3)) (mP 266) 8 [some (vR 0), o1] [vI (bI (7 ≤ I (z 16) ∧ I (z 16) ≤ 16))] (LR z f) res
    refine rc_bz (it := 11) (ie := 9) (ls' := [some (vR 0), o1]) (st' := []) (b266_22 (mcall (d + 3)) (bI (7 ≤ I (z 16) ∧ I (z 16) ≤ 16)) _ _) (fun q3 => ?_) (fun q3 => ?_)
    · have H := H.2 q3
      refine rc_b (i' := 14) (ls' := [some (vR 0), some (vI 0)]) (st' := [vI 0]) (L' := LR z f) 3 (b266_3 (mcall (d + 3)) o1 _) ?_
      refine rc_f (it := 23) (ie := 15) (ls' := [some (vR 0), some (vI 0)]) (st' := []) (b266_4 (mcall (d + 3)) 0 _ _) (by decide) ?_
      refine rc_b (i' := 18) (ls' := [some (vR 0), some (vI 0)]) (st' := [vI 3, vI (z 15)]) (L' := LR z f) 3 (b266_5 (mcall (d + 3)) 0 z f) ?_
      refine rc_if (it := 23) (ie := 19) (ls' := [some (vR 0), some (vI 0)]) (st' := []) (b266_6 (mcall (d + 3)) (z 15) 3 _ _) (fun q4 => ?_) (fun q4 => ?_)
      · have H := H.1 (cI0t q4)
        refine rc_b (i' := 25) (ls' := [some (vR 0), some (vI 0)]) (st' := [vI 0, vR 0]) (L' := LR z f) 2 (b266_7 (mcall (d + 3)) 0 _) ?_
        refine rc_t (it := 28) (ie := 26) (ls' := [some (vR 0), some (vI 0)]) (st' := [vR 0]) (b266_8 (mcall (d + 3)) 0 _ _) (by decide) ?_
        refine rc_b (i' := 30) (ls' := [some (vR 0), some (vI 0)]) (st' := [vI 0, vI 0, vR 0]) (L' := LR z f) 2 (b266_9 (mcall (d + 3)) 0 _) ?_
        refine rc_t (it := 36) (ie := 31) (ls' := [some (vR 0), some (vI 0)]) (st' := [vI 0, vR 0]) (b266_10 (mcall (d + 3)) 0 0 _ _) (by decide) ?_
        refine rc_b (i' := 38) (ls' := [some (vR 0), some (vI 0)]) (st' := [vI (z 16), vI 0, vR 0]) (L' := LR z f) 2 (b266_11 (mcall (d + 3)) 0 0 z f) ?_
        obtain ⟨z4, f4, hc, H⟩ := H
        refine rc_call (t := 39) (ls' := [some (vR 0), some (vI 0)]) (st' := []) (b266_12 (mcall (d + 3)) 0 (z 16) _ z f) hc ?_
        show RC (mcall (d + 3)) (mP 266) 39 [some (vR 0), some (vI 0)] [] (LR z4 f4) res
        refine rc_b (i' := 40) (ls' := [some (vR 0), some (vI 0)]) (st' := [vR 0]) (L' := LR z4 f4) 1 (b266_13 (mcall (d + 3)) 0 _) ?_
        obtain ⟨z5, f5, hc, H⟩ := H
        refine rc_call (t := 41) (ls' := [some (vR 0), some (vI 0)]) (st' := []) (b266_14 (mcall (d + 3)) _ z4 f4) hc ?_
        show RC (mcall (d + 3)) (mP 266) 41 [some (vR 0), some (vI 0)] [] (LR z5 f5) res
        refine rc_b (i' := 42) (ls' := [some (vR 0), some (vI 0)]) (st' := [vI 0]) (L' := LR z5 f5) 1 (b266_15 (mcall (d + 3)) 0 _) ?_
        subst H
        exact rc_ret (b266_16 (mcall (d + 3)) _ _ _)
      · have H := H.2 (cI0f q4)
        refine rc_b (i' := 21) (ls' := [some (vR 0), some (vI 0)]) (st' := [vI 1, vR 0]) (L' := LR z f) 2 (b266_17 (mcall (d + 3)) 0 _) ?_
        obtain ⟨r6, z6, f6, hc, H⟩ := H
        refine rc_call (t := 22) (ls' := [some (vR 0), some (vI 0)]) (st' := []) (b266_18 (mcall (d + 3)) 1 _ z f) hc ?_
        show RC (mcall (d + 3)) (mP 266) 22 [some (vR 0), some (vI 0)] [vI r6] (LR z6 f6) res
        subst H
        exact rc_ret (b266_19 (mcall (d + 3)) _ _ _)
    · have H := H.1 q3
      refine rc_b (i' := 14) (ls' := [some (vR 0), some (vI 1)]) (st' := [vI 1]) (L' := LR z f) 4 (b266_23 (mcall (d + 3)) o1 _) ?_
      refine rc_t (it := 23) (ie := 15) (ls' := [some (vR 0), some (vI 1)]) (st' := []) (b266_4 (mcall (d + 3)) 1 _ _) (by decide) ?_
      refine rc_b (i' := 25) (ls' := [some (vR 0), some (vI 1)]) (st' := [vI 1, vR 0]) (L' := LR z f) 2 (b266_7 (mcall (d + 3)) 1 _) ?_
      refine rc_f (it := 28) (ie := 26) (ls' := [some (vR 0), some (vI 1)]) (st' := [vR 0]) (b266_8 (mcall (d + 3)) 1 _ _) (by decide) ?_
      refine rc_b (i' := 30) (ls' := [some (vR 0), some (vI 1)]) (st' := [vI 1, vI 1, vR 0]) (L' := LR z f) 3 (b266_24 (mcall (d + 3)) 1 _) ?_
      refine rc_f (it := 36) (ie := 31) (ls' := [some (vR 0), some (vI 1)]) (st' := [vI 1, vR 0]) (b266_10 (mcall (d + 3)) 1 1 _ _) (by decide) ?_
      refine rc_b (i' := 38) (ls' := [some (vR 0), some (vI 1)]) (st' := [vI ((z 16) - 7), vI 1, vR 0]) (L' := LR z f) 5 (b266_25 (mcall (d + 3)) 1 1 z f) ?_
      obtain ⟨z7, f7, hc, H⟩ := H
      refine rc_call (t := 39) (ls' := [some (vR 0), some (vI 1)]) (st' := []) (b266_12 (mcall (d + 3)) 1 ((z 16) - 7) _ z f) hc ?_
      show RC (mcall (d + 3)) (mP 266) 39 [some (vR 0), some (vI 1)] [] (LR z7 f7) res
      refine rc_b (i' := 40) (ls' := [some (vR 0), some (vI 1)]) (st' := [vR 0]) (L' := LR z7 f7) 1 (b266_13 (mcall (d + 3)) 1 _) ?_
      obtain ⟨z8, f8, hc, H⟩ := H
      refine rc_call (t := 41) (ls' := [some (vR 0), some (vI 1)]) (st' := []) (b266_14 (mcall (d + 3)) _ z7 f7) hc ?_
      show RC (mcall (d + 3)) (mP 266) 41 [some (vR 0), some (vI 1)] [] (LR z8 f8) res
      refine rc_b (i' := 42) (ls' := [some (vR 0), some (vI 1)]) (st' := [vI 0]) (L' := LR z8 f8) 1 (b266_15 (mcall (d + 3)) 1 _) ?_
      subst H
      exact rc_ret (b266_16 (mcall (d + 3)) _ _ _)
theorem readUnit_r (d0 : Nat) {t p i n d a : Nat} {z : Nat → Int32} {f : Nat → FA} (h : CS t p i n d a z f) : ∃ r z' f', mcall (d0 + 4) 266 [vR 0] (LR z f) = some (some (vI r), LR z' f') ∧ RS t p i n (d + 1) a z f r z' f' ∧ (z 15 = 3 → r = 0 ∧ f' 15 (800 + (i + n)) = 0 ∧ f' 16 (800 + (i + n)) = z 16 ∧ z' 26 = nI (i + (n + 1))) := by
  have go : ∀ res, _ → mcall (d0 + 4) 266 [vR 0] (LR z f) = some res := fun res H => mcall_i (mq266 (cu := [])).2.2 rfl (vc266_0 d0 none z f res H)
  by_cases c3 : z 15 = 3
  · have h2 : ¬ z 15 = 2 := by rw [c3]; decide
    obtain ⟨z1, f1, z2, a', g1, g2, g3, g4, g5, g6, g7⟩ := er_c d0 (e := d + 1) 0 (z 16) h (by rw [c3]; decide) (Or.inl ⟨rfl, rfl⟩)
    exact ⟨0, z2, f1, go _ ⟨fun _ => ⟨fun _ => ⟨z1, f1, g1, z2, f1, g2, rfl⟩, fun q => absurd c3 q⟩, fun q => absurd q h2⟩, ⟨g5, Or.inr ⟨rfl, n + 1, a', by omega, g4, g3⟩⟩, fun _ => ⟨rfl, g6, g7, g3.2.2.2.2.1⟩⟩
  · by_cases c2 : z 15 = 2
    · by_cases c4 : 7 ≤ I (z 16) ∧ I (z 16) ≤ 16
      · obtain ⟨m, hm1, hm2, hm3⟩ := nI_ofI (x := z 16) (by omega)
        have en : z 16 - 7 = nI (m - 7) := nsub (a := m - 7) (c := 7) (by rw [hm1, show m - 7 + 7 = m by omega]) rfl
        obtain ⟨z1, f1, z2, a', g1, g2, g3, g4, g5, g6, g7⟩ := er_c d0 (e := d + 1) 1 (z 16 - 7) h (by rw [c2]; decide) (Or.inr (Or.inl ⟨rfl, by rw [en, ix_nI (by omega)]; omega, rfl⟩))
        exact ⟨0, z2, f1, go _ ⟨fun q => absurd c2 q, fun _ => ⟨fun _ => ⟨z1, f1, g1, z2, f1, g2, rfl⟩, fun q => absurd c4 q⟩⟩, ⟨g5, Or.inr ⟨rfl, n + 1, a', by omega, g4, g3⟩⟩, fun q => absurd q c3⟩
      · exact ⟨-1, _, f, go _ ⟨fun q => absurd c2 q, fun _ => ⟨fun q => absurd q c4, fun _ => ⟨fun q => absurd q c3, fun _ => ⟨-1, _, f, errs_r (d0 + 2) 1 z f, rfl⟩⟩⟩⟩, RS.er h, fun q => absurd q c3⟩
    · exact ⟨-1, _, f, go _ ⟨fun _ => ⟨fun q => absurd q c3, fun _ => ⟨-1, _, f, errs_r (d0 + 2) 1 z f, rfl⟩⟩, fun q => absurd q c2⟩, RS.er h, fun q => absurd q c3⟩
set_option maxRecDepth 100000 in
theorem b259_1 (call : QC FA) (o1 : Option PV) (L : QH FA) (F : Nat) : rnG call 259 (F + 1) 0 [some (vR 0), o1] [] L = rnG call 259 F 1 [some (vR 0), o1] [vR 0] L := rfl
set_option maxRecDepth 100000 in
theorem b259_2 (call : QC FA) (ls : List (Option PV)) (z : Nat → Int32) (f : Nat → FA) (F : Nat) : rnG call 259 (F + 1) 1 ls [vR 0] (LR z f) = cbd (call 266 [vR 0] (LR z f)) (fun r L' => rnG call 259 F 2 ls (r.toList ++ []) L') := pcY (ih := rnG call 259 F) (call := call) (a := 266) (b := 0) (v := 12) (t := 2) (x := 0) (ls := ls) (As := []) (st' := []) (L := LR z f) rfl rfl rfl
set_option maxRecDepth 100000 in
theorem b259_3 (call : QC FA) (o1 : Option PV) (s0 : Int32) (L : QH FA) (F : Nat) : rnG call 259 (F + 1) 2 [some (vR 0), o1] [vI s0] L = rnG call 259 F 3 [some (vR 0), o1] [vI ((-1)), vI s0] L := rfl
set_option maxRecDepth 100000 in
theorem b259_4 (call : QC FA) (x y : Int32) (ls : List (Option PV)) (L : QH FA) (F : Nat) : rnG call 259 (F + 1) 3 ls [vI y, vI x] L = bif pcmp 1 x y then rnG call 259 F 6 ls [] L else rnG call 259 F 4 ls [] L := rfl
set_option maxRecDepth 100000 in
theorem b259_5 (call : QC FA) (o1 : Option PV) (L : QH FA) (F : Nat) : rnG call 259 (F + 1) 4 [some (vR 0), o1] [] L = rnG call 259 F 5 [some (vR 0), o1] [vI ((-1))] L := rfl
set_option maxRecDepth 100000 in
theorem b259_6 (call : QC FA) (x : Int32) (ls : List (Option PV)) (L : QH FA) (F : Nat) : rnG call 259 (F + 1) 5 ls [vI x] L = some (some (vI x), L) := rfl
theorem vc259_0 (d : Nat) (o1 : Option PV) (z : Nat → Int32) (f : Nat → FA) (res : Option PV × QH FA) (H : (∃ (r1 : Int32) (z1 : Nat → Int32) (f1 : Nat → FA), (mcall (d + 4)) 266 [vR 0] (LR z f) = some (some (vI r1), LR z1 f1) ∧ ((¬ r1 = (-1) → RC (mcall (d + 4)) (mP 259) 6 [some (vR 0), o1] [] (LR z1 f1) res) ∧ (r1 = (-1) → res = (some (vI ((-1))), LR z1 f1))))) : RC (mcall (d + 4)) (mP 259) 0 [some (vR 0), o1] [] (LR z f) res := by
  refine rc_b (i' := 1) (ls' := [some (vR 0), o1]) (st' := [vR 0]) (L' := LR z f) 1 (b259_1 (mcall (d + 4)) o1 _) ?_
  obtain ⟨r1, z1, f1, hc, H⟩ := H
  refine rc_call (t := 2) (ls' := [some (vR 0), o1]) (st' := []) (b259_2 (mcall (d + 4)) _ z f) hc ?_
  show RC (mcall (d + 4)) (mP 259) 2 [some (vR 0), o1] [vI r1] (LR z1 f1) res
  refine rc_b (i' := 3) (ls' := [some (vR 0), o1]) (st' := [vI ((-1)), vI r1]) (L' := LR z1 f1) 1 (b259_3 (mcall (d + 4)) o1 r1 _) ?_
  refine rc_if (it := 6) (ie := 4) (ls' := [some (vR 0), o1]) (st' := []) (b259_4 (mcall (d + 4)) r1 ((-1)) _ _) (fun q1 => ?_) (fun q1 => ?_)
  · have H := H.1 (cI1t q1)
    exact H
  · have H := H.2 (cI1f q1)
    refine rc_b (i' := 5) (ls' := [some (vR 0), o1]) (st' := [vI ((-1))]) (L' := LR z1 f1) 1 (b259_5 (mcall (d + 4)) o1 _) ?_
    subst H
    exact rc_ret (b259_6 (mcall (d + 4)) _ _ _)
set_option maxRecDepth 100000 in
theorem bc6_259_1 (call : QC FA) (o1 : Option PV) (L : QH FA) (F : Nat) : rnG call 259 (F + 2) 6 [some (vR 0), o1] [] L = rnG call 259 F 8 [some (vR 0), o1] [vI 42, vR 0] L := rfl
set_option maxRecDepth 100000 in
theorem bc6_259_2 (call : QC FA) (a0 : Int32) (ls : List (Option PV)) (z : Nat → Int32) (f : Nat → FA) (F : Nat) : rnG call 259 (F + 1) 8 ls [vI a0, vR 0] (LR z f) = cbd (call 226 [vR 0, vI a0] (LR z f)) (fun r L' => rnG call 259 F 9 ls (r.toList ++ []) L') := pcY (ih := rnG call 259 F) (call := call) (a := 226) (b := 1) (v := 12) (t := 9) (x := 0) (ls := ls) (As := [vI a0]) (st' := []) (L := LR z f) rfl rfl rfl
set_option maxRecDepth 100000 in
theorem bc6_259_3 (call : QC FA) (x : Int32) (ls : List (Option PV)) (L : QH FA) (F : Nat) : rnG call 259 (F + 1) 9 ls [vI x] L = bif pcmp 1 x 0 then rnG call 259 F 14 ls [] L else rnG call 259 F 10 ls [] L := rfl
set_option maxRecDepth 100000 in
theorem bc6_259_4 (call : QC FA) (o1 : Option PV) (L : QH FA) (F : Nat) : rnG call 259 (F + 2) 14 [some (vR 0), o1] [] L = rnG call 259 F 16 [some (vR 0), o1] [vI 42, vR 0] L := rfl
set_option maxRecDepth 100000 in
theorem bc6_259_5 (call : QC FA) (a0 : Int32) (ls : List (Option PV)) (z : Nat → Int32) (f : Nat → FA) (F : Nat) : rnG call 259 (F + 1) 16 ls [vI a0, vR 0] (LR z f) = cbd (call 226 [vR 0, vI a0] (LR z f)) (fun r L' => rnG call 259 F 17 ls (r.toList ++ []) L') := pcY (ih := rnG call 259 F) (call := call) (a := 226) (b := 1) (v := 12) (t := 17) (x := 0) (ls := ls) (As := [vI a0]) (st' := []) (L := LR z f) rfl rfl rfl
set_option maxRecDepth 100000 in
theorem bc6_259_6 (call : QC FA) (o1 : Option PV) (s0 : Int32) (L : QH FA) (F : Nat) : rnG call 259 (F + 2) 17 [some (vR 0), o1] [vI s0] L = rnG call 259 F 19 [some (vR 0), some (vI s0)] [vR 0] L := rfl
set_option maxRecDepth 100000 in
theorem bc6_259_7 (call : QC FA) (ls : List (Option PV)) (z : Nat → Int32) (f : Nat → FA) (F : Nat) : rnG call 259 (F + 1) 19 ls [vR 0] (LR z f) = cbd (call 269 [vR 0] (LR z f)) (fun r L' => rnG call 259 F 20 ls (r.toList ++ []) L') := pcY (ih := rnG call 259 F) (call := call) (a := 269) (b := 0) (v := 12) (t := 20) (x := 0) (ls := ls) (As := []) (st' := []) (L := LR z f) rfl rfl rfl
set_option maxRecDepth 100000 in
theorem bc6_259_8 (call : QC FA) (x1 : Int32) (L : QH FA) (F : Nat) : rnG call 259 (F + 1) 20 [some (vR 0), some (vI x1)] [] L = rnG call 259 F 21 [some (vR 0), some (vI x1)] [vI x1] L := rfl
set_option maxRecDepth 100000 in
theorem bc6_259_9 (call : QC FA) (x : Int32) (ls : List (Option PV)) (L : QH FA) (F : Nat) : rnG call 259 (F + 1) 21 ls [vI x] L = bif pcmp 1 x 0 then rnG call 259 F 30 ls [] L else rnG call 259 F 22 ls [] L := rfl
set_option maxRecDepth 100000 in
theorem bc6_259_10 (call : QC FA) (x1 : Int32) (L : QH FA) (F : Nat) : rnG call 259 (F + 1) 30 [some (vR 0), some (vI x1)] [] L = rnG call 259 F 31 [some (vR 0), some (vI x1)] [vI x1] L := rfl
set_option maxRecDepth 100000 in
theorem bc6_259_11 (call : QC FA) (x : Int32) (ls : List (Option PV)) (L : QH FA) (F : Nat) : rnG call 259 (F + 1) 31 ls [vI x] L = bif pcmp 1 x 0 then rnG call 259 F 39 ls [] L else rnG call 259 F 32 ls [] L := rfl
set_option maxRecDepth 100000 in
theorem bc6_259_12 (call : QC FA) (x1 : Int32) (L : QH FA) (F : Nat) : rnG call 259 (F + 1) 39 [some (vR 0), some (vI x1)] [] L = rnG call 259 F 40 [some (vR 0), some (vI x1)] [vR 0] L := rfl
set_option maxRecDepth 100000 in
theorem bc6_259_13 (call : QC FA) (ls : List (Option PV)) (z : Nat → Int32) (f : Nat → FA) (F : Nat) : rnG call 259 (F + 1) 40 ls [vR 0] (LR z f) = cbd (call 266 [vR 0] (LR z f)) (fun r L' => rnG call 259 F 41 ls (r.toList ++ []) L') := pcY (ih := rnG call 259 F) (call := call) (a := 266) (b := 0) (v := 12) (t := 41) (x := 0) (ls := ls) (As := []) (st' := []) (L := LR z f) rfl rfl rfl
set_option maxRecDepth 100000 in
theorem bc6_259_14 (call : QC FA) (x1 : Int32) (s0 : Int32) (L : QH FA) (F : Nat) : rnG call 259 (F + 1) 41 [some (vR 0), some (vI x1)] [vI s0] L = rnG call 259 F 42 [some (vR 0), some (vI x1)] [vI ((-1)), vI s0] L := rfl
set_option maxRecDepth 100000 in
theorem bc6_259_15 (call : QC FA) (x y : Int32) (ls : List (Option PV)) (L : QH FA) (F : Nat) : rnG call 259 (F + 1) 42 ls [vI y, vI x] L = bif pcmp 1 x y then rnG call 259 F 45 ls [] L else rnG call 259 F 43 ls [] L := rfl
set_option maxRecDepth 100000 in
theorem bc6_259_16 (call : QC FA) (x1 : Int32) (L : QH FA) (F : Nat) : rnG call 259 (F + 2) 45 [some (vR 0), some (vI x1)] [] L = rnG call 259 F 47 [some (vR 0), some (vI x1)] [vI x1, vR 0] L := rfl
set_option maxRecDepth 100000 in
theorem bc6_259_17 (call : QC FA) (x : Int32) (ls : List (Option PV)) (L : QH FA) (F : Nat) : rnG call 259 (F + 1) 47 ls [vI x, vR 0] L = bif pcmp 0 x 0 then rnG call 259 F 50 ls [vR 0] L else rnG call 259 F 48 ls [vR 0] L := rfl
set_option maxRecDepth 100000 in
theorem bc6_259_18 (call : QC FA) (x1 : Int32) (L : QH FA) (F : Nat) : rnG call 259 (F + 3) 48 [some (vR 0), some (vI x1)] [vR 0] L = rnG call 259 F 52 [some (vR 0), some (vI x1)] [vI 0, vI 4, vR 0] L := rfl
set_option maxRecDepth 100000 in
theorem bc6_259_19 (call : QC FA) (a0 : Int32) (a1 : Int32) (ls : List (Option PV)) (z : Nat → Int32) (f : Nat → FA) (F : Nat) : rnG call 259 (F + 1) 52 ls [vI a1, vI a0, vR 0] (LR z f) = cbd (call 205 [vR 0, vI a0, vI a1] (LR z f)) (fun r L' => rnG call 259 F 53 ls (r.toList ++ []) L') := pcY (ih := rnG call 259 F) (call := call) (a := 205) (b := 2) (v := 12) (t := 53) (x := 0) (ls := ls) (As := [vI a0, vI a1]) (st' := []) (L := LR z f) rfl rfl rfl
set_option maxRecDepth 100000 in
theorem bc6_259_20 (call : QC FA) (x1 : Int32) (L : QH FA) (F : Nat) : rnG call 259 (F + 1) 53 [some (vR 0), some (vI x1)] [] L = rnG call 259 F 6 [some (vR 0), some (vI x1)] [] L := rfl
set_option maxRecDepth 100000 in
theorem bc6_259_21 (call : QC FA) (x1 : Int32) (L : QH FA) (F : Nat) : rnG call 259 (F + 1) 43 [some (vR 0), some (vI x1)] [] L = rnG call 259 F 44 [some (vR 0), some (vI x1)] [vI ((-1))] L := rfl
set_option maxRecDepth 100000 in
theorem bc6_259_22 (call : QC FA) (x : Int32) (ls : List (Option PV)) (L : QH FA) (F : Nat) : rnG call 259 (F + 1) 44 ls [vI x] L = some (some (vI x), L) := rfl
set_option maxRecDepth 100000 in
theorem bc6_259_23 (call : QC FA) (o1 : Option PV) (L : QH FA) (F : Nat) : rnG call 259 (F + 2) 10 [some (vR 0), o1] [] L = rnG call 259 F 12 [some (vR 0), o1] [vI 47, vR 0] L := rfl
set_option maxRecDepth 100000 in
theorem bc6_259_24 (call : QC FA) (a0 : Int32) (ls : List (Option PV)) (z : Nat → Int32) (f : Nat → FA) (F : Nat) : rnG call 259 (F + 1) 12 ls [vI a0, vR 0] (LR z f) = cbd (call 226 [vR 0, vI a0] (LR z f)) (fun r L' => rnG call 259 F 13 ls (r.toList ++ []) L') := pcY (ih := rnG call 259 F) (call := call) (a := 226) (b := 1) (v := 12) (t := 13) (x := 0) (ls := ls) (As := [vI a0]) (st' := []) (L := LR z f) rfl rfl rfl
set_option maxRecDepth 100000 in
theorem bc6_259_25 (call : QC FA) (x : Int32) (ls : List (Option PV)) (L : QH FA) (F : Nat) : rnG call 259 (F + 1) 13 ls [vI x] L = bif pcmp 0 x 0 then rnG call 259 F 54 ls [] L else rnG call 259 F 14 ls [] L := rfl
set_option maxRecDepth 100000 in
theorem bc6_259_26 (call : QC FA) (o1 : Option PV) (L : QH FA) (F : Nat) : rnG call 259 (F + 1) 54 [some (vR 0), o1] [] L = rnG call 259 F 55 [some (vR 0), o1] [vI 0] L := rfl
set_option maxRecDepth 100000 in
theorem bc6_259_27 (call : QC FA) (x : Int32) (ls : List (Option PV)) (L : QH FA) (F : Nat) : rnG call 259 (F + 1) 55 ls [vI x] L = some (some (vI x), L) := rfl
set_option maxRecDepth 100000 in
theorem bc6_259_28 (call : QC FA) (x1 : Int32) (z : Nat → Int32) (f : Nat → FA) (F : Nat) : rnG call 259 (F + 3) 22 [some (vR 0), some (vI x1)] [] (LR z f) = rnG call 259 F 25 [some (vR 0), some (vI x1)] [vI 3, vI (z 15)] (LR z f) := rfl
set_option maxRecDepth 100000 in
theorem bc6_259_29 (call : QC FA) (x y : Int32) (ls : List (Option PV)) (L : QH FA) (F : Nat) : rnG call 259 (F + 1) 25 ls [vI y, vI x] L = bif pcmp 0 x y then rnG call 259 F 30 ls [] L else rnG call 259 F 26 ls [] L := rfl
set_option maxRecDepth 100000 in
theorem bc6_259_30 (call : QC FA) (x1 : Int32) (z : Nat → Int32) (f : Nat → FA) (F : Nat) : rnG call 259 (F + 2) 32 [some (vR 0), some (vI x1)] [] (LR z f) = rnG call 259 F 34 [some (vR 0), some (vI x1)] [vI (z 16)] (LR z f) := rfl
set_option maxRecDepth 100000 in
theorem bc6_259_31 (call : QC FA) (x : Int32) (ls : List (Option PV)) (L : QH FA) (F : Nat) : rnG call 259 (F + 1) 34 ls [vI x] L = bif pcmp 1 x 0 then rnG call 259 F 39 ls [] L else rnG call 259 F 35 ls [] L := rfl
set_option maxRecDepth 100000 in
theorem bc6_259_32 (call : QC FA) (x1 : Int32) (L : QH FA) (F : Nat) : rnG call 259 (F + 2) 50 [some (vR 0), some (vI x1)] [vR 0] L = rnG call 259 F 52 [some (vR 0), some (vI x1)] [vI 0, vI 5, vR 0] L := rfl
set_option maxRecDepth 100000 in
theorem bc6_259_33 (call : QC FA) (x1 : Int32) (L : QH FA) (F : Nat) : rnG call 259 (F + 2) 35 [some (vR 0), some (vI x1)] [] L = rnG call 259 F 37 [some (vR 0), some (vI x1)] [vI 2, vR 0] L := rfl
set_option maxRecDepth 100000 in
theorem bc6_259_34 (call : QC FA) (a0 : Int32) (ls : List (Option PV)) (z : Nat → Int32) (f : Nat → FA) (F : Nat) : rnG call 259 (F + 1) 37 ls [vI a0, vR 0] (LR z f) = cbd (call 208 [vR 0, vI a0] (LR z f)) (fun r L' => rnG call 259 F 38 ls (r.toList ++ []) L') := pcY (ih := rnG call 259 F) (call := call) (a := 208) (b := 1) (v := 12) (t := 38) (x := 0) (ls := ls) (As := [vI a0]) (st' := []) (L := LR z f) rfl rfl rfl
set_option maxRecDepth 100000 in
theorem bc6_259_35 (call : QC FA) (x : Int32) (ls : List (Option PV)) (L : QH FA) (F : Nat) : rnG call 259 (F + 1) 38 ls [vI x] L = some (some (vI x), L) := rfl
set_option maxRecDepth 100000 in
theorem bc6_259_36 (call : QC FA) (x1 : Int32) (L : QH FA) (F : Nat) : rnG call 259 (F + 2) 26 [some (vR 0), some (vI x1)] [] L = rnG call 259 F 28 [some (vR 0), some (vI x1)] [vI 1, vR 0] L := rfl
set_option maxRecDepth 100000 in
theorem bc6_259_37 (call : QC FA) (a0 : Int32) (ls : List (Option PV)) (z : Nat → Int32) (f : Nat → FA) (F : Nat) : rnG call 259 (F + 1) 28 ls [vI a0, vR 0] (LR z f) = cbd (call 208 [vR 0, vI a0] (LR z f)) (fun r L' => rnG call 259 F 29 ls (r.toList ++ []) L') := pcY (ih := rnG call 259 F) (call := call) (a := 208) (b := 1) (v := 12) (t := 29) (x := 0) (ls := ls) (As := [vI a0]) (st' := []) (L := LR z f) rfl rfl rfl
set_option maxRecDepth 100000 in
theorem bc6_259_38 (call : QC FA) (x : Int32) (ls : List (Option PV)) (L : QH FA) (F : Nat) : rnG call 259 (F + 1) 29 ls [vI x] L = some (some (vI x), L) := rfl
theorem vcc6_259_6 (d : Nat) (o1 : Option PV) (z : Nat → Int32) (f : Nat → FA) (res : Option PV × QH FA) (H : (((z 15 = 4 ∧ z 16 = 42) → (∃ (z1 : Nat → Int32) (f1 : Nat → FA), (mcall (d + 4)) 269 [vR 0] (LR z f) = some (none, LR z1 f1) ∧ (∃ (r2 : Int32) (z2 : Nat → Int32) (f2 : Nat → FA), (mcall (d + 4)) 266 [vR 0] (LR z1 f1) = some (some (vI r2), LR z2 f2) ∧ ((¬ r2 = (-1) → (∃ (z3 : Nat → Int32) (f3 : Nat → FA), (mcall (d + 4)) 205 [vR 0, vI 4, vI 0] (LR z2 f2) = some (none, LR z3 f3) ∧ RC (mcall (d + 4)) (mP 259) 6 [some (vR 0), some (vI (bI (z 15 = 4 ∧ z 16 = 42)))] [] (LR z3 f3) res)) ∧ (r2 = (-1) → res = (some (vI ((-1))), LR z2 f2)))))) ∧ ((¬ (z 15 = 4 ∧ z 16 = 42)) → (((z 15 = 4 ∧ z 16 = 47) → (∃ (z4 : Nat → Int32) (f4 : Nat → FA), (mcall (d + 4)) 269 [vR 0] (LR z f) = some (none, LR z4 f4) ∧ ((z4 15 = 3 → ((¬ z4 16 = 0 → (∃ (r5 : Int32) (z5 : Nat → Int32) (f5 : Nat → FA), (mcall (d + 4)) 266 [vR 0] (LR z4 f4) = some (some (vI r5), LR z5 f5) ∧ ((¬ r5 = (-1) → (∃ (z6 : Nat → Int32) (f6 : Nat → FA), (mcall (d + 4)) 205 [vR 0, vI 5, vI 0] (LR z5 f5) = some (none, LR z6 f6) ∧ RC (mcall (d + 4)) (mP 259) 6 [some (vR 0), some (vI (bI (z 15 = 4 ∧ z 16 = 42)))] [] (LR z6 f6) res)) ∧ (r5 = (-1) → res = (some (vI ((-1))), LR z5 f5))))) ∧ (z4 16 = 0 → (∃ (r7 : Int32) (z7 : Nat → Int32) (f7 : Nat → FA), (mcall (d + 4)) 208 [vR 0, vI 2] (LR z4 f4) = some (some (vI r7), LR z7 f7) ∧ res = (some (vI r7), LR z7 f7))))) ∧ (¬ z4 15 = 3 → (∃ (r8 : Int32) (z8 : Nat → Int32) (f8 : Nat → FA), (mcall (d + 4)) 208 [vR 0, vI 1] (LR z4 f4) = some (some (vI r8), LR z8 f8) ∧ res = (some (vI r8), LR z8 f8)))))) ∧ ((¬ (z 15 = 4 ∧ z 16 = 47)) → res = (some (vI 0), LR z f)))))) : RC (mcall (d + 4)) (mP 259) 6 [some (vR 0), o1] [] (LR z f) res := by
  refine rc_b (i' := 8) (ls' := [some (vR 0), o1]) (st' := [vI 42, vR 0]) (L' := LR z f) 2 (bc6_259_1 (mcall (d + 4)) o1 _) ?_
  refine rc_call (t := 9) (ls' := [some (vR 0), o1]) (st' := []) (bc6_259_2 (mcall (d + 4)) 42 _ z f) (isSign_r _ 42 z f) ?_
  show RC (mcall (d + 4)) (mP 259) 9 [some (vR 0), o1] [vI (bI (z 15 = 4 ∧ z 16 = 42))] (LR z f) res
  refine rc_bn (it := 14) (ie := 10) (ls' := [some (vR 0), o1]) (st' := []) (bc6_259_3 (mcall (d + 4)) (bI (z 15 = 4 ∧ z 16 = 42)) _ _) (fun q1 => ?_) (fun q1 => ?_)
  · have H := H.1 q1
    refine rc_b (i' := 16) (ls' := [some (vR 0), o1]) (st' := [vI 42, vR 0]) (L' := LR z f) 2 (bc6_259_4 (mcall (d + 4)) o1 _) ?_
    refine rc_call (t := 17) (ls' := [some (vR 0), o1]) (st' := []) (bc6_259_5 (mcall (d + 4)) 42 _ z f) (isSign_r _ 42 z f) ?_
    show RC (mcall (d + 4)) (mP 259) 17 [some (vR 0), o1] [vI (bI (z 15 = 4 ∧ z 16 = 42))] (LR z f) res
    refine rc_b (i' := 19) (ls' := [some (vR 0), some (vI (bI (z 15 = 4 ∧ z 16 = 42)))]) (st' := [vR 0]) (L' := LR z f) 2 (bc6_259_6 (mcall (d + 4)) o1 (bI (z 15 = 4 ∧ z 16 = 42)) _) ?_
    obtain ⟨z1, f1, hc, H⟩ := H
    refine rc_call (t := 20) (ls' := [some (vR 0), some (vI (bI (z 15 = 4 ∧ z 16 = 42)))]) (st' := []) (bc6_259_7 (mcall (d + 4)) _ z f) hc ?_
    show RC (mcall (d + 4)) (mP 259) 20 [some (vR 0), some (vI (bI (z 15 = 4 ∧ z 16 = 42)))] [] (LR z1 f1) res
    refine rc_b (i' := 21) (ls' := [some (vR 0), some (vI (bI (z 15 = 4 ∧ z 16 = 42)))]) (st' := [vI (bI (z 15 = 4 ∧ z 16 = 42))]) (L' := LR z1 f1) 1 (bc6_259_8 (mcall (d + 4)) (bI (z 15 = 4 ∧ z 16 = 42)) _) ?_
    refine rc_bnT (it := 30) (ie := 22) (ls' := [some (vR 0), some (vI (bI (z 15 = 4 ∧ z 16 = 42)))]) (st' := []) (bc6_259_9 (mcall (d + 4)) (bI (z 15 = 4 ∧ z 16 = 42)) _ _) (q1) ?_
    refine rc_b (i' := 31) (ls' := [some (vR 0), some (vI (bI (z 15 = 4 ∧ z 16 = 42)))]) (st' := [vI (bI (z 15 = 4 ∧ z 16 = 42))]) (L' := LR z1 f1) 1 (bc6_259_10 (mcall (d + 4)) (bI (z 15 = 4 ∧ z 16 = 42)) _) ?_
    refine rc_bnT (it := 39) (ie := 32) (ls' := [some (vR 0), some (vI (bI (z 15 = 4 ∧ z 16 = 42)))]) (st' := []) (bc6_259_11 (mcall (d + 4)) (bI (z 15 = 4 ∧ z 16 = 42)) _ _) (q1) ?_
    refine rc_b (i' := 40) (ls' := [some (vR 0), some (vI (bI (z 15 = 4 ∧ z 16 = 42)))]) (st' := [vR 0]) (L' := LR z1 f1) 1 (bc6_259_12 (mcall (d + 4)) (bI (z 15 = 4 ∧ z 16 = 42)) _) ?_
    obtain ⟨r2, z2, f2, hc, H⟩ := H
    refine rc_call (t := 41) (ls' := [some (vR 0), some (vI (bI (z 15 = 4 ∧ z 16 = 42)))]) (st' := []) (bc6_259_13 (mcall (d + 4)) _ z1 f1) hc ?_
    show RC (mcall (d + 4)) (mP 259) 41 [some (vR 0), some (vI (bI (z 15 = 4 ∧ z 16 = 42)))] [vI r2] (LR z2 f2) res
    refine rc_b (i' := 42) (ls' := [some (vR 0), some (vI (bI (z 15 = 4 ∧ z 16 = 42)))]) (st' := [vI ((-1)), vI r2]) (L' := LR z2 f2) 1 (bc6_259_14 (mcall (d + 4)) (bI (z 15 = 4 ∧ z 16 = 42)) r2 _) ?_
    refine rc_if (it := 45) (ie := 43) (ls' := [some (vR 0), some (vI (bI (z 15 = 4 ∧ z 16 = 42)))]) (st' := []) (bc6_259_15 (mcall (d + 4)) r2 ((-1)) _ _) (fun q2 => ?_) (fun q2 => ?_)
    · have H := H.1 (cI1t q2)
      refine rc_b (i' := 47) (ls' := [some (vR 0), some (vI (bI (z 15 = 4 ∧ z 16 = 42)))]) (st' := [vI (bI (z 15 = 4 ∧ z 16 = 42)), vR 0]) (L' := LR z2 f2) 2 (bc6_259_16 (mcall (d + 4)) (bI (z 15 = 4 ∧ z 16 = 42)) _) ?_
      refine rc_bzT (it := 50) (ie := 48) (ls' := [some (vR 0), some (vI (bI (z 15 = 4 ∧ z 16 = 42)))]) (st' := [vR 0]) (bc6_259_17 (mcall (d + 4)) (bI (z 15 = 4 ∧ z 16 = 42)) _ _) (q1) ?_
      refine rc_b (i' := 52) (ls' := [some (vR 0), some (vI (bI (z 15 = 4 ∧ z 16 = 42)))]) (st' := [vI 0, vI 4, vR 0]) (L' := LR z2 f2) 3 (bc6_259_18 (mcall (d + 4)) (bI (z 15 = 4 ∧ z 16 = 42)) _) ?_
      obtain ⟨z3, f3, hc, H⟩ := H
      refine rc_call (t := 53) (ls' := [some (vR 0), some (vI (bI (z 15 = 4 ∧ z 16 = 42)))]) (st' := []) (bc6_259_19 (mcall (d + 4)) 4 0 _ z2 f2) hc ?_
      show RC (mcall (d + 4)) (mP 259) 53 [some (vR 0), some (vI (bI (z 15 = 4 ∧ z 16 = 42)))] [] (LR z3 f3) res
      refine rc_b (i' := 6) (ls' := [some (vR 0), some (vI (bI (z 15 = 4 ∧ z 16 = 42)))]) (st' := []) (L' := LR z3 f3) 1 (bc6_259_20 (mcall (d + 4)) (bI (z 15 = 4 ∧ z 16 = 42)) _) ?_
      exact H
    · have H := H.2 (cI1f q2)
      refine rc_b (i' := 44) (ls' := [some (vR 0), some (vI (bI (z 15 = 4 ∧ z 16 = 42)))]) (st' := [vI ((-1))]) (L' := LR z2 f2) 1 (bc6_259_21 (mcall (d + 4)) (bI (z 15 = 4 ∧ z 16 = 42)) _) ?_
      subst H
      exact rc_ret (bc6_259_22 (mcall (d + 4)) _ _ _)
  · have H := H.2 q1
    refine rc_b (i' := 12) (ls' := [some (vR 0), o1]) (st' := [vI 47, vR 0]) (L' := LR z f) 2 (bc6_259_23 (mcall (d + 4)) o1 _) ?_
    refine rc_call (t := 13) (ls' := [some (vR 0), o1]) (st' := []) (bc6_259_24 (mcall (d + 4)) 47 _ z f) (isSign_r _ 47 z f) ?_
    show RC (mcall (d + 4)) (mP 259) 13 [some (vR 0), o1] [vI (bI (z 15 = 4 ∧ z 16 = 47))] (LR z f) res
    refine rc_bz (it := 54) (ie := 14) (ls' := [some (vR 0), o1]) (st' := []) (bc6_259_25 (mcall (d + 4)) (bI (z 15 = 4 ∧ z 16 = 47)) _ _) (fun q3 => ?_) (fun q3 => ?_)
    · have H := H.2 q3
      refine rc_b (i' := 55) (ls' := [some (vR 0), o1]) (st' := [vI 0]) (L' := LR z f) 1 (bc6_259_26 (mcall (d + 4)) o1 _) ?_
      subst H
      exact rc_ret (bc6_259_27 (mcall (d + 4)) _ _ _)
    · have H := H.1 q3
      refine rc_b (i' := 16) (ls' := [some (vR 0), o1]) (st' := [vI 42, vR 0]) (L' := LR z f) 2 (bc6_259_4 (mcall (d + 4)) o1 _) ?_
      refine rc_call (t := 17) (ls' := [some (vR 0), o1]) (st' := []) (bc6_259_5 (mcall (d + 4)) 42 _ z f) (isSign_r _ 42 z f) ?_
      show RC (mcall (d + 4)) (mP 259) 17 [some (vR 0), o1] [vI (bI (z 15 = 4 ∧ z 16 = 42))] (LR z f) res
      refine rc_b (i' := 19) (ls' := [some (vR 0), some (vI (bI (z 15 = 4 ∧ z 16 = 42)))]) (st' := [vR 0]) (L' := LR z f) 2 (bc6_259_6 (mcall (d + 4)) o1 (bI (z 15 = 4 ∧ z 16 = 42)) _) ?_
      obtain ⟨z4, f4, hc, H⟩ := H
      refine rc_call (t := 20) (ls' := [some (vR 0), some (vI (bI (z 15 = 4 ∧ z 16 = 42)))]) (st' := []) (bc6_259_7 (mcall (d + 4)) _ z f) hc ?_
      show RC (mcall (d + 4)) (mP 259) 20 [some (vR 0), some (vI (bI (z 15 = 4 ∧ z 16 = 42)))] [] (LR z4 f4) res
      refine rc_b (i' := 21) (ls' := [some (vR 0), some (vI (bI (z 15 = 4 ∧ z 16 = 42)))]) (st' := [vI (bI (z 15 = 4 ∧ z 16 = 42))]) (L' := LR z4 f4) 1 (bc6_259_8 (mcall (d + 4)) (bI (z 15 = 4 ∧ z 16 = 42)) _) ?_
      refine rc_bnF (it := 30) (ie := 22) (ls' := [some (vR 0), some (vI (bI (z 15 = 4 ∧ z 16 = 42)))]) (st' := []) (bc6_259_9 (mcall (d + 4)) (bI (z 15 = 4 ∧ z 16 = 42)) _ _) (q1) ?_
      refine rc_b (i' := 25) (ls' := [some (vR 0), some (vI (bI (z 15 = 4 ∧ z 16 = 42)))]) (st' := [vI 3, vI (z4 15)]) (L' := LR z4 f4) 3 (bc6_259_28 (mcall (d + 4)) (bI (z 15 = 4 ∧ z 16 = 42)) z4 f4) ?_
      refine rc_if (it := 30) (ie := 26) (ls' := [some (vR 0), some (vI (bI (z 15 = 4 ∧ z 16 = 42)))]) (st' := []) (bc6_259_29 (mcall (d + 4)) (z4 15) 3 _ _) (fun q4 => ?_) (fun q4 => ?_)
      · have H := H.1 (cI0t q4)
        refine rc_b (i' := 31) (ls' := [some (vR 0), some (vI (bI (z 15 = 4 ∧ z 16 = 42)))]) (st' := [vI (bI (z 15 = 4 ∧ z 16 = 42))]) (L' := LR z4 f4) 1 (bc6_259_10 (mcall (d + 4)) (bI (z 15 = 4 ∧ z 16 = 42)) _) ?_
        refine rc_bnF (it := 39) (ie := 32) (ls' := [some (vR 0), some (vI (bI (z 15 = 4 ∧ z 16 = 42)))]) (st' := []) (bc6_259_11 (mcall (d + 4)) (bI (z 15 = 4 ∧ z 16 = 42)) _ _) (q1) ?_
        refine rc_b (i' := 34) (ls' := [some (vR 0), some (vI (bI (z 15 = 4 ∧ z 16 = 42)))]) (st' := [vI (z4 16)]) (L' := LR z4 f4) 2 (bc6_259_30 (mcall (d + 4)) (bI (z 15 = 4 ∧ z 16 = 42)) z4 f4) ?_
        refine rc_if (it := 39) (ie := 35) (ls' := [some (vR 0), some (vI (bI (z 15 = 4 ∧ z 16 = 42)))]) (st' := []) (bc6_259_31 (mcall (d + 4)) (z4 16) _ _) (fun q5 => ?_) (fun q5 => ?_)
        · have H := H.1 (cI1t q5)
          refine rc_b (i' := 40) (ls' := [some (vR 0), some (vI (bI (z 15 = 4 ∧ z 16 = 42)))]) (st' := [vR 0]) (L' := LR z4 f4) 1 (bc6_259_12 (mcall (d + 4)) (bI (z 15 = 4 ∧ z 16 = 42)) _) ?_
          obtain ⟨r5, z5, f5, hc, H⟩ := H
          refine rc_call (t := 41) (ls' := [some (vR 0), some (vI (bI (z 15 = 4 ∧ z 16 = 42)))]) (st' := []) (bc6_259_13 (mcall (d + 4)) _ z4 f4) hc ?_
          show RC (mcall (d + 4)) (mP 259) 41 [some (vR 0), some (vI (bI (z 15 = 4 ∧ z 16 = 42)))] [vI r5] (LR z5 f5) res
          refine rc_b (i' := 42) (ls' := [some (vR 0), some (vI (bI (z 15 = 4 ∧ z 16 = 42)))]) (st' := [vI ((-1)), vI r5]) (L' := LR z5 f5) 1 (bc6_259_14 (mcall (d + 4)) (bI (z 15 = 4 ∧ z 16 = 42)) r5 _) ?_
          refine rc_if (it := 45) (ie := 43) (ls' := [some (vR 0), some (vI (bI (z 15 = 4 ∧ z 16 = 42)))]) (st' := []) (bc6_259_15 (mcall (d + 4)) r5 ((-1)) _ _) (fun q6 => ?_) (fun q6 => ?_)
          · have H := H.1 (cI1t q6)
            refine rc_b (i' := 47) (ls' := [some (vR 0), some (vI (bI (z 15 = 4 ∧ z 16 = 42)))]) (st' := [vI (bI (z 15 = 4 ∧ z 16 = 42)), vR 0]) (L' := LR z5 f5) 2 (bc6_259_16 (mcall (d + 4)) (bI (z 15 = 4 ∧ z 16 = 42)) _) ?_
            refine rc_bzF (it := 50) (ie := 48) (ls' := [some (vR 0), some (vI (bI (z 15 = 4 ∧ z 16 = 42)))]) (st' := [vR 0]) (bc6_259_17 (mcall (d + 4)) (bI (z 15 = 4 ∧ z 16 = 42)) _ _) (q1) ?_
            refine rc_b (i' := 52) (ls' := [some (vR 0), some (vI (bI (z 15 = 4 ∧ z 16 = 42)))]) (st' := [vI 0, vI 5, vR 0]) (L' := LR z5 f5) 2 (bc6_259_32 (mcall (d + 4)) (bI (z 15 = 4 ∧ z 16 = 42)) _) ?_
            obtain ⟨z6, f6, hc, H⟩ := H
            refine rc_call (t := 53) (ls' := [some (vR 0), some (vI (bI (z 15 = 4 ∧ z 16 = 42)))]) (st' := []) (bc6_259_19 (mcall (d + 4)) 5 0 _ z5 f5) hc ?_
            show RC (mcall (d + 4)) (mP 259) 53 [some (vR 0), some (vI (bI (z 15 = 4 ∧ z 16 = 42)))] [] (LR z6 f6) res
            refine rc_b (i' := 6) (ls' := [some (vR 0), some (vI (bI (z 15 = 4 ∧ z 16 = 42)))]) (st' := []) (L' := LR z6 f6) 1 (bc6_259_20 (mcall (d + 4)) (bI (z 15 = 4 ∧ z 16 = 42)) _) ?_
            exact H
          · have H := H.2 (cI1f q6)
            refine rc_b (i' := 44) (ls' := [some (vR 0), some (vI (bI (z 15 = 4 ∧ z 16 = 42)))]) (st' := [vI ((-1))]) (L' := LR z5 f5) 1 (bc6_259_21 (mcall (d + 4)) (bI (z 15 = 4 ∧ z 16 = 42)) _) ?_
            subst H
            exact rc_ret (bc6_259_22 (mcall (d + 4)) _ _ _)
        · have H := H.2 (cI1f q5)
          refine rc_b (i' := 37) (ls' := [some (vR 0), some (vI (bI (z 15 = 4 ∧ z 16 = 42)))]) (st' := [vI 2, vR 0]) (L' := LR z4 f4) 2 (bc6_259_33 (mcall (d + 4)) (bI (z 15 = 4 ∧ z 16 = 42)) _) ?_
          obtain ⟨r7, z7, f7, hc, H⟩ := H
          refine rc_call (t := 38) (ls' := [some (vR 0), some (vI (bI (z 15 = 4 ∧ z 16 = 42)))]) (st' := []) (bc6_259_34 (mcall (d + 4)) 2 _ z4 f4) hc ?_
          show RC (mcall (d + 4)) (mP 259) 38 [some (vR 0), some (vI (bI (z 15 = 4 ∧ z 16 = 42)))] [vI r7] (LR z7 f7) res
          subst H
          exact rc_ret (bc6_259_35 (mcall (d + 4)) _ _ _)
      · have H := H.2 (cI0f q4)
        refine rc_b (i' := 28) (ls' := [some (vR 0), some (vI (bI (z 15 = 4 ∧ z 16 = 42)))]) (st' := [vI 1, vR 0]) (L' := LR z4 f4) 2 (bc6_259_36 (mcall (d + 4)) (bI (z 15 = 4 ∧ z 16 = 42)) _) ?_
        obtain ⟨r8, z8, f8, hc, H⟩ := H
        refine rc_call (t := 29) (ls' := [some (vR 0), some (vI (bI (z 15 = 4 ∧ z 16 = 42)))]) (st' := []) (bc6_259_37 (mcall (d + 4)) 1 _ z4 f4) hc ?_
        show RC (mcall (d + 4)) (mP 259) 29 [some (vR 0), some (vI (bI (z 15 = 4 ∧ z 16 = 42)))] [vI r8] (LR z8 f8) res
        subst H
        exact rc_ret (bc6_259_38 (mcall (d + 4)) _ _ _)
theorem pd6 (d0 t p i d : Nat) : ∀ m n a z f (q : Option PV), t - a < m → CS t p i n (d + 1) a z f → ∃ r z' f', RC (mcall (d0 + 4)) (mP 259) 6 [some (vR 0), q] [] (LR z f) (some (vI r), LR z' f') ∧ RS t p i n (d + 1) a z f r z' f' := by
  intro m
  induction m with
  | zero => intro n a z f q hm; omega
  | succ m ih =>
    intro n a z f q hm h
    have hal := h.a_le
    by_cases c1 : z 15 = 4 ∧ z 16 = 42
    · obtain ⟨z1, a1, g1, g2, g3, g4⟩ := rd_c (d0 + 1) h (by rw [c1.1]; decide)
      obtain ⟨r, z2, f2, u1, u2, -⟩ := readUnit_r d0 g2
      rcases u2.2 with ⟨rfl, u3⟩ | ⟨rfl, n', a', u4, u5, u6⟩
      · exact ⟨-1, z2, f2, vcc6_259_6 _ _ _ _ _ ⟨fun _ => ⟨z1, f, g1, -1, z2, f2, u1, fun q => absurd rfl q, fun _ => rfl⟩, fun q => absurd c1 q⟩, (FRc.rd g4).trans u2.1 (by omega), Or.inl ⟨rfl, u3⟩⟩
      · obtain ⟨z3, f3, e1, e2, e3, -⟩ := em_c (d0 + 3) (e := d + 1) 4 0 u6 (Or.inr (Or.inr (Or.inr ⟨by decide, by decide, by decide, by omega, by omega, fun q => absurd q (by decide)⟩)))
        have h23 := e2.a_le
        obtain ⟨r, z', f', v1, v2⟩ := ih (n' + 1) a' z3 f3 _ (by omega) e2
        exact ⟨r, z', f', vcc6_259_6 _ _ _ _ _ ⟨fun _ => ⟨z1, f, g1, 0, z2, f2, u1, fun _ => ⟨z3, f3, e1, v1⟩, fun q => absurd q m1n⟩, fun q => absurd c1 q⟩, RS.pre (((FRc.rd g4).trans u2.1 (by omega)).trans e3 (by omega)) (by omega) (by omega) (Nat.le_refl _) v2⟩
    · by_cases c2 : z 15 = 4 ∧ z 16 = 47
      · obtain ⟨z1, a1, g1, g2, g3, g4⟩ := rd_c (d0 + 1) h (by rw [c2.1]; decide)
        by_cases c3 : z1 15 = 3
        · by_cases c4 : z1 16 = 0
          · refine ⟨-1, _, f, vcc6_259_6 _ _ _ _ _ ⟨fun q => absurd q c1, fun _ => ⟨fun _ => ⟨z1, f, g1, fun _ => ⟨fun q => absurd c4 q, fun _ => ⟨-1, _, f, errs_r (d0 + 3) 2 z1 f, rfl⟩⟩, fun q => absurd c3 q⟩, fun q => absurd c2 q⟩⟩, RS.pre (FRc.rd g4) (Nat.le_refl _) (by omega) (by omega) (RS.er g2)⟩
          · obtain ⟨r, z2, f2, u1, u2, u7⟩ := readUnit_r d0 g2
            obtain ⟨rfl, u8, u9, u10⟩ := u7 c3
            rcases u2.2 with ⟨q, -⟩ | ⟨-, n', a', u4, u5, u6⟩
            · exact absurd q m1n
            · have u26 := u6.2.2.2.2.1
              have h24 := u6.a_le
              have u65 := u6.2.2.2.2.2.1
              have g25 := g2.2.2.2.2.2.1
              have t400 := h.2.1
              rw [u10] at u26
              obtain rfl : n' = n + 1 := by
                have := nI_inj (by omega) (by omega) u26
                omega
              obtain ⟨z3, f3, e1, e2, e3, -⟩ := em_c (d0 + 3) (e := d + 1) 5 0 u6 (Or.inr (Or.inr (Or.inr ⟨by decide, by decide, by decide, by omega, by omega, fun _ => ⟨by omega, by
                rw [show 800 + (i + (n + 1)) - 1 = 800 + (i + n) by omega]; exact u8, by
                rw [show 800 + (i + (n + 1)) - 1 = 800 + (i + n) by omega, u9]; exact c4⟩⟩)))
              have h23 := e2.a_le
              obtain ⟨r, z', f', v1, v2⟩ := ih (n + 1 + 1) a' z3 f3 _ (by omega) e2
              exact ⟨r, z', f', vcc6_259_6 _ _ _ _ _ ⟨fun q => absurd q c1, fun _ => ⟨fun _ => ⟨z1, f, g1, fun _ => ⟨fun _ => ⟨0, z2, f2, u1, fun _ => ⟨z3, f3, e1, v1⟩, fun q => absurd q m1n⟩, fun q => absurd q c4⟩, fun q => absurd c3 q⟩, fun q => absurd c2 q⟩⟩, RS.pre (((FRc.rd g4).trans u2.1 (by omega)).trans e3 (by omega)) (by omega) (by omega) (Nat.le_refl _) v2⟩
        · refine ⟨-1, _, f, vcc6_259_6 _ _ _ _ _ ⟨fun q => absurd q c1, fun _ => ⟨fun _ => ⟨z1, f, g1, fun q => absurd q c3, fun _ => ⟨-1, _, f, errs_r (d0 + 3) 1 z1 f, rfl⟩⟩, fun q => absurd c2 q⟩⟩, RS.pre (FRc.rd g4) (Nat.le_refl _) (by omega) (by omega) (RS.er g2)⟩
      · exact ⟨0, z, f, vcc6_259_6 _ _ _ _ _ ⟨fun q => absurd q c1, fun _ => ⟨fun q => absurd q c2, fun _ => rfl⟩⟩, FRc.refl, Or.inr ⟨rfl, n, a, Nat.le_refl _, Nat.le_refl _, h⟩⟩
theorem readProduct_r (d0 : Nat) {t p i n d a : Nat} {z : Nat → Int32} {f : Nat → FA} (h : CS t p i n d a z f) : ∃ r z' f', mcall (d0 + 5) 259 [vR 0] (LR z f) = some (some (vI r), LR z' f') ∧ RS t p i n (d + 1) a z f r z' f' := by
  have go : ∀ res, _ → mcall (d0 + 5) 259 [vR 0] (LR z f) = some res := fun res H => mcall_i (mq259 (cu := [])).2.2 rfl (vc259_0 d0 none z f res H)
  obtain ⟨r, z1, f1, u1, u2, -⟩ := readUnit_r d0 h
  rcases u2.2 with ⟨rfl, u3⟩ | ⟨rfl, n', a', u4, u5, u6⟩
  · exact ⟨-1, z1, f1, go _ ⟨-1, z1, f1, u1, fun q => absurd rfl q, fun _ => rfl⟩, u2⟩
  · obtain ⟨r, z', f', v1, v2⟩ := pd6 d0 t p i d _ n' a' z1 f1 none (Nat.lt_succ_self _) u6
    exact ⟨r, z', f', go _ ⟨0, z1, f1, u1, fun _ => v1, fun q => absurd q m1n⟩, RS.pre u2.1 u4 u5 (Nat.le_refl _) v2⟩
set_option maxRecDepth 100000 in
theorem b262_1 (call : QC FA) (o1 : Option PV) (L : QH FA) (F : Nat) : rnG call 262 (F + 1) 0 [some (vR 0), o1] [] L = rnG call 262 F 1 [some (vR 0), o1] [vR 0] L := rfl
set_option maxRecDepth 100000 in
theorem b262_2 (call : QC FA) (ls : List (Option PV)) (z : Nat → Int32) (f : Nat → FA) (F : Nat) : rnG call 262 (F + 1) 1 ls [vR 0] (LR z f) = cbd (call 259 [vR 0] (LR z f)) (fun r L' => rnG call 262 F 2 ls (r.toList ++ []) L') := pcY (ih := rnG call 262 F) (call := call) (a := 259) (b := 0) (v := 12) (t := 2) (x := 0) (ls := ls) (As := []) (st' := []) (L := LR z f) rfl rfl rfl
set_option maxRecDepth 100000 in
theorem b262_3 (call : QC FA) (o1 : Option PV) (s0 : Int32) (L : QH FA) (F : Nat) : rnG call 262 (F + 1) 2 [some (vR 0), o1] [vI s0] L = rnG call 262 F 3 [some (vR 0), o1] [vI ((-1)), vI s0] L := rfl
set_option maxRecDepth 100000 in
theorem b262_4 (call : QC FA) (x y : Int32) (ls : List (Option PV)) (L : QH FA) (F : Nat) : rnG call 262 (F + 1) 3 ls [vI y, vI x] L = bif pcmp 1 x y then rnG call 262 F 6 ls [] L else rnG call 262 F 4 ls [] L := rfl
set_option maxRecDepth 100000 in
theorem b262_5 (call : QC FA) (o1 : Option PV) (L : QH FA) (F : Nat) : rnG call 262 (F + 1) 4 [some (vR 0), o1] [] L = rnG call 262 F 5 [some (vR 0), o1] [vI ((-1))] L := rfl
set_option maxRecDepth 100000 in
theorem b262_6 (call : QC FA) (x : Int32) (ls : List (Option PV)) (L : QH FA) (F : Nat) : rnG call 262 (F + 1) 5 ls [vI x] L = some (some (vI x), L) := rfl
theorem vc262_0 (d : Nat) (o1 : Option PV) (z : Nat → Int32) (f : Nat → FA) (res : Option PV × QH FA) (H : (∃ (r1 : Int32) (z1 : Nat → Int32) (f1 : Nat → FA), (mcall (d + 5)) 259 [vR 0] (LR z f) = some (some (vI r1), LR z1 f1) ∧ ((¬ r1 = (-1) → RC (mcall (d + 5)) (mP 262) 6 [some (vR 0), o1] [] (LR z1 f1) res) ∧ (r1 = (-1) → res = (some (vI ((-1))), LR z1 f1))))) : RC (mcall (d + 5)) (mP 262) 0 [some (vR 0), o1] [] (LR z f) res := by
  refine rc_b (i' := 1) (ls' := [some (vR 0), o1]) (st' := [vR 0]) (L' := LR z f) 1 (b262_1 (mcall (d + 5)) o1 _) ?_
  obtain ⟨r1, z1, f1, hc, H⟩ := H
  refine rc_call (t := 2) (ls' := [some (vR 0), o1]) (st' := []) (b262_2 (mcall (d + 5)) _ z f) hc ?_
  show RC (mcall (d + 5)) (mP 262) 2 [some (vR 0), o1] [vI r1] (LR z1 f1) res
  refine rc_b (i' := 3) (ls' := [some (vR 0), o1]) (st' := [vI ((-1)), vI r1]) (L' := LR z1 f1) 1 (b262_3 (mcall (d + 5)) o1 r1 _) ?_
  refine rc_if (it := 6) (ie := 4) (ls' := [some (vR 0), o1]) (st' := []) (b262_4 (mcall (d + 5)) r1 ((-1)) _ _) (fun q1 => ?_) (fun q1 => ?_)
  · have H := H.1 (cI1t q1)
    exact H
  · have H := H.2 (cI1f q1)
    refine rc_b (i' := 5) (ls' := [some (vR 0), o1]) (st' := [vI ((-1))]) (L' := LR z1 f1) 1 (b262_5 (mcall (d + 5)) o1 _) ?_
    subst H
    exact rc_ret (b262_6 (mcall (d + 5)) _ _ _)
set_option maxRecDepth 100000 in
theorem bc6_262_1 (call : QC FA) (o1 : Option PV) (L : QH FA) (F : Nat) : rnG call 262 (F + 2) 6 [some (vR 0), o1] [] L = rnG call 262 F 8 [some (vR 0), o1] [vI 43, vR 0] L := rfl
set_option maxRecDepth 100000 in
theorem bc6_262_2 (call : QC FA) (a0 : Int32) (ls : List (Option PV)) (z : Nat → Int32) (f : Nat → FA) (F : Nat) : rnG call 262 (F + 1) 8 ls [vI a0, vR 0] (LR z f) = cbd (call 226 [vR 0, vI a0] (LR z f)) (fun r L' => rnG call 262 F 9 ls (r.toList ++ []) L') := pcY (ih := rnG call 262 F) (call := call) (a := 226) (b := 1) (v := 12) (t := 9) (x := 0) (ls := ls) (As := [vI a0]) (st' := []) (L := LR z f) rfl rfl rfl
set_option maxRecDepth 100000 in
theorem bc6_262_3 (call : QC FA) (x : Int32) (ls : List (Option PV)) (L : QH FA) (F : Nat) : rnG call 262 (F + 1) 9 ls [vI x] L = bif pcmp 1 x 0 then rnG call 262 F 14 ls [] L else rnG call 262 F 10 ls [] L := rfl
set_option maxRecDepth 100000 in
theorem bc6_262_4 (call : QC FA) (o1 : Option PV) (z : Nat → Int32) (f : Nat → FA) (F : Nat) : rnG call 262 (F + 3) 14 [some (vR 0), o1] [] (LR z f) = rnG call 262 F 17 [some (vR 0), o1] [vI 43, vI (z 16)] (LR z f) := rfl
set_option maxRecDepth 100000 in
theorem bc6_262_5 (call : QC FA) (x y : Int32) (ls : List (Option PV)) (L : QH FA) (F : Nat) : rnG call 262 (F + 1) 17 ls [vI y, vI x] L = bif pcmp 1 x y then rnG call 262 F 20 ls [] L else rnG call 262 F 18 ls [] L := rfl
set_option maxRecDepth 100000 in
theorem bc6_262_6 (call : QC FA) (o1 : Option PV) (L : QH FA) (F : Nat) : rnG call 262 (F + 3) 18 [some (vR 0), o1] [] L = rnG call 262 F 22 [some (vR 0), some (vI 2)] [] L := rfl
set_option maxRecDepth 100000 in
theorem bc6_262_7 (call : QC FA) (o1 : Option PV) (L : QH FA) (F : Nat) : rnG call 262 (F + 2) 10 [some (vR 0), o1] [] L = rnG call 262 F 12 [some (vR 0), o1] [vI 45, vR 0] L := rfl
set_option maxRecDepth 100000 in
theorem bc6_262_8 (call : QC FA) (a0 : Int32) (ls : List (Option PV)) (z : Nat → Int32) (f : Nat → FA) (F : Nat) : rnG call 262 (F + 1) 12 ls [vI a0, vR 0] (LR z f) = cbd (call 226 [vR 0, vI a0] (LR z f)) (fun r L' => rnG call 262 F 13 ls (r.toList ++ []) L') := pcY (ih := rnG call 262 F) (call := call) (a := 226) (b := 1) (v := 12) (t := 13) (x := 0) (ls := ls) (As := [vI a0]) (st' := []) (L := LR z f) rfl rfl rfl
set_option maxRecDepth 100000 in
theorem bc6_262_9 (call : QC FA) (x : Int32) (ls : List (Option PV)) (L : QH FA) (F : Nat) : rnG call 262 (F + 1) 13 ls [vI x] L = bif pcmp 0 x 0 then rnG call 262 F 35 ls [] L else rnG call 262 F 14 ls [] L := rfl
set_option maxRecDepth 100000 in
theorem bc6_262_10 (call : QC FA) (o1 : Option PV) (L : QH FA) (F : Nat) : rnG call 262 (F + 1) 35 [some (vR 0), o1] [] L = rnG call 262 F 36 [some (vR 0), o1] [vI 0] L := rfl
set_option maxRecDepth 100000 in
theorem bc6_262_11 (call : QC FA) (x : Int32) (ls : List (Option PV)) (L : QH FA) (F : Nat) : rnG call 262 (F + 1) 36 ls [vI x] L = some (some (vI x), L) := rfl
set_option maxRecDepth 100000 in
theorem bc6_262_12 (call : QC FA) (o1 : Option PV) (L : QH FA) (F : Nat) : rnG call 262 (F + 2) 20 [some (vR 0), o1] [] L = rnG call 262 F 22 [some (vR 0), some (vI 3)] [] L := rfl
theorem vcc6_262_6 (d : Nat) (o1 : Option PV) (z : Nat → Int32) (f : Nat → FA) (res : Option PV × QH FA) (H : (((z 15 = 4 ∧ z 16 = 43) → RC (mcall (d + 5)) (mP 262) 22 [some (vR 0), some (vI 2)] [] (LR z f) res) ∧ ((¬ (z 15 = 4 ∧ z 16 = 43)) → (((z 15 = 4 ∧ z 16 = 45) → ((¬ z 16 = 43 → RC (mcall (d + 5)) (mP 262) 22 [some (vR 0), some (vI 3)] [] (LR z f) res) ∧ (z 16 = 43 → RC (mcall (d + 5)) (mP 262) 22 [some (vR 0), some (vI 2)] [] (LR z f) res))) ∧ ((¬ (z 15 = 4 ∧ z 16 = 45)) → res = (some (vI 0), LR z f)))))) : RC (mcall (d + 5)) (mP 262) 6 [some (vR 0), o1] [] (LR z f) res := by
  refine rc_b (i' := 8) (ls' := [some (vR 0), o1]) (st' := [vI 43, vR 0]) (L' := LR z f) 2 (bc6_262_1 (mcall (d + 5)) o1 _) ?_
  refine rc_call (t := 9) (ls' := [some (vR 0), o1]) (st' := []) (bc6_262_2 (mcall (d + 5)) 43 _ z f) (isSign_r _ 43 z f) ?_
  show RC (mcall (d + 5)) (mP 262) 9 [some (vR 0), o1] [vI (bI (z 15 = 4 ∧ z 16 = 43))] (LR z f) res
  refine rc_bn (it := 14) (ie := 10) (ls' := [some (vR 0), o1]) (st' := []) (bc6_262_3 (mcall (d + 5)) (bI (z 15 = 4 ∧ z 16 = 43)) _ _) (fun q1 => ?_) (fun q1 => ?_)
  · have H := H.1 q1
    refine rc_b (i' := 17) (ls' := [some (vR 0), o1]) (st' := [vI 43, vI (z 16)]) (L' := LR z f) 3 (bc6_262_4 (mcall (d + 5)) o1 z f) ?_
    refine rc_f (it := 20) (ie := 18) (ls' := [some (vR 0), o1]) (st' := []) (bc6_262_5 (mcall (d + 5)) (z 16) 43 _ _) (pNf q1.2) ?_
    refine rc_b (i' := 22) (ls' := [some (vR 0), some (vI 2)]) (st' := []) (L' := LR z f) 3 (bc6_262_6 (mcall (d + 5)) o1 _) ?_
    exact H
  · have H := H.2 q1
    refine rc_b (i' := 12) (ls' := [some (vR 0), o1]) (st' := [vI 45, vR 0]) (L' := LR z f) 2 (bc6_262_7 (mcall (d + 5)) o1 _) ?_
    refine rc_call (t := 13) (ls' := [some (vR 0), o1]) (st' := []) (bc6_262_8 (mcall (d + 5)) 45 _ z f) (isSign_r _ 45 z f) ?_
    show RC (mcall (d + 5)) (mP 262) 13 [some (vR 0), o1] [vI (bI (z 15 = 4 ∧ z 16 = 45))] (LR z f) res
    refine rc_bz (it := 35) (ie := 14) (ls' := [some (vR 0), o1]) (st' := []) (bc6_262_9 (mcall (d + 5)) (bI (z 15 = 4 ∧ z 16 = 45)) _ _) (fun q2 => ?_) (fun q2 => ?_)
    · have H := H.2 q2
      refine rc_b (i' := 36) (ls' := [some (vR 0), o1]) (st' := [vI 0]) (L' := LR z f) 1 (bc6_262_10 (mcall (d + 5)) o1 _) ?_
      subst H
      exact rc_ret (bc6_262_11 (mcall (d + 5)) _ _ _)
    · have H := H.1 q2
      refine rc_b (i' := 17) (ls' := [some (vR 0), o1]) (st' := [vI 43, vI (z 16)]) (L' := LR z f) 3 (bc6_262_4 (mcall (d + 5)) o1 z f) ?_
      refine rc_if (it := 20) (ie := 18) (ls' := [some (vR 0), o1]) (st' := []) (bc6_262_5 (mcall (d + 5)) (z 16) 43 _ _) (fun q3 => ?_) (fun q3 => ?_)
      · have H := H.1 (cI1t q3)
        refine rc_b (i' := 22) (ls' := [some (vR 0), some (vI 3)]) (st' := []) (L' := LR z f) 2 (bc6_262_12 (mcall (d + 5)) o1 _) ?_
        exact H
      · have H := H.2 (cI1f q3)
        refine rc_b (i' := 22) (ls' := [some (vR 0), some (vI 2)]) (st' := []) (L' := LR z f) 3 (bc6_262_6 (mcall (d + 5)) o1 _) ?_
        exact H
set_option maxRecDepth 100000 in
theorem bc22_262_1 (call : QC FA) (x1 : Int32) (L : QH FA) (F : Nat) : rnG call 262 (F + 1) 22 [some (vR 0), some (vI x1)] [] L = rnG call 262 F 23 [some (vR 0), some (vI x1)] [vR 0] L := rfl
set_option maxRecDepth 100000 in
theorem bc22_262_2 (call : QC FA) (ls : List (Option PV)) (z : Nat → Int32) (f : Nat → FA) (F : Nat) : rnG call 262 (F + 1) 23 ls [vR 0] (LR z f) = cbd (call 269 [vR 0] (LR z f)) (fun r L' => rnG call 262 F 24 ls (r.toList ++ []) L') := pcY (ih := rnG call 262 F) (call := call) (a := 269) (b := 0) (v := 12) (t := 24) (x := 0) (ls := ls) (As := []) (st' := []) (L := LR z f) rfl rfl rfl
set_option maxRecDepth 100000 in
theorem bc22_262_3 (call : QC FA) (x1 : Int32) (L : QH FA) (F : Nat) : rnG call 262 (F + 1) 24 [some (vR 0), some (vI x1)] [] L = rnG call 262 F 25 [some (vR 0), some (vI x1)] [vR 0] L := rfl
set_option maxRecDepth 100000 in
theorem bc22_262_4 (call : QC FA) (ls : List (Option PV)) (z : Nat → Int32) (f : Nat → FA) (F : Nat) : rnG call 262 (F + 1) 25 ls [vR 0] (LR z f) = cbd (call 259 [vR 0] (LR z f)) (fun r L' => rnG call 262 F 26 ls (r.toList ++ []) L') := pcY (ih := rnG call 262 F) (call := call) (a := 259) (b := 0) (v := 12) (t := 26) (x := 0) (ls := ls) (As := []) (st' := []) (L := LR z f) rfl rfl rfl
set_option maxRecDepth 100000 in
theorem bc22_262_5 (call : QC FA) (x1 : Int32) (s0 : Int32) (L : QH FA) (F : Nat) : rnG call 262 (F + 1) 26 [some (vR 0), some (vI x1)] [vI s0] L = rnG call 262 F 27 [some (vR 0), some (vI x1)] [vI ((-1)), vI s0] L := rfl
set_option maxRecDepth 100000 in
theorem bc22_262_6 (call : QC FA) (x y : Int32) (ls : List (Option PV)) (L : QH FA) (F : Nat) : rnG call 262 (F + 1) 27 ls [vI y, vI x] L = bif pcmp 1 x y then rnG call 262 F 30 ls [] L else rnG call 262 F 28 ls [] L := rfl
set_option maxRecDepth 100000 in
theorem bc22_262_7 (call : QC FA) (x1 : Int32) (L : QH FA) (F : Nat) : rnG call 262 (F + 3) 30 [some (vR 0), some (vI x1)] [] L = rnG call 262 F 33 [some (vR 0), some (vI x1)] [vI 0, vI x1, vR 0] L := rfl
set_option maxRecDepth 100000 in
theorem bc22_262_8 (call : QC FA) (a0 : Int32) (a1 : Int32) (ls : List (Option PV)) (z : Nat → Int32) (f : Nat → FA) (F : Nat) : rnG call 262 (F + 1) 33 ls [vI a1, vI a0, vR 0] (LR z f) = cbd (call 205 [vR 0, vI a0, vI a1] (LR z f)) (fun r L' => rnG call 262 F 34 ls (r.toList ++ []) L') := pcY (ih := rnG call 262 F) (call := call) (a := 205) (b := 2) (v := 12) (t := 34) (x := 0) (ls := ls) (As := [vI a0, vI a1]) (st' := []) (L := LR z f) rfl rfl rfl
set_option maxRecDepth 100000 in
theorem bc22_262_9 (call : QC FA) (x1 : Int32) (L : QH FA) (F : Nat) : rnG call 262 (F + 1) 34 [some (vR 0), some (vI x1)] [] L = rnG call 262 F 6 [some (vR 0), some (vI x1)] [] L := rfl
set_option maxRecDepth 100000 in
theorem bc22_262_10 (call : QC FA) (x1 : Int32) (L : QH FA) (F : Nat) : rnG call 262 (F + 1) 28 [some (vR 0), some (vI x1)] [] L = rnG call 262 F 29 [some (vR 0), some (vI x1)] [vI ((-1))] L := rfl
set_option maxRecDepth 100000 in
theorem bc22_262_11 (call : QC FA) (x : Int32) (ls : List (Option PV)) (L : QH FA) (F : Nat) : rnG call 262 (F + 1) 29 ls [vI x] L = some (some (vI x), L) := rfl
theorem vcc22_262_22 (d : Nat) (x1 : Int32) (z : Nat → Int32) (f : Nat → FA) (res : Option PV × QH FA) (H : (∃ (z1 : Nat → Int32) (f1 : Nat → FA), (mcall (d + 5)) 269 [vR 0] (LR z f) = some (none, LR z1 f1) ∧ (∃ (r2 : Int32) (z2 : Nat → Int32) (f2 : Nat → FA), (mcall (d + 5)) 259 [vR 0] (LR z1 f1) = some (some (vI r2), LR z2 f2) ∧ ((¬ r2 = (-1) → (∃ (z3 : Nat → Int32) (f3 : Nat → FA), (mcall (d + 5)) 205 [vR 0, vI x1, vI 0] (LR z2 f2) = some (none, LR z3 f3) ∧ RC (mcall (d + 5)) (mP 262) 6 [some (vR 0), some (vI x1)] [] (LR z3 f3) res)) ∧ (r2 = (-1) → res = (some (vI ((-1))), LR z2 f2)))))) : RC (mcall (d + 5)) (mP 262) 22 [some (vR 0), some (vI x1)] [] (LR z f) res := by
  refine rc_b (i' := 23) (ls' := [some (vR 0), some (vI x1)]) (st' := [vR 0]) (L' := LR z f) 1 (bc22_262_1 (mcall (d + 5)) x1 _) ?_
  obtain ⟨z1, f1, hc, H⟩ := H
  refine rc_call (t := 24) (ls' := [some (vR 0), some (vI x1)]) (st' := []) (bc22_262_2 (mcall (d + 5)) _ z f) hc ?_
  show RC (mcall (d + 5)) (mP 262) 24 [some (vR 0), some (vI x1)] [] (LR z1 f1) res
  refine rc_b (i' := 25) (ls' := [some (vR 0), some (vI x1)]) (st' := [vR 0]) (L' := LR z1 f1) 1 (bc22_262_3 (mcall (d + 5)) x1 _) ?_
  obtain ⟨r2, z2, f2, hc, H⟩ := H
  refine rc_call (t := 26) (ls' := [some (vR 0), some (vI x1)]) (st' := []) (bc22_262_4 (mcall (d + 5)) _ z1 f1) hc ?_
  show RC (mcall (d + 5)) (mP 262) 26 [some (vR 0), some (vI x1)] [vI r2] (LR z2 f2) res
  refine rc_b (i' := 27) (ls' := [some (vR 0), some (vI x1)]) (st' := [vI ((-1)), vI r2]) (L' := LR z2 f2) 1 (bc22_262_5 (mcall (d + 5)) x1 r2 _) ?_
  refine rc_if (it := 30) (ie := 28) (ls' := [some (vR 0), some (vI x1)]) (st' := []) (bc22_262_6 (mcall (d + 5)) r2 ((-1)) _ _) (fun q1 => ?_) (fun q1 => ?_)
  · have H := H.1 (cI1t q1)
    refine rc_b (i' := 33) (ls' := [some (vR 0), some (vI x1)]) (st' := [vI 0, vI x1, vR 0]) (L' := LR z2 f2) 3 (bc22_262_7 (mcall (d + 5)) x1 _) ?_
    obtain ⟨z3, f3, hc, H⟩ := H
    refine rc_call (t := 34) (ls' := [some (vR 0), some (vI x1)]) (st' := []) (bc22_262_8 (mcall (d + 5)) x1 0 _ z2 f2) hc ?_
    show RC (mcall (d + 5)) (mP 262) 34 [some (vR 0), some (vI x1)] [] (LR z3 f3) res
    refine rc_b (i' := 6) (ls' := [some (vR 0), some (vI x1)]) (st' := []) (L' := LR z3 f3) 1 (bc22_262_9 (mcall (d + 5)) x1 _) ?_
    exact H
  · have H := H.2 (cI1f q1)
    refine rc_b (i' := 29) (ls' := [some (vR 0), some (vI x1)]) (st' := [vI ((-1))]) (L' := LR z2 f2) 1 (bc22_262_10 (mcall (d + 5)) x1 _) ?_
    subst H
    exact rc_ret (bc22_262_11 (mcall (d + 5)) _ _ _)
theorem sm6 (d0 t p i d : Nat) : ∀ m n a z f (q : Option PV), t - a < m → CS t p i n (d + 1) a z f → ∃ r z' f', RC (mcall (d0 + 5)) (mP 262) 6 [some (vR 0), q] [] (LR z f) (some (vI r), LR z' f') ∧ RS t p i n (d + 1) a z f r z' f' := by
  intro m
  induction m with
  | zero => intro n a z f q hm; omega
  | succ m ih =>
    intro n a z f q hm h
    have hal := h.a_le
    have go : ∀ w : Int32, w ≠ 0 → w ≠ 1 → w ≠ 9 → w ≠ 5 → z 15 = 4 → ∃ r z' f', RC (mcall (d0 + 5)) (mP 262) 22 [some (vR 0), some (vI w)] [] (LR z f) (some (vI r), LR z' f') ∧ RS t p i n (d + 1) a z f r z' f' := by
      intro w w0 w1 w9 w5 c1
      obtain ⟨z1, a1, g1, g2, g3, g4⟩ := rd_c (d0 + 2) h (by rw [c1]; decide)
      obtain ⟨r, z2, f2, u1, u2⟩ := readProduct_r d0 g2
      rcases u2.2 with ⟨rfl, u3⟩ | ⟨rfl, n', a', u4, u5, u6⟩
      · exact ⟨-1, z2, f2, vcc22_262_22 _ _ _ _ _ ⟨z1, f, g1, -1, z2, f2, u1, fun q => absurd rfl q, fun _ => rfl⟩, (FRc.rd g4).trans u2.1 (by omega), Or.inl ⟨rfl, u3⟩⟩
      · obtain ⟨z3, f3, e1, e2, e3, -⟩ := em_c (d0 + 4) (e := d + 1) w 0 u6 (Or.inr (Or.inr (Or.inr ⟨w0, w1, w9, by omega, by omega, fun q => absurd q w5⟩)))
        have h23 := e2.a_le
        obtain ⟨r, z', f', v1, v2⟩ := ih (n' + 1) a' z3 f3 _ (by omega) e2
        exact ⟨r, z', f', vcc22_262_22 _ _ _ _ _ ⟨z1, f, g1, 0, z2, f2, u1, fun _ => ⟨z3, f3, e1, v1⟩, fun q => absurd q m1n⟩, RS.pre (((FRc.rd g4).trans u2.1 (by omega)).trans e3 (by omega)) (by omega) (by omega) (Nat.le_refl _) v2⟩
    by_cases c1 : z 15 = 4 ∧ z 16 = 43
    · obtain ⟨r, z', f', v1, v2⟩ := go 2 (by decide) (by decide) (by decide) (by decide) c1.1
      exact ⟨r, z', f', vcc6_262_6 _ _ _ _ _ ⟨fun _ => v1, fun q => absurd c1 q⟩, v2⟩
    · by_cases c2 : z 15 = 4 ∧ z 16 = 45
      · have c3 : ¬ z 16 = 43 := by rw [c2.2]; decide
        obtain ⟨r, z', f', v1, v2⟩ := go 3 (by decide) (by decide) (by decide) (by decide) c2.1
        exact ⟨r, z', f', vcc6_262_6 _ _ _ _ _ ⟨fun q => absurd q c1, fun _ => ⟨fun _ => ⟨fun _ => v1, fun q => absurd q c3⟩, fun q => absurd c2 q⟩⟩, v2⟩
      · exact ⟨0, z, f, vcc6_262_6 _ _ _ _ _ ⟨fun q => absurd q c1, fun _ => ⟨fun q => absurd q c2, fun _ => rfl⟩⟩, FRc.refl, Or.inr ⟨rfl, n, a, Nat.le_refl _, Nat.le_refl _, h⟩⟩
theorem readSum_r (d0 : Nat) {t p i n d a : Nat} {z : Nat → Int32} {f : Nat → FA} (h : CS t p i n d a z f) : ∃ r z' f', mcall (d0 + 6) 262 [vR 0] (LR z f) = some (some (vI r), LR z' f') ∧ RS t p i n (d + 1) a z f r z' f' := by
  have go : ∀ res, _ → mcall (d0 + 6) 262 [vR 0] (LR z f) = some res := fun res H => mcall_i (mq262 (cu := [])).2.2 rfl (vc262_0 d0 none z f res H)
  obtain ⟨r, z1, f1, u1, u2⟩ := readProduct_r d0 h
  rcases u2.2 with ⟨rfl, u3⟩ | ⟨rfl, n', a', u4, u5, u6⟩
  · exact ⟨-1, z1, f1, go _ ⟨-1, z1, f1, u1, fun q => absurd rfl q, fun _ => rfl⟩, u2⟩
  · obtain ⟨r, z', f', v1, v2⟩ := sm6 d0 t p i d _ n' a' z1 f1 none (Nat.lt_succ_self _) u6
    exact ⟨r, z', f', go _ ⟨0, z1, f1, u1, fun _ => v1, fun q => absurd q m1n⟩, RS.pre u2.1 u4 u5 (Nat.le_refl _) v2⟩
set_option maxRecDepth 100000 in
theorem b252_1 (call : QC FA) (o1 : Option PV) (L : QH FA) (F : Nat) : rnG call 252 (F + 1) 0 [some (vR 0), o1] [] L = rnG call 252 F 1 [some (vR 0), o1] [vR 0] L := rfl
set_option maxRecDepth 100000 in
theorem b252_2 (call : QC FA) (ls : List (Option PV)) (z : Nat → Int32) (f : Nat → FA) (F : Nat) : rnG call 252 (F + 1) 1 ls [vR 0] (LR z f) = cbd (call 262 [vR 0] (LR z f)) (fun r L' => rnG call 252 F 2 ls (r.toList ++ []) L') := pcY (ih := rnG call 252 F) (call := call) (a := 262) (b := 0) (v := 12) (t := 2) (x := 0) (ls := ls) (As := []) (st' := []) (L := LR z f) rfl rfl rfl
set_option maxRecDepth 100000 in
theorem b252_3 (call : QC FA) (o1 : Option PV) (s0 : Int32) (L : QH FA) (F : Nat) : rnG call 252 (F + 1) 2 [some (vR 0), o1] [vI s0] L = rnG call 252 F 3 [some (vR 0), o1] [vI ((-1)), vI s0] L := rfl
set_option maxRecDepth 100000 in
theorem b252_4 (call : QC FA) (x y : Int32) (ls : List (Option PV)) (L : QH FA) (F : Nat) : rnG call 252 (F + 1) 3 ls [vI y, vI x] L = bif pcmp 1 x y then rnG call 252 F 6 ls [] L else rnG call 252 F 4 ls [] L := rfl
set_option maxRecDepth 100000 in
theorem b252_5 (call : QC FA) (o1 : Option PV) (L : QH FA) (F : Nat) : rnG call 252 (F + 2) 6 [some (vR 0), o1] [] L = rnG call 252 F 8 [some (vR 0), o1] [vI 60, vR 0] L := rfl
set_option maxRecDepth 100000 in
theorem b252_6 (call : QC FA) (a0 : Int32) (ls : List (Option PV)) (z : Nat → Int32) (f : Nat → FA) (F : Nat) : rnG call 252 (F + 1) 8 ls [vI a0, vR 0] (LR z f) = cbd (call 226 [vR 0, vI a0] (LR z f)) (fun r L' => rnG call 252 F 9 ls (r.toList ++ []) L') := pcY (ih := rnG call 252 F) (call := call) (a := 226) (b := 1) (v := 12) (t := 9) (x := 0) (ls := ls) (As := [vI a0]) (st' := []) (L := LR z f) rfl rfl rfl
set_option maxRecDepth 100000 in
theorem b252_7 (call : QC FA) (x : Int32) (ls : List (Option PV)) (L : QH FA) (F : Nat) : rnG call 252 (F + 1) 9 ls [vI x] L = bif pcmp 1 x 0 then rnG call 252 F 22 ls [] L else rnG call 252 F 10 ls [] L := rfl
set_option maxRecDepth 100000 in
theorem b252_8 (call : QC FA) (o1 : Option PV) (z : Nat → Int32) (f : Nat → FA) (F : Nat) : rnG call 252 (F + 3) 22 [some (vR 0), o1] [] (LR z f) = rnG call 252 F 25 [some (vR 0), o1] [vI 60, vI (z 16)] (LR z f) := rfl
set_option maxRecDepth 100000 in
theorem b252_9 (call : QC FA) (x y : Int32) (ls : List (Option PV)) (L : QH FA) (F : Nat) : rnG call 252 (F + 1) 25 ls [vI y, vI x] L = bif pcmp 1 x y then rnG call 252 F 28 ls [] L else rnG call 252 F 26 ls [] L := rfl
set_option maxRecDepth 100000 in
theorem b252_10 (call : QC FA) (o1 : Option PV) (L : QH FA) (F : Nat) : rnG call 252 (F + 3) 26 [some (vR 0), o1] [] L = rnG call 252 F 36 [some (vR 0), some (vI 6)] [] L := rfl
set_option maxRecDepth 100000 in
theorem b252_11 (call : QC FA) (o1 : Option PV) (L : QH FA) (F : Nat) : rnG call 252 (F + 2) 10 [some (vR 0), o1] [] L = rnG call 252 F 12 [some (vR 0), o1] [vI 61, vR 0] L := rfl
set_option maxRecDepth 100000 in
theorem b252_12 (call : QC FA) (a0 : Int32) (ls : List (Option PV)) (z : Nat → Int32) (f : Nat → FA) (F : Nat) : rnG call 252 (F + 1) 12 ls [vI a0, vR 0] (LR z f) = cbd (call 226 [vR 0, vI a0] (LR z f)) (fun r L' => rnG call 252 F 13 ls (r.toList ++ []) L') := pcY (ih := rnG call 252 F) (call := call) (a := 226) (b := 1) (v := 12) (t := 13) (x := 0) (ls := ls) (As := [vI a0]) (st' := []) (L := LR z f) rfl rfl rfl
set_option maxRecDepth 100000 in
theorem b252_13 (call : QC FA) (x : Int32) (ls : List (Option PV)) (L : QH FA) (F : Nat) : rnG call 252 (F + 1) 13 ls [vI x] L = bif pcmp 1 x 0 then rnG call 252 F 22 ls [] L else rnG call 252 F 14 ls [] L := rfl
set_option maxRecDepth 100000 in
theorem b252_14 (call : QC FA) (o1 : Option PV) (z : Nat → Int32) (f : Nat → FA) (F : Nat) : rnG call 252 (F + 3) 28 [some (vR 0), o1] [] (LR z f) = rnG call 252 F 31 [some (vR 0), o1] [vI 61, vI (z 16)] (LR z f) := rfl
set_option maxRecDepth 100000 in
theorem b252_15 (call : QC FA) (x y : Int32) (ls : List (Option PV)) (L : QH FA) (F : Nat) : rnG call 252 (F + 1) 31 ls [vI y, vI x] L = bif pcmp 1 x y then rnG call 252 F 34 ls [] L else rnG call 252 F 32 ls [] L := rfl
set_option maxRecDepth 100000 in
theorem b252_16 (call : QC FA) (o1 : Option PV) (L : QH FA) (F : Nat) : rnG call 252 (F + 3) 32 [some (vR 0), o1] [] L = rnG call 252 F 36 [some (vR 0), some (vI 7)] [] L := rfl
set_option maxRecDepth 100000 in
theorem b252_17 (call : QC FA) (o1 : Option PV) (L : QH FA) (F : Nat) : rnG call 252 (F + 2) 14 [some (vR 0), o1] [] L = rnG call 252 F 16 [some (vR 0), o1] [vI 62, vR 0] L := rfl
set_option maxRecDepth 100000 in
theorem b252_18 (call : QC FA) (a0 : Int32) (ls : List (Option PV)) (z : Nat → Int32) (f : Nat → FA) (F : Nat) : rnG call 252 (F + 1) 16 ls [vI a0, vR 0] (LR z f) = cbd (call 226 [vR 0, vI a0] (LR z f)) (fun r L' => rnG call 252 F 17 ls (r.toList ++ []) L') := pcY (ih := rnG call 252 F) (call := call) (a := 226) (b := 1) (v := 12) (t := 17) (x := 0) (ls := ls) (As := [vI a0]) (st' := []) (L := LR z f) rfl rfl rfl
set_option maxRecDepth 100000 in
theorem b252_19 (call : QC FA) (x : Int32) (ls : List (Option PV)) (L : QH FA) (F : Nat) : rnG call 252 (F + 1) 17 ls [vI x] L = bif pcmp 1 x 0 then rnG call 252 F 22 ls [] L else rnG call 252 F 18 ls [] L := rfl
set_option maxRecDepth 100000 in
theorem b252_20 (call : QC FA) (o1 : Option PV) (L : QH FA) (F : Nat) : rnG call 252 (F + 2) 34 [some (vR 0), o1] [] L = rnG call 252 F 36 [some (vR 0), some (vI 8)] [] L := rfl
set_option maxRecDepth 100000 in
theorem b252_21 (call : QC FA) (o1 : Option PV) (L : QH FA) (F : Nat) : rnG call 252 (F + 2) 18 [some (vR 0), o1] [] L = rnG call 252 F 20 [some (vR 0), o1] [vI 1, vR 0] L := rfl
set_option maxRecDepth 100000 in
theorem b252_22 (call : QC FA) (a0 : Int32) (ls : List (Option PV)) (z : Nat → Int32) (f : Nat → FA) (F : Nat) : rnG call 252 (F + 1) 20 ls [vI a0, vR 0] (LR z f) = cbd (call 208 [vR 0, vI a0] (LR z f)) (fun r L' => rnG call 252 F 21 ls (r.toList ++ []) L') := pcY (ih := rnG call 252 F) (call := call) (a := 208) (b := 1) (v := 12) (t := 21) (x := 0) (ls := ls) (As := [vI a0]) (st' := []) (L := LR z f) rfl rfl rfl
set_option maxRecDepth 100000 in
theorem b252_23 (call : QC FA) (x : Int32) (ls : List (Option PV)) (L : QH FA) (F : Nat) : rnG call 252 (F + 1) 21 ls [vI x] L = some (some (vI x), L) := rfl
set_option maxRecDepth 100000 in
theorem b252_24 (call : QC FA) (o1 : Option PV) (L : QH FA) (F : Nat) : rnG call 252 (F + 1) 4 [some (vR 0), o1] [] L = rnG call 252 F 5 [some (vR 0), o1] [vI ((-1))] L := rfl
set_option maxRecDepth 100000 in
theorem b252_25 (call : QC FA) (x : Int32) (ls : List (Option PV)) (L : QH FA) (F : Nat) : rnG call 252 (F + 1) 5 ls [vI x] L = some (some (vI x), L) := rfl
theorem vc252_0 (d : Nat) (o1 : Option PV) (z : Nat → Int32) (f : Nat → FA) (res : Option PV × QH FA) (H : (∃ (r1 : Int32) (z1 : Nat → Int32) (f1 : Nat → FA), (mcall (d + 6)) 262 [vR 0] (LR z f) = some (some (vI r1), LR z1 f1) ∧ ((¬ r1 = (-1) → (((z1 15 = 4 ∧ z1 16 = 60) → RC (mcall (d + 6)) (mP 252) 36 [some (vR 0), some (vI 6)] [] (LR z1 f1) res) ∧ ((¬ (z1 15 = 4 ∧ z1 16 = 60)) → (((z1 15 = 4 ∧ z1 16 = 61) → ((¬ z1 16 = 60 → RC (mcall (d + 6)) (mP 252) 36 [some (vR 0), some (vI 7)] [] (LR z1 f1) res) ∧ (z1 16 = 60 → RC (mcall (d + 6)) (mP 252) 36 [some (vR 0), some (vI 6)] [] (LR z1 f1) res))) ∧ ((¬ (z1 15 = 4 ∧ z1 16 = 61)) → (((z1 15 = 4 ∧ z1 16 = 62) → ((¬ z1 16 = 60 → ((¬ z1 16 = 61 → RC (mcall (d + 6)) (mP 252) 36 [some (vR 0), some (vI 8)] [] (LR z1 f1) res) ∧ (z1 16 = 61 → RC (mcall (d + 6)) (mP 252) 36 [some (vR 0), some (vI 7)] [] (LR z1 f1) res))) ∧ (z1 16 = 60 → RC (mcall (d + 6)) (mP 252) 36 [some (vR 0), some (vI 6)] [] (LR z1 f1) res))) ∧ ((¬ (z1 15 = 4 ∧ z1 16 = 62)) → (∃ (r2 : Int32) (z2 : Nat → Int32) (f2 : Nat → FA), (mcall (d + 6)) 208 [vR 0, vI 1] (LR z1 f1) = some (some (vI r2), LR z2 f2) ∧ res = (some (vI r2), LR z2 f2))))))))) ∧ (r1 = (-1) → res = (some (vI ((-1))), LR z1 f1))))) : RC (mcall (d + 6)) (mP 252) 0 [some (vR 0), o1] [] (LR z f) res := by
  refine rc_b (i' := 1) (ls' := [some (vR 0), o1]) (st' := [vR 0]) (L' := LR z f) 1 (b252_1 (mcall (d + 6)) o1 _) ?_
  obtain ⟨r1, z1, f1, hc, H⟩ := H
  refine rc_call (t := 2) (ls' := [some (vR 0), o1]) (st' := []) (b252_2 (mcall (d + 6)) _ z f) hc ?_
  show RC (mcall (d + 6)) (mP 252) 2 [some (vR 0), o1] [vI r1] (LR z1 f1) res
  refine rc_b (i' := 3) (ls' := [some (vR 0), o1]) (st' := [vI ((-1)), vI r1]) (L' := LR z1 f1) 1 (b252_3 (mcall (d + 6)) o1 r1 _) ?_
  refine rc_if (it := 6) (ie := 4) (ls' := [some (vR 0), o1]) (st' := []) (b252_4 (mcall (d + 6)) r1 ((-1)) _ _) (fun q1 => ?_) (fun q1 => ?_)
  · have H := H.1 (cI1t q1)
    refine rc_b (i' := 8) (ls' := [some (vR 0), o1]) (st' := [vI 60, vR 0]) (L' := LR z1 f1) 2 (b252_5 (mcall (d + 6)) o1 _) ?_
    refine rc_call (t := 9) (ls' := [some (vR 0), o1]) (st' := []) (b252_6 (mcall (d + 6)) 60 _ z1 f1) (isSign_r _ 60 z1 f1) ?_
    show RC (mcall (d + 6)) (mP 252) 9 [some (vR 0), o1] [vI (bI (z1 15 = 4 ∧ z1 16 = 60))] (LR z1 f1) res
    refine rc_bn (it := 22) (ie := 10) (ls' := [some (vR 0), o1]) (st' := []) (b252_7 (mcall (d + 6)) (bI (z1 15 = 4 ∧ z1 16 = 60)) _ _) (fun q2 => ?_) (fun q2 => ?_)
    · have H := H.1 q2
      refine rc_b (i' := 25) (ls' := [some (vR 0), o1]) (st' := [vI 60, vI (z1 16)]) (L' := LR z1 f1) 3 (b252_8 (mcall (d + 6)) o1 z1 f1) ?_
      refine rc_f (it := 28) (ie := 26) (ls' := [some (vR 0), o1]) (st' := []) (b252_9 (mcall (d + 6)) (z1 16) 60 _ _) (pNf q2.2) ?_
      refine rc_b (i' := 36) (ls' := [some (vR 0), some (vI 6)]) (st' := []) (L' := LR z1 f1) 3 (b252_10 (mcall (d + 6)) o1 _) ?_
      exact H
    · have H := H.2 q2
      refine rc_b (i' := 12) (ls' := [some (vR 0), o1]) (st' := [vI 61, vR 0]) (L' := LR z1 f1) 2 (b252_11 (mcall (d + 6)) o1 _) ?_
      refine rc_call (t := 13) (ls' := [some (vR 0), o1]) (st' := []) (b252_12 (mcall (d + 6)) 61 _ z1 f1) (isSign_r _ 61 z1 f1) ?_
      show RC (mcall (d + 6)) (mP 252) 13 [some (vR 0), o1] [vI (bI (z1 15 = 4 ∧ z1 16 = 61))] (LR z1 f1) res
      refine rc_bn (it := 22) (ie := 14) (ls' := [some (vR 0), o1]) (st' := []) (b252_13 (mcall (d + 6)) (bI (z1 15 = 4 ∧ z1 16 = 61)) _ _) (fun q3 => ?_) (fun q3 => ?_)
      · have H := H.1 q3
        refine rc_b (i' := 25) (ls' := [some (vR 0), o1]) (st' := [vI 60, vI (z1 16)]) (L' := LR z1 f1) 3 (b252_8 (mcall (d + 6)) o1 z1 f1) ?_
        refine rc_if (it := 28) (ie := 26) (ls' := [some (vR 0), o1]) (st' := []) (b252_9 (mcall (d + 6)) (z1 16) 60 _ _) (fun q4 => ?_) (fun q4 => ?_)
        · have H := H.1 (cI1t q4)
          refine rc_b (i' := 31) (ls' := [some (vR 0), o1]) (st' := [vI 61, vI (z1 16)]) (L' := LR z1 f1) 3 (b252_14 (mcall (d + 6)) o1 z1 f1) ?_
          refine rc_f (it := 34) (ie := 32) (ls' := [some (vR 0), o1]) (st' := []) (b252_15 (mcall (d + 6)) (z1 16) 61 _ _) (pNf q3.2) ?_
          refine rc_b (i' := 36) (ls' := [some (vR 0), some (vI 7)]) (st' := []) (L' := LR z1 f1) 3 (b252_16 (mcall (d + 6)) o1 _) ?_
          exact H
        · have H := H.2 (cI1f q4)
          refine rc_b (i' := 36) (ls' := [some (vR 0), some (vI 6)]) (st' := []) (L' := LR z1 f1) 3 (b252_10 (mcall (d + 6)) o1 _) ?_
          exact H
      · have H := H.2 q3
        refine rc_b (i' := 16) (ls' := [some (vR 0), o1]) (st' := [vI 62, vR 0]) (L' := LR z1 f1) 2 (b252_17 (mcall (d + 6)) o1 _) ?_
        refine rc_call (t := 17) (ls' := [some (vR 0), o1]) (st' := []) (b252_18 (mcall (d + 6)) 62 _ z1 f1) (isSign_r _ 62 z1 f1) ?_
        show RC (mcall (d + 6)) (mP 252) 17 [some (vR 0), o1] [vI (bI (z1 15 = 4 ∧ z1 16 = 62))] (LR z1 f1) res
        refine rc_bn (it := 22) (ie := 18) (ls' := [some (vR 0), o1]) (st' := []) (b252_19 (mcall (d + 6)) (bI (z1 15 = 4 ∧ z1 16 = 62)) _ _) (fun q5 => ?_) (fun q5 => ?_)
        · have H := H.1 q5
          refine rc_b (i' := 25) (ls' := [some (vR 0), o1]) (st' := [vI 60, vI (z1 16)]) (L' := LR z1 f1) 3 (b252_8 (mcall (d + 6)) o1 z1 f1) ?_
          refine rc_if (it := 28) (ie := 26) (ls' := [some (vR 0), o1]) (st' := []) (b252_9 (mcall (d + 6)) (z1 16) 60 _ _) (fun q6 => ?_) (fun q6 => ?_)
          · have H := H.1 (cI1t q6)
            refine rc_b (i' := 31) (ls' := [some (vR 0), o1]) (st' := [vI 61, vI (z1 16)]) (L' := LR z1 f1) 3 (b252_14 (mcall (d + 6)) o1 z1 f1) ?_
            refine rc_if (it := 34) (ie := 32) (ls' := [some (vR 0), o1]) (st' := []) (b252_15 (mcall (d + 6)) (z1 16) 61 _ _) (fun q7 => ?_) (fun q7 => ?_)
            · have H := H.1 (cI1t q7)
              refine rc_b (i' := 36) (ls' := [some (vR 0), some (vI 8)]) (st' := []) (L' := LR z1 f1) 2 (b252_20 (mcall (d + 6)) o1 _) ?_
              exact H
            · have H := H.2 (cI1f q7)
              refine rc_b (i' := 36) (ls' := [some (vR 0), some (vI 7)]) (st' := []) (L' := LR z1 f1) 3 (b252_16 (mcall (d + 6)) o1 _) ?_
              exact H
          · have H := H.2 (cI1f q6)
            refine rc_b (i' := 36) (ls' := [some (vR 0), some (vI 6)]) (st' := []) (L' := LR z1 f1) 3 (b252_10 (mcall (d + 6)) o1 _) ?_
            exact H
        · have H := H.2 q5
          refine rc_b (i' := 20) (ls' := [some (vR 0), o1]) (st' := [vI 1, vR 0]) (L' := LR z1 f1) 2 (b252_21 (mcall (d + 6)) o1 _) ?_
          obtain ⟨r2, z2, f2, hc, H⟩ := H
          refine rc_call (t := 21) (ls' := [some (vR 0), o1]) (st' := []) (b252_22 (mcall (d + 6)) 1 _ z1 f1) hc ?_
          show RC (mcall (d + 6)) (mP 252) 21 [some (vR 0), o1] [vI r2] (LR z2 f2) res
          subst H
          exact rc_ret (b252_23 (mcall (d + 6)) _ _ _)
  · have H := H.2 (cI1f q1)
    refine rc_b (i' := 5) (ls' := [some (vR 0), o1]) (st' := [vI ((-1))]) (L' := LR z1 f1) 1 (b252_24 (mcall (d + 6)) o1 _) ?_
    subst H
    exact rc_ret (b252_25 (mcall (d + 6)) _ _ _)
set_option maxRecDepth 100000 in
theorem bc36_252_1 (call : QC FA) (x1 : Int32) (L : QH FA) (F : Nat) : rnG call 252 (F + 1) 36 [some (vR 0), some (vI x1)] [] L = rnG call 252 F 37 [some (vR 0), some (vI x1)] [vR 0] L := rfl
set_option maxRecDepth 100000 in
theorem bc36_252_2 (call : QC FA) (ls : List (Option PV)) (z : Nat → Int32) (f : Nat → FA) (F : Nat) : rnG call 252 (F + 1) 37 ls [vR 0] (LR z f) = cbd (call 269 [vR 0] (LR z f)) (fun r L' => rnG call 252 F 38 ls (r.toList ++ []) L') := pcY (ih := rnG call 252 F) (call := call) (a := 269) (b := 0) (v := 12) (t := 38) (x := 0) (ls := ls) (As := []) (st' := []) (L := LR z f) rfl rfl rfl
set_option maxRecDepth 100000 in
theorem bc36_252_3 (call : QC FA) (x1 : Int32) (L : QH FA) (F : Nat) : rnG call 252 (F + 1) 38 [some (vR 0), some (vI x1)] [] L = rnG call 252 F 39 [some (vR 0), some (vI x1)] [vR 0] L := rfl
set_option maxRecDepth 100000 in
theorem bc36_252_4 (call : QC FA) (ls : List (Option PV)) (z : Nat → Int32) (f : Nat → FA) (F : Nat) : rnG call 252 (F + 1) 39 ls [vR 0] (LR z f) = cbd (call 262 [vR 0] (LR z f)) (fun r L' => rnG call 252 F 40 ls (r.toList ++ []) L') := pcY (ih := rnG call 252 F) (call := call) (a := 262) (b := 0) (v := 12) (t := 40) (x := 0) (ls := ls) (As := []) (st' := []) (L := LR z f) rfl rfl rfl
set_option maxRecDepth 100000 in
theorem bc36_252_5 (call : QC FA) (x1 : Int32) (s0 : Int32) (L : QH FA) (F : Nat) : rnG call 252 (F + 1) 40 [some (vR 0), some (vI x1)] [vI s0] L = rnG call 252 F 41 [some (vR 0), some (vI x1)] [vI ((-1)), vI s0] L := rfl
set_option maxRecDepth 100000 in
theorem bc36_252_6 (call : QC FA) (x y : Int32) (ls : List (Option PV)) (L : QH FA) (F : Nat) : rnG call 252 (F + 1) 41 ls [vI y, vI x] L = bif pcmp 1 x y then rnG call 252 F 44 ls [] L else rnG call 252 F 42 ls [] L := rfl
set_option maxRecDepth 100000 in
theorem bc36_252_7 (call : QC FA) (x1 : Int32) (L : QH FA) (F : Nat) : rnG call 252 (F + 3) 44 [some (vR 0), some (vI x1)] [] L = rnG call 252 F 47 [some (vR 0), some (vI x1)] [vI 0, vI x1, vR 0] L := rfl
set_option maxRecDepth 100000 in
theorem bc36_252_8 (call : QC FA) (a0 : Int32) (a1 : Int32) (ls : List (Option PV)) (z : Nat → Int32) (f : Nat → FA) (F : Nat) : rnG call 252 (F + 1) 47 ls [vI a1, vI a0, vR 0] (LR z f) = cbd (call 205 [vR 0, vI a0, vI a1] (LR z f)) (fun r L' => rnG call 252 F 48 ls (r.toList ++ []) L') := pcY (ih := rnG call 252 F) (call := call) (a := 205) (b := 2) (v := 12) (t := 48) (x := 0) (ls := ls) (As := [vI a0, vI a1]) (st' := []) (L := LR z f) rfl rfl rfl
set_option maxRecDepth 100000 in
theorem bc36_252_9 (call : QC FA) (x1 : Int32) (L : QH FA) (F : Nat) : rnG call 252 (F + 1) 48 [some (vR 0), some (vI x1)] [] L = rnG call 252 F 49 [some (vR 0), some (vI x1)] [vI 0] L := rfl
set_option maxRecDepth 100000 in
theorem bc36_252_10 (call : QC FA) (x : Int32) (ls : List (Option PV)) (L : QH FA) (F : Nat) : rnG call 252 (F + 1) 49 ls [vI x] L = some (some (vI x), L) := rfl
set_option maxRecDepth 100000 in
theorem bc36_252_11 (call : QC FA) (x1 : Int32) (L : QH FA) (F : Nat) : rnG call 252 (F + 1) 42 [some (vR 0), some (vI x1)] [] L = rnG call 252 F 43 [some (vR 0), some (vI x1)] [vI ((-1))] L := rfl
set_option maxRecDepth 100000 in
theorem bc36_252_12 (call : QC FA) (x : Int32) (ls : List (Option PV)) (L : QH FA) (F : Nat) : rnG call 252 (F + 1) 43 ls [vI x] L = some (some (vI x), L) := rfl
theorem vcc36_252_36 (d : Nat) (x1 : Int32) (z : Nat → Int32) (f : Nat → FA) (res : Option PV × QH FA) (H : (∃ (z1 : Nat → Int32) (f1 : Nat → FA), (mcall (d + 6)) 269 [vR 0] (LR z f) = some (none, LR z1 f1) ∧ (∃ (r2 : Int32) (z2 : Nat → Int32) (f2 : Nat → FA), (mcall (d + 6)) 262 [vR 0] (LR z1 f1) = some (some (vI r2), LR z2 f2) ∧ ((¬ r2 = (-1) → (∃ (z3 : Nat → Int32) (f3 : Nat → FA), (mcall (d + 6)) 205 [vR 0, vI x1, vI 0] (LR z2 f2) = some (none, LR z3 f3) ∧ res = (some (vI 0), LR z3 f3))) ∧ (r2 = (-1) → res = (some (vI ((-1))), LR z2 f2)))))) : RC (mcall (d + 6)) (mP 252) 36 [some (vR 0), some (vI x1)] [] (LR z f) res := by
  refine rc_b (i' := 37) (ls' := [some (vR 0), some (vI x1)]) (st' := [vR 0]) (L' := LR z f) 1 (bc36_252_1 (mcall (d + 6)) x1 _) ?_
  obtain ⟨z1, f1, hc, H⟩ := H
  refine rc_call (t := 38) (ls' := [some (vR 0), some (vI x1)]) (st' := []) (bc36_252_2 (mcall (d + 6)) _ z f) hc ?_
  show RC (mcall (d + 6)) (mP 252) 38 [some (vR 0), some (vI x1)] [] (LR z1 f1) res
  refine rc_b (i' := 39) (ls' := [some (vR 0), some (vI x1)]) (st' := [vR 0]) (L' := LR z1 f1) 1 (bc36_252_3 (mcall (d + 6)) x1 _) ?_
  obtain ⟨r2, z2, f2, hc, H⟩ := H
  refine rc_call (t := 40) (ls' := [some (vR 0), some (vI x1)]) (st' := []) (bc36_252_4 (mcall (d + 6)) _ z1 f1) hc ?_
  show RC (mcall (d + 6)) (mP 252) 40 [some (vR 0), some (vI x1)] [vI r2] (LR z2 f2) res
  refine rc_b (i' := 41) (ls' := [some (vR 0), some (vI x1)]) (st' := [vI ((-1)), vI r2]) (L' := LR z2 f2) 1 (bc36_252_5 (mcall (d + 6)) x1 r2 _) ?_
  refine rc_if (it := 44) (ie := 42) (ls' := [some (vR 0), some (vI x1)]) (st' := []) (bc36_252_6 (mcall (d + 6)) r2 ((-1)) _ _) (fun q1 => ?_) (fun q1 => ?_)
  · have H := H.1 (cI1t q1)
    refine rc_b (i' := 47) (ls' := [some (vR 0), some (vI x1)]) (st' := [vI 0, vI x1, vR 0]) (L' := LR z2 f2) 3 (bc36_252_7 (mcall (d + 6)) x1 _) ?_
    obtain ⟨z3, f3, hc, H⟩ := H
    refine rc_call (t := 48) (ls' := [some (vR 0), some (vI x1)]) (st' := []) (bc36_252_8 (mcall (d + 6)) x1 0 _ z2 f2) hc ?_
    show RC (mcall (d + 6)) (mP 252) 48 [some (vR 0), some (vI x1)] [] (LR z3 f3) res
    refine rc_b (i' := 49) (ls' := [some (vR 0), some (vI x1)]) (st' := [vI 0]) (L' := LR z3 f3) 1 (bc36_252_9 (mcall (d + 6)) x1 _) ?_
    subst H
    exact rc_ret (bc36_252_10 (mcall (d + 6)) _ _ _)
  · have H := H.2 (cI1f q1)
    refine rc_b (i' := 43) (ls' := [some (vR 0), some (vI x1)]) (st' := [vI ((-1))]) (L' := LR z2 f2) 1 (bc36_252_11 (mcall (d + 6)) x1 _) ?_
    subst H
    exact rc_ret (bc36_252_12 (mcall (d + 6)) _ _ _)
theorem readCompared_r (d0 : Nat) {t p i n d a : Nat} {z : Nat → Int32} {f : Nat → FA} (h : CS t p i n d a z f) : ∃ r z' f', mcall (d0 + 7) 252 [vR 0] (LR z f) = some (some (vI r), LR z' f') ∧ RS t p i n (d + 1) a z f r z' f' := by
  have go : ∀ res, _ → mcall (d0 + 7) 252 [vR 0] (LR z f) = some res := fun res H => mcall_i (mq252 (cu := [])).2.2 rfl (vc252_0 d0 none z f res H)
  obtain ⟨r, z1, f1, u1, u2⟩ := readSum_r d0 h
  rcases u2.2 with ⟨rfl, u3⟩ | ⟨rfl, n1, a1, u4, u5, u6⟩
  · exact ⟨-1, z1, f1, go _ ⟨-1, z1, f1, u1, fun q => absurd rfl q, fun _ => rfl⟩, u2⟩
  · have g36 : ∀ w : Int32, w ≠ 0 → w ≠ 1 → w ≠ 9 → w ≠ 5 → z1 15 = 4 → ∃ r z' f', RC (mcall (d0 + 6)) (mP 252) 36 [some (vR 0), some (vI w)] [] (LR z1 f1) (some (vI r), LR z' f') ∧ RS t p i n (d + 1) a z f r z' f' := by
      intro w w0 w1 w9 w5 c1
      obtain ⟨z2, a2, g1, g2, g3, g4⟩ := rd_c (d0 + 3) u6 (by rw [c1]; decide)
      obtain ⟨r, z3, f3, v1, v2⟩ := readSum_r d0 g2
      rcases v2.2 with ⟨rfl, v3⟩ | ⟨rfl, n', a', v4, v5, v6⟩
      · exact ⟨-1, z3, f3, vcc36_252_36 _ _ _ _ _ ⟨z2, f1, g1, -1, z3, f3, v1, fun q => absurd rfl q, fun _ => rfl⟩, (u2.1.trans (FRc.rd (b := 800 + (i + n)) g4) (Nat.le_refl _)).trans v2.1 (by omega), Or.inl ⟨rfl, v3⟩⟩
      · obtain ⟨z4, f4, e1, e2, e3, -⟩ := em_c (d0 + 5) (e := d + 1) w 0 v6 (Or.inr (Or.inr (Or.inr ⟨w0, w1, w9, by omega, by omega, fun q => absurd q w5⟩)))
        exact ⟨0, z4, f4, vcc36_252_36 _ _ _ _ _ ⟨z2, f1, g1, 0, z3, f3, v1, fun _ => ⟨z4, f4, e1, rfl⟩, fun q => absurd q m1n⟩, ((u2.1.trans (FRc.rd (b := 800 + (i + n)) g4) (Nat.le_refl _)).trans v2.1 (by omega)).trans e3 (by omega), Or.inr ⟨rfl, n' + 1, a', by omega, by omega, e2⟩⟩
    by_cases c1 : z1 15 = 4 ∧ z1 16 = 60
    · obtain ⟨r, z', f', v1, v2⟩ := g36 6 (by decide) (by decide) (by decide) (by decide) c1.1
      exact ⟨r, z', f', go _ ⟨0, z1, f1, u1, fun _ => ⟨fun _ => v1, fun q => absurd c1 q⟩, fun q => absurd q m1n⟩, v2⟩
    · by_cases c2 : z1 15 = 4 ∧ z1 16 = 61
      · have c4 : ¬ z1 16 = 60 := by rw [c2.2]; decide
        obtain ⟨r, z', f', v1, v2⟩ := g36 7 (by decide) (by decide) (by decide) (by decide) c2.1
        exact ⟨r, z', f', go _ ⟨0, z1, f1, u1, fun _ => ⟨fun q => absurd q c1, fun _ => ⟨fun _ => ⟨fun _ => v1, fun q => absurd q c4⟩, fun q => absurd c2 q⟩⟩, fun q => absurd q m1n⟩, v2⟩
      · by_cases c3 : z1 15 = 4 ∧ z1 16 = 62
        · have c4 : ¬ z1 16 = 60 := by rw [c3.2]; decide
          have c5 : ¬ z1 16 = 61 := by rw [c3.2]; decide
          obtain ⟨r, z', f', v1, v2⟩ := g36 8 (by decide) (by decide) (by decide) (by decide) c3.1
          exact ⟨r, z', f', go _ ⟨0, z1, f1, u1, fun _ => ⟨fun q => absurd q c1, fun _ => ⟨fun q => absurd q c2, fun _ => ⟨fun _ => ⟨fun _ => ⟨fun _ => v1, fun q => absurd q c5⟩, fun q => absurd q c4⟩, fun q => absurd c3 q⟩⟩⟩, fun q => absurd q m1n⟩, v2⟩
        · exact ⟨-1, _, f1, go _ ⟨0, z1, f1, u1, fun _ => ⟨fun q => absurd q c1, fun _ => ⟨fun q => absurd q c2, fun _ => ⟨fun q => absurd q c3, fun _ => ⟨-1, _, f1, errs_r (d0 + 5) 1 z1 f1, rfl⟩⟩⟩⟩, fun q => absurd q m1n⟩, RS.pre u2.1 u4 u5 (Nat.le_refl _) (RS.er u6)⟩
