/-! the reference's reader over tokens: conditions with what waits -/
/-- what waits, the top first -/
def prS (g : FA) : List Nat → Prop
  | [] => True
  | a :: s => g s.length = nI a ∧ prS g s
theorem prS_up {g : FA} {k : Nat} {x : Int32} : ∀ (s : List Nat), s.length ≤ k → prS g s → prS (upd g k x) s := by
  intro s
  induction s with
  | nil => intro _ _; trivial
  | cons a s ih =>
    intro hk h
    have hk : s.length + 1 ≤ k := hk
    exact ⟨by rw [pk_un (by omega)]; exact h.1, ih (by omega) h.2⟩
/-- so many of these on top, and what lies below -/
def pcn (w : Nat) : List Nat → Nat
  | [] => 0
  | a :: s => if a = w then pcn w s + 1 else 0
def pdr (w : Nat) : List Nat → List Nat
  | [] => []
  | a :: s => if a = w then pdr w s else a :: s
def prp (o : Nat) : Nat → List TK
  | 0 => []
  | k + 1 => (o, 0) :: prp o k
theorem prp_s {o : Nat} (k : Nat) : [(o, 0)] ++ prp o k = prp o (k + 1) := rfl
/-- the reader with what waits: op are open -/
def prA (t : FA) (n : Nat) (ts : List TT) (C : List TK) (s : List Nat) (op : Nat) (z : Nat → Int32) (f : Nat → FA) : Prop := prR t n ts C z f ∧ z 29 = nI s.length ∧ prS (f 17) s ∧ z 27 = nI op ∧ s.length ≤ 39 ∧ (∀ a, a ∈ s → a < 13) ∧ op ≤ 8
/-- what reading a condition leaves alone -/
def PRG (z : Nat → Int32) (f : Nat → FA) (z' : Nat → Int32) (f' : Nat → FA) : Prop := (∀ j, j ≠ 13 → j ≠ 14 → j ≠ 15 → j ≠ 16 → j ≠ 26 → j ≠ 27 → j ≠ 29 → z' j = z j) ∧ (∀ k, k ≠ 15 → k ≠ 16 → k ≠ 17 → f' k = f k) ∧ ∀ j, j < 800 → f' 15 j = f 15 j ∧ f' 16 j = f 16 j
theorem PRG.rf {z : Nat → Int32} {f : Nat → FA} : PRG z f z f := ⟨fun _ _ _ _ _ _ _ _ => rfl, fun _ _ _ _ => rfl, fun _ _ => ⟨rfl, rfl⟩⟩
theorem PRG.tr {z1 z2 z3 : Nat → Int32} {f1 f2 f3 : Nat → FA} (h1 : PRG z1 f1 z2 f2) (h2 : PRG z2 f2 z3 f3) : PRG z1 f1 z3 f3 := ⟨fun j a b c e g i k => (h2.1 j a b c e g i k).trans (h1.1 j a b c e g i k), fun k a b c => (h2.2.1 k a b c).trans (h1.2.1 k a b c), fun j hj => ⟨(h2.2.2 j hj).1.trans (h1.2.2 j hj).1, (h2.2.2 j hj).2.trans (h1.2.2 j hj).2⟩⟩
theorem PRF.g {z z' : Nat → Int32} {f f' : Nat → FA} (h : PRF z f z' f') : PRG z f z' f' := ⟨fun j a b c e g _ _ => h.1 j a b c e g, fun k a b _ => h.2.1 k a b, h.2.2⟩
/-- a frame of the sums keeps what waits -/
theorem prA_k {t : FA} {n op : Nat} {ts ts' : List TT} {C C' : List TK} {s : List Nat} {z z' : Nat → Int32} {f f' : Nat → FA} (h : prA t n ts C s op z f) (h' : prR t n ts' C' z' f') (k : PRF z f z' f') : prA t n ts' C' s op z' f' := by
  obtain ⟨-, h2, h3, h4, h5⟩ := h
  refine ⟨h', (k.1 29 (by decide) (by decide) (by decide) (by decide) (by decide)).trans h2, ?_, (k.1 27 (by decide) (by decide) (by decide) (by decide) (by decide)).trans h4, h5⟩
  rw [k.2.1 17 (by decide) (by decide)]
  exact h3
theorem prR_z {t : FA} {n : Nat} {ts : List TT} {C : List TK} {z z' : Nat → Int32} {f f' : Nat → FA} (h : prR t n ts C z f) (hz : ∀ j, j ≠ 27 → j ≠ 29 → z' j = z j) (hf : ∀ k, k ≠ 17 → f' k = f k) : prR t n ts C z' f' := by
  obtain ⟨⟨g1, gY, g2, g3, g4⟩, ⟨pl, nx, tk, v, hA, h6, h7, h8⟩, h10, h11⟩ := h
  refine ⟨⟨by rw [hf 8 (by decide)]; exact g1, by rw [hf 9 (by decide)]; exact gY, by rw [hz 12 (by decide) (by decide)]; exact g2, g3, g4⟩, ⟨pl, nx, tk, v, hA, by rw [hz 14 (by decide) (by decide)]; exact h6, by rw [hz 13 (by decide) (by decide)]; exact h7, ?_⟩, by rw [hz 26 (by decide) (by decide)]; exact h10, by rw [hf 15 (by decide), hf 16 (by decide)]; exact h11⟩
  unfold pxR at h8 ⊢
  rw [hz 15 (by decide) (by decide), hz 16 (by decide) (by decide)]
  exact h8
/-- what is on top and so is written -/
theorem psets {t : FA} {n : Nat} (d w : Nat) {o : Nat} (hw : (w = 9 ∧ o = 3) ∨ (w = 10 ∧ o = 10) ∨ (w = 11 ∧ o = 11)) : ∀ (s : List Nat) (ts : List TT) (C : List TK) (op : Nat) (z : Nat → Int32) (f : Nat → FA), prA t n ts C s op z f → prl C + s.length ≤ 400 → (w = 9 → pcn w s ≤ op) → ∃ z' f', RC (mcall (d + 1)) (mP 273) 0 [some (vR 0), some (vI (nI w))] [] (LR z f) (none, LR z' f') ∧ prA t n ts (C ++ prp o (pcn w s)) (pdr w s) (if w = 9 then op - pcn w s else op) z' f' ∧ PRG z f z' f' := by
  intro s
  induction s with
  | nil =>
    intro ts C op z f h hC ho
    obtain ⟨h1, h2, h3, h4, h5⟩ := h
    have eo : (if w = 9 then op - pcn w [] else op) = op := by rw [show op - pcn w [] = op from rfl, ite_self]
    rw [eo]
    refine ⟨z, f, vc273_0 d (nI w) z f _ ⟨fun _ => rfl, fun q => ?_⟩, ⟨?_, h2, trivial, h4, h5⟩, PRG.rf⟩
    · rw [h2] at q
      exact absurd q (by decide)
    · rw [show prp o (pcn w []) = [] from rfl, List.append_nil]
      exact h1
  | cons a s ih =>
    intro ts C op z f h hC ho
    have hC : prl C + (s.length + 1) ≤ 400 := hC
    obtain ⟨h1, h2, h3, h4, h5, h6, h7⟩ := h
    have h2 : z 29 = nI (s.length + 1) := h2
    have h5 : s.length + 1 ≤ 39 := h5
    have i29 : I (z 29) = ((s.length + 1 : Nat) : Int) := by rw [h2]; exact I_nI (by omega)
    have m29 : z 29 - 1 = nI s.length := by rw [h2]; exact nI_sub (b := 1) (by omega)
    have p29 : pin (z 29 - 1) 40 = true := by rw [m29]; exact pin_nI (by omega) (by omega)
    have x29 : ix (z 29 - 1) = s.length := by rw [m29]; exact ix_nI (by omega)
    have top : f 17 (ix (z 29 - 1)) = nI a := by rw [x29]; exact h3.1
    have ha := h6 a List.mem_cons_self
    have wl : w < 12 := by omega
    by_cases c : a = w
    · have ec : pcn w (a :: s) = pcn w s + 1 := if_pos c
      have ed : pdr w (a :: s) = pdr w s := if_pos c
      have h0 : prR t n ts C (uZ z 29 (z 29 - 1)) f := prR_z h1 (fun j _ q => uZ_n q) (fun _ _ => rfl)
      obtain ⟨z1, f1, b1, b2, b3, b4⟩ := premit h0 (nI w) 0 (o := o) (a := 0) (by omega) (by omega) (by decide) (by rcases hw with ⟨rfl, rfl⟩ | ⟨rfl, rfl⟩ | ⟨rfl, rfl⟩ <;> rfl) (fun q => by omega) (by omega) d
      have z129 : z1 29 = nI s.length := by rw [b4 29 (by decide), uZ_s]; exact m29
      have z127 : z1 27 = nI op := by rw [b4 27 (by decide), uZ_n (by decide)]; exact h4
      have f117 : f1 17 = f 17 := b3.2.1 17 (by decide) (by decide)
      have g0 : PRG z f z1 f1 := ⟨fun j q1 q2 q3 q4 q5 q6 q7 => by rw [b4 j q5, uZ_n q7], b3.g.2.1, b3.g.2.2⟩
      have e1 : prl (C ++ [(o, 0)]) = prl C + 1 := by
        rw [prl_app]
        show prl C + ((if o = 2 then 2 else 1) + 0) = _
        rw [if_neg (by omega)]
      rw [ec, ed]
      by_cases c9 : w = 9
      · have ho := ho c9
        rw [ec] at ho
        have hA : prA t n ts (C ++ [(o, 0)]) s (op - 1) (uZ z1 27 (z1 27 - 1)) f1 := ⟨prR_z b2 (fun j q _ => uZ_n q) (fun _ _ => rfl), by rw [uZ_n (by decide)]; exact z129, by rw [f117]; exact h3.2, by rw [uZ_s, z127]; exact nI_sub (b := 1) (by omega), by omega, fun b hb => h6 b (List.mem_cons_of_mem a hb), by omega⟩
        obtain ⟨z2, f2, k1, k2, k3⟩ := ih ts (C ++ [(o, 0)]) (op - 1) _ f1 hA (by rw [e1]; omega) (fun _ => by omega)
        have g1 : PRG z1 f1 (uZ z1 27 (z1 27 - 1)) f1 := ⟨fun j _ _ _ _ _ q _ => uZ_n q, fun _ _ _ _ => rfl, fun _ _ => ⟨rfl, rfl⟩⟩
        refine ⟨z2, f2, vc273_0 d (nI w) z f _ ⟨fun q => by omega, fun _ => ⟨p29, fun q => absurd (by rw [top, c]) q, fun _ => ⟨z1, f1, b1, fun q => absurd (by rw [c9]; rfl) q, fun _ => k1⟩⟩⟩, ?_, (g0.tr g1).tr k3⟩
        rw [List.append_assoc, prp_s] at k2
        rw [if_pos c9] at k2 ⊢
        rw [show op - (pcn w s + 1) = op - 1 - pcn w s by omega]
        exact k2
      · have hA : prA t n ts (C ++ [(o, 0)]) s op z1 f1 := ⟨b2, z129, by rw [f117]; exact h3.2, z127, by omega, fun b hb => h6 b (List.mem_cons_of_mem a hb), h7⟩
        obtain ⟨z2, f2, k1, k2, k3⟩ := ih ts (C ++ [(o, 0)]) op z1 f1 hA (by rw [e1]; omega) (fun q => absurd q c9)
        refine ⟨z2, f2, vc273_0 d (nI w) z f _ ⟨fun q => by omega, fun _ => ⟨p29, fun q => absurd (by rw [top, c]) q, fun _ => ⟨z1, f1, b1, fun _ => k1, fun q => ?_⟩⟩⟩, ?_, g0.tr k3⟩
        · exact absurd (nI_inj (a := w) (b := 9) (by omega) (by omega) q) c9
        · rw [List.append_assoc, prp_s] at k2
          rw [if_neg c9] at k2 ⊢
          exact k2
    · have ec : pcn w (a :: s) = 0 := if_neg c
      have ed : pdr w (a :: s) = a :: s := if_neg c
      have eo : (if w = 9 then op - 0 else op) = op := by rw [Nat.sub_zero, ite_self]
      rw [ec, ed, eo]
      refine ⟨z, f, vc273_0 d (nI w) z f _ ⟨fun q => by omega, fun _ => ⟨p29, fun _ => rfl, fun q => ?_⟩⟩, ⟨?_, h2, h3, h4, h5, h6, h7⟩, PRG.rf⟩
      · rw [top] at q
        exact absurd (nI_inj (by omega) (by omega) q) c
      · rw [show prp o 0 = [] from rfl, List.append_nil]
        exact h1
theorem psets_c {t : FA} {n : Nat} (d w : Nat) {o : Nat} (hw : (w = 9 ∧ o = 3) ∨ (w = 10 ∧ o = 10) ∨ (w = 11 ∧ o = 11)) {s : List Nat} {ts : List TT} {C : List TK} {op : Nat} {z : Nat → Int32} {f : Nat → FA} (h : prA t n ts C s op z f) (hC : prl C + s.length ≤ 400) (ho : w = 9 → pcn w s ≤ op) : ∃ z' f', mcall (d + 2) 273 [vR 0, vI (nI w)] (LR z f) = some (none, LR z' f') ∧ prA t n ts (C ++ prp o (pcn w s)) (pdr w s) (if w = 9 then op - pcn w s else op) z' f' ∧ PRG z f z' f' := by
  obtain ⟨z', f', k1, k2⟩ := psets d w hw s ts C op z f h hC ho
  exact ⟨z', f', mcall_i (mq273 (cu := [])).2.2 rfl k1, k2⟩
/-- one waits -/
theorem pwaits {t : FA} {n : Nat} (d : Nat) {s : List Nat} {ts : List TT} {C : List TK} {op : Nat} {z : Nat → Int32} {f : Nat → FA} (h : prA t n ts C s op z f) (w : Nat) (hw : w < 13) (hs : s.length ≤ 38) : ∃ z' f', mcall (d + 1) 285 [vR 0, vI (nI w)] (LR z f) = some (none, LR z' f') ∧ prA t n ts C (w :: s) op z' f' ∧ PRG z f z' f' := by
  obtain ⟨h1, h2, h3, h4, h5, h6, h7⟩ := h
  refine ⟨_, _, waits_r d (nI w) z f s.length h2 (by omega), ⟨prR_z h1 (fun j _ q => uZ_n q) (fun k q => uA_ne q), uZ_s, ?_, by rw [uZ_n (by decide)]; exact h4, by show s.length + 1 ≤ 39; omega, fun a ha => ?_, h7⟩, ⟨fun j _ _ _ _ _ _ q => uZ_n q, fun k _ _ q => uA_ne q, fun j hj => ?_⟩⟩
  · rw [uA_self]
    exact ⟨pk_us, prS_up s (Nat.le_refl _) h3⟩
  · rcases List.mem_cons.mp ha with q | q
    · rw [q]; exact hw
    · exact h6 a q
  · rw [uA_ne (by decide), uA_ne (by decide)]
    exact ⟨rfl, rfl⟩
theorem prAstep {t : FA} {n op : Nat} {x : TT} {r : List TT} {C : List TK} {s : List Nat} {z : Nat → Int32} {f : Nat → FA} (h : prA t n (x :: r) C s op z f) (hx : ¬ x.2.1 = 2) (d : Nat) : ∃ z', mcall (d + 3) 269 [vR 0] (LR z f) = some (none, LR z' f) ∧ prA t n r C s op z' f ∧ PRG z f z' f := by
  obtain ⟨z', s1, s2, s3⟩ := prstep h.1 hx d
  exact ⟨z', s1, prA_k h s2 (PRF.st s3), (PRF.st s3).g⟩
/-- the end of a condition, when nothing waits but brackets -/
def pEP (d : Nat) (b : Nat) (o3 : Option PV) (z : Nat → Int32) (f : Nat → FA) (res : Option PV × QH FA) : Prop := (¬ nI b = 0 → (((z 15 = 4 ∧ z 16 = 41) → (∃ (z3 : Nat → Int32) (f3 : Nat → FA), mcall (d + 7) 273 [vR 0, vI 9] (LR (uZ (uZ z 29 (z 29 - 1)) 27 (z 27 - 1)) f) = some (none, LR z3 f3) ∧ (∃ (z4 : Nat → Int32) (f4 : Nat → FA), mcall (d + 7) 269 [vR 0] (LR z3 f3) = some (none, LR z4 f4) ∧ RC (mcall (d + 7)) (mP 251) 7 [some (vR 0), some (vI (nI b - 1)), some (vI 0), o3] [] (LR z4 f4) res))) ∧ ((¬ (z 15 = 4 ∧ z 16 = 41)) → (∃ (r5 : Int32) (z5 : Nat → Int32) (f5 : Nat → FA), mcall (d + 7) 208 [vR 0, vI 1] (LR z f) = some (some (vI r5), LR z5 f5) ∧ res = (some (vI r5), LR z5 f5))))) ∧ (nI b = 0 → res = (some (vI 0), LR z f))
def pdue (b : Nat) (due : Int32) (o3 : Option PV) : List (Option PV) := [some (vR 0), some (vI (nI b)), some (vI due), o3]
/-- how a reading within a condition goes: it fails, or all goes on from here as from there -/
def PAs (d : Nat) (b : Nat) (o3 : Option PV) (z : Nat → Int32) (f : Nat → FA) (r : PSS) (G : List TK → List TT → (Nat → Int32) → (Nat → FA) → (Option PV × QH FA → Prop) → Prop) : Prop := match r with
  | .inl e => ∃ z' f', RC (mcall (d + 7)) (mP 251) 7 (pdue b 1 o3) [] (LR z f) (some (vI (-1)), LR (uZ (uZ z' 30 (nI e.1)) 31 (nI e.2)) f') ∧ PRG z f z' f'
  | .inr (c, ts) => ∃ z' f' K, G c ts z' f' K ∧ PRG z f z' f' ∧ ∀ res, K res → RC (mcall (d + 7)) (mP 251) 7 (pdue b 1 o3) [] (LR z f) res
def pTop (s : List Nat) : Prop := ∀ w, w = 9 ∨ w = 10 ∨ w = 11 → pcn w s = 0 ∧ pdr w s = s
def pstk (ei bo : Bool) (s : List Nat) : List Nat := (if bo = true then [10] else []) ++ ((if ei = true then [11] else []) ++ s)
theorem pstk_len (ei bo : Bool) (s : List Nat) : (pstk ei bo s).length = s.length + pb1 ei + pb1 bo := by
  cases ei <;> cases bo <;> rfl
theorem pany {t : FA} {n : Nat} (d : Nat) : ∀ (m : Nat), (∀ (op b : Nat) (s : List Nat) (o3 : Option PV) (ts : List TT) (C : List TK) (z : Nat → Int32) (f : Nat → FA), prA t n ts C s op z f → pcn 9 s ≤ op → b ≤ 8 → b ≤ op → prl C + ts.length + s.length ≤ 401 → s.length + 3 * (8 - op) ≤ 30 → 2 * ts.length + 1 ≤ m → PAs d b o3 z f (pB m 0 op false false ts) (fun c ts' z' f' K => prA t n ts' (C ++ (c ++ prp 3 (pcn 9 s))) (pdr 9 s) (op - pcn 9 s) z' f' ∧ ∃ o3', K = fun res => RC (mcall (d + 7)) (mP 251) 7 (pdue b 0 o3') [] (LR z' f') res)) ∧ (∀ (op b : Nat) (ei bo : Bool) (s : List Nat) (o3 : Option PV) (ts : List TT) (C : List TK) (z : Nat → Int32) (f : Nat → FA), prA t n ts C (pstk ei bo s) op z f → pTop s → b ≤ 8 → b ≤ op → prl C + ts.length + (pstk ei bo s).length ≤ 401 → s.length + 2 + 3 * (8 - op) ≤ 30 → 2 * ts.length + 2 ≤ m → PAs d b o3 z f (pB m 1 op ei bo ts) (fun c ts' z' f' K => prA t n ts' (C ++ c) s op z' f' ∧ ∃ o3', K = pEP d b o3' z' f')) := by
  intro m
  induction m with
  | zero => exact ⟨fun op b s o3 ts C z f _ _ _ _ _ _ hm => by omega, fun op b ei bo s o3 ts C z f _ _ _ _ _ _ hm => by omega⟩
  | succ m ih =>
    constructor
    · intro op b s o3 ts C z f h h9 hb8 hb hC hs hm
      obtain ⟨x, r, rfl, -⟩ := prR_hd h.1
      obtain ⟨a1, a2, a3, a4⟩ := prR_hd2 h.1
      have hC : prl C + (r.length + 1) + s.length ≤ 401 := hC
      have hm : 2 * (r.length + 1) + 1 ≤ m + 1 := hm
      obtain ⟨g1, g29, g17, g27, gs, gm, gop⟩ := h
      have eN : (z 15 = 2 ∧ z 16 = 6) ↔ x.2.1 = 316 := pxR_w a2 a3 16 (by decide)
      have eB := pxR_s a2 a3 40 (by decide) (by decide)
      have i27 : z 27 = 8 ↔ op = 8 := by
        rw [g27]
        exact ⟨fun q => nI_inj (a := op) (b := 8) (by omega) (by omega) q, fun q => by rw [q]; rfl⟩
      have e27 : z 27 + 1 = nI (op + 1) := by rw [g27]; exact nI_add op 1
      have pre : ∀ res, (((z 15 = 2 ∧ z 16 = 6) → ((¬ z 27 = 8 → (∃ (z1 : Nat → Int32) (f1 : Nat → FA), mcall (d + 7) 285 [vR 0, vI 9] (LR (uZ z 27 ((z 27) + 1)) f) = some (none, LR z1 f1) ∧ (∃ (z2 : Nat → Int32) (f2 : Nat → FA), mcall (d + 7) 269 [vR 0] (LR z1 f1) = some (none, LR z2 f2) ∧ RC (mcall (d + 7)) (mP 251) 7 (pdue b 1 (some (vI (bI (z 15 = 2 ∧ z 16 = 6))))) [] (LR z2 f2) res))) ∧ (z 27 = 8 → (∃ (r3 : Int32) (z3 : Nat → Int32) (f3 : Nat → FA), mcall (d + 7) 208 [vR 0, vI 3] (LR z f) = some (some (vI r3), LR z3 f3) ∧ res = (some (vI r3), LR z3 f3))))) ∧ ((¬ (z 15 = 2 ∧ z 16 = 6)) → (((z 15 = 4 ∧ z 16 = 40) → ((¬ z 27 = 8 → (∃ (z6 : Nat → Int32) (f6 : Nat → FA), mcall (d + 7) 285 [vR 0, vI 12] (LR (uZ z 27 ((z 27) + 1)) f) = some (none, LR z6 f6) ∧ (∃ (z7 : Nat → Int32) (f7 : Nat → FA), mcall (d + 7) 269 [vR 0] (LR z6 f6) = some (none, LR z7 f7) ∧ RC (mcall (d + 7)) (mP 251) 7 (pdue (b + 1) 1 (some (vI (bI (z 15 = 2 ∧ z 16 = 6))))) [] (LR z7 f7) res))) ∧ (z 27 = 8 → (∃ (r8 : Int32) (z8 : Nat → Int32) (f8 : Nat → FA), mcall (d + 7) 208 [vR 0, vI 3] (LR z f) = some (some (vI r8), LR z8 f8) ∧ res = (some (vI r8), LR z8 f8))))) ∧ ((¬ (z 15 = 4 ∧ z 16 = 40)) → (∃ (r4 : Int32) (z4 : Nat → Int32) (f4 : Nat → FA), mcall (d + 7) 252 [vR 0] (LR z f) = some (some (vI r4), LR z4 f4) ∧ ((¬ r4 = (-1) → (∃ (z5 : Nat → Int32) (f5 : Nat → FA), mcall (d + 7) 273 [vR 0, vI 9] (LR z4 f4) = some (none, LR z5 f5) ∧ RC (mcall (d + 7)) (mP 251) 7 (pdue b 0 (some (vI (bI (z 15 = 2 ∧ z 16 = 6))))) [] (LR z5 f5) res)) ∧ (r4 = (-1) → res = (some (vI ((-1))), LR z4 f4)))))))) → RC (mcall (d + 7)) (mP 251) 7 (pdue b 1 o3) [] (LR z f) res := by
        intro res H
        refine vcc7_251_7 d (nI b) 1 o3 z f res ⟨fun q => absurd q (by decide), fun _ => ?_⟩
        rw [show nI b + 1 = nI (b + 1) from nI_add b 1]
        exact H
      -- what a not, a bracket brings
      have push : ∀ (w : Nat), w < 13 → ¬ op = 8 → ¬ x.2.1 = 2 → ∃ z1 f1 z2, mcall (d + 7) 285 [vR 0, vI (nI w)] (LR (uZ z 27 (z 27 + 1)) f) = some (none, LR z1 f1) ∧ mcall (d + 7) 269 [vR 0] (LR z1 f1) = some (none, LR z2 f1) ∧ prA t n r C (w :: s) (op + 1) z2 f1 ∧ PRG z f z2 f1 := by
        intro w hw h8 hx
        have hA : prA t n (x :: r) C s (op + 1) (uZ z 27 (z 27 + 1)) f := ⟨prR_z g1 (fun j q _ => uZ_n q) (fun _ _ => rfl), by rw [uZ_n (by decide)]; exact g29, g17, by rw [uZ_s]; exact e27, gs, gm, by omega⟩
        obtain ⟨z1, f1, b1, b2, b3⟩ := pwaits (d + 6) hA w hw (by omega)
        obtain ⟨z2, s1, s2, s3⟩ := prAstep b2 hx (d + 4)
        have g0 : PRG z f (uZ z 27 (z 27 + 1)) f := ⟨fun j _ _ _ _ _ q _ => uZ_n q, fun _ _ _ _ => rfl, fun _ _ => ⟨rfl, rfl⟩⟩
        exact ⟨z1, f1, z2, b1, s1, s2, (g0.tr b3).tr s3⟩
      have er3 := er_x (d + 6) 3 (f := f) a1
      by_cases c1 : x.2.1 = 316
      · have y1 := eN.mpr c1
        by_cases c8 : 8 ≤ op
        · rw [pT_8 (Or.inl c1) c8]
          exact ⟨z, f, pre _ ⟨fun _ => ⟨fun q => absurd (i27.mpr (by omega)) q, fun _ => ⟨_, _, _, er3, rfl⟩⟩, fun q => absurd y1 q⟩, PRG.rf⟩
        · obtain ⟨z1, f1, z2, b1, b2, b3, b4⟩ := push 9 (by decide) (by omega) (by omega)
          have n8 : ¬ z 27 = 8 := fun q => by have := i27.mp q; omega
          have e9 : pcn 9 (9 :: s) = pcn 9 s + 1 := if_pos rfl
          have d9 : pdr 9 (9 :: s) = pdr 9 s := if_pos rfl
          have k := ih.1 (op + 1) b (9 :: s) (some (vI (bI (z 15 = 2 ∧ z 16 = 6)))) r C z2 f1 b3 (by rw [e9]; omega) hb8 (by omega) (by show prl C + r.length + (s.length + 1) ≤ 401; omega) (by show s.length + 1 + 3 * (8 - (op + 1)) ≤ 30; omega) (by omega)
          have go : ∀ res, RC (mcall (d + 7)) (mP 251) 7 (pdue b 1 (some (vI (bI (z 15 = 2 ∧ z 16 = 6))))) [] (LR z2 f1) res → RC (mcall (d + 7)) (mP 251) 7 (pdue b 1 o3) [] (LR z f) res := fun res hr => pre res ⟨fun _ => ⟨fun _ => ⟨z1, f1, b1, z2, f1, b2, hr⟩, fun q => absurd q n8⟩, fun q => absurd y1 q⟩
          cases h1 : pB m 0 (op + 1) false false r with
          | inl e =>
            rw [pT_ne c1 c8 h1]
            rw [h1] at k
            obtain ⟨z', f', k1, k2⟩ := k
            exact ⟨z', f', go _ k1, b4.tr k2⟩
          | inr p =>
            obtain ⟨c, r'⟩ := p
            rw [pT_n c1 c8 h1]
            rw [h1] at k
            obtain ⟨z', f', K, ⟨k1, k2⟩, k3, k4⟩ := k
            refine ⟨z', f', K, ⟨?_, k2⟩, b4.tr k3, fun res hr => go res (k4 res hr)⟩
            rw [e9, d9, ← prp_s, show op + 1 - (pcn 9 s + 1) = op - pcn 9 s by omega, ← List.append_assoc c] at k1
            exact k1
      · have ny1 : ¬ (z 15 = 2 ∧ z 16 = 6) := fun q => c1 (eN.mp q)
        by_cases c2 : x.2.1 = 40
        · have y2 := eB.mpr c2
          by_cases c8 : 8 ≤ op
          · rw [pT_8 (Or.inr c2) c8]
            exact ⟨z, f, pre _ ⟨fun q => absurd q ny1, fun _ => ⟨fun _ => ⟨fun q => absurd (i27.mpr (by omega)) q, fun _ => ⟨_, _, _, er3, rfl⟩⟩, fun q => absurd y2 q⟩⟩, PRG.rf⟩
          · obtain ⟨z1, f1, z2, b1, b2, b3, b4⟩ := push 12 (by decide) (by omega) (by omega)
            have n8 : ¬ z 27 = 8 := fun q => by have := i27.mp q; omega
            have tp : pTop (12 :: s) := fun w hw => ⟨if_neg (by omega), if_neg (by omega)⟩
            have k := ih.2 (op + 1) (b + 1) false false (12 :: s) (some (vI (bI (z 15 = 2 ∧ z 16 = 6)))) r C z2 f1 b3 tp (by omega) (by omega) (by show prl C + r.length + (s.length + 1) ≤ 401; omega) (by show s.length + 1 + 2 + 3 * (8 - (op + 1)) ≤ 30; omega) (by omega)
            have go : ∀ res, RC (mcall (d + 7)) (mP 251) 7 (pdue (b + 1) 1 (some (vI (bI (z 15 = 2 ∧ z 16 = 6))))) [] (LR z2 f1) res → RC (mcall (d + 7)) (mP 251) 7 (pdue b 1 o3) [] (LR z f) res := fun res hr => pre res ⟨fun q => absurd q ny1, fun _ => ⟨fun _ => ⟨fun _ => ⟨z1, f1, b1, z2, f1, b2, hr⟩, fun q => absurd q n8⟩, fun q => absurd y2 q⟩⟩
            cases h1 : pB m 1 (op + 1) false false r with
            | inl e =>
              rw [pT_be c2 c8 h1]
              rw [h1] at k
              obtain ⟨z', f', k1, k2⟩ := k
              exact ⟨z', f', go _ k1, b4.tr k2⟩
            | inr p =>
              obtain ⟨c, r'⟩ := p
              rw [h1] at k
              obtain ⟨z', f', K, ⟨k1, o3', rfl⟩, k3, k4⟩ := k
              obtain ⟨y, r', rfl, -⟩ := prR_hd k1.1
              obtain ⟨l1, l2⟩ := (pB_len _).2 _ _ _ _ _ _ h1
              have l1 : prl c + (r'.length + 1) ≤ r.length + 0 + 0 := l1
              obtain ⟨v1, v2, v3, v4⟩ := prR_hd2 k1.1
              have e41 := pxR_s v2 v3 41 (by decide) (by decide)
              have nb : ¬ nI (b + 1) = 0 := fun q => by
                have := nI_inj (a := b + 1) (b := 0) (by omega) (by omega) q
                omega
              by_cases c4 : y.2.1 = 41
              · rw [pT_b1 c2 c8 h1 c4]
                obtain ⟨w1, w29, w17, w27, ws, wm, wop⟩ := k1
                have hA : prA t n (y :: r') (C ++ c) s op (uZ (uZ z' 29 (z' 29 - 1)) 27 (z' 27 - 1)) f' := by
                  refine ⟨prR_z w1 (fun j q1 q2 => by rw [uZ_n q1, uZ_n q2]) (fun _ _ => rfl), ?_, w17.2, ?_, gs, gm, by omega⟩
                  · rw [uZ_n (by decide), uZ_s, w29]
                    exact nI_sub (a := s.length + 1) (b := 1) (by omega)
                  · rw [uZ_s, w27]
                    exact nI_sub (a := op + 1) (b := 1) (by omega)
                obtain ⟨z3, f3, p1, p2, p3⟩ := psets_c (d + 5) 9 (Or.inl ⟨rfl, rfl⟩) hA (by rw [prl_app]; omega) (fun _ => h9)
                rw [if_pos rfl] at p2
                obtain ⟨z4, s1, s2, s3⟩ := prAstep p2 (by omega) (d + 4)
                have g2 : PRG z' f' (uZ (uZ z' 29 (z' 29 - 1)) 27 (z' 27 - 1)) f' := ⟨fun j _ _ _ _ _ q1 q2 => by rw [uZ_n q1, uZ_n q2], fun _ _ _ _ => rfl, fun _ _ => ⟨rfl, rfl⟩⟩
                refine ⟨z4, f3, _, ⟨?_, o3', rfl⟩, (((b4.tr k3).tr g2).tr p3).tr s3, fun res hr => go res (k4 res ⟨fun _ => ⟨fun _ => ⟨z3, f3, p1, z4, f3, s1, ?_⟩, fun q => absurd (e41.mpr c4) q⟩, fun q => absurd q nb⟩)⟩
                · rw [← List.append_assoc]
                  exact s2
                · rw [show nI (b + 1) - 1 = nI b from nI_sub (a := b + 1) (b := 1) (by omega)]
                  exact hr
              · rw [pT_b2 c2 c8 h1 c4]
                exact ⟨z', f', go _ (k4 _ ⟨fun _ => ⟨fun q => absurd (e41.mp q) c4, fun _ => ⟨_, _, _, er_x (d + 6) 1 v1, rfl⟩⟩, fun q => absurd q nb⟩), b4.tr k3⟩
        · have ny2 : ¬ (z 15 = 4 ∧ z 16 = 40) := fun q => c2 (eB.mp q)
          rw [pT_c (fun q => q.elim c1 c2)]
          have k := prcmp d g1 (by show prl C + (r.length + 1) ≤ 401; omega)
          cases h1 : pC (x :: r) with
          | inl e =>
            rw [h1] at k
            obtain ⟨z1, f1, b1, b2⟩ := k
            exact ⟨z1, f1, pre _ ⟨fun q => absurd q ny1, fun _ => ⟨fun q => absurd q ny2, fun _ => ⟨_, _, _, b1, fun q => absurd rfl q, fun _ => rfl⟩⟩⟩, b2.g⟩
          | inr p =>
            obtain ⟨c, r'⟩ := p
            rw [h1] at k
            obtain ⟨z1, f1, b1, b2, b3⟩ := k
            obtain ⟨l1, l2⟩ := pC_len h1
            have l1 : prl c + r'.length ≤ r.length + 1 := l1
            have hr' : 0 < r'.length := by
              obtain ⟨y, q, rfl, -⟩ := prR_hd b2
              exact Nat.succ_pos _
            have hA : prA t n r' (C ++ c) s op z1 f1 := prA_k ⟨g1, g29, g17, g27, gs, gm, gop⟩ b2 b3
            obtain ⟨z3, f3, p1, p2, p3⟩ := psets_c (d + 5) 9 (Or.inl ⟨rfl, rfl⟩) hA (by rw [prl_app]; omega) (fun _ => h9)
            rw [if_pos rfl, List.append_assoc] at p2
            exact ⟨z3, f3, _, ⟨p2, _, rfl⟩, b3.g.tr p3, fun res hr => pre res ⟨fun q => absurd q ny1, fun _ => ⟨fun q => absurd q ny2, fun _ => ⟨_, _, _, b1, fun _ => ⟨z3, f3, p1, hr⟩, fun q => absurd q neg1_0⟩⟩⟩⟩
    · intro op b ei bo s o3 ts C z f h htop hb8 hb hC hs hm
      have p1 := pb1_le ei
      have p2 := pb1_le bo
      have sl := pstk_len ei bo s
      have n9 : pcn 9 (pstk ei bo s) = 0 ∧ pdr 9 (pstk ei bo s) = pstk ei bo s := by
        cases bo with
        | true => exact ⟨if_neg (by decide), if_neg (by decide)⟩
        | false =>
          cases ei with
          | true => exact ⟨if_neg (by decide), if_neg (by decide)⟩
          | false => exact htop 9 (Or.inl rfl)
      have k := ih.1 op b (pstk ei bo s) o3 ts C z f h (by rw [n9.1]; omega) hb8 hb hC (by rw [sl]; omega) (by omega)
      cases h1 : pB m 0 op false false ts with
      | inl e =>
        rw [pL_e h1]
        rw [h1] at k
        exact k
      | inr p =>
        obtain ⟨c, r⟩ := p
        rw [h1] at k
        obtain ⟨z1, f1, K, ⟨k1, o3', rfl⟩, k3, k4⟩ := k
        rw [n9.1, n9.2, show prp 3 0 = [] from rfl, List.append_nil, Nat.sub_zero] at k1
        obtain ⟨y, r, rfl, -⟩ := prR_hd k1.1
        obtain ⟨y1, y2, y3, y4⟩ := prR_hd2 k1.1
        obtain ⟨l1, l2⟩ := (pB_len _).1 _ _ _ _ _ _ h1
        have l1 : prl c + (r.length + 1) ≤ ts.length := l1
        have l2 : r.length + 1 < ts.length := l2
        have eA : (z1 15 = 2 ∧ z1 16 = 5) ↔ y.2.1 = 315 := pxR_w y2 y3 15 (by decide)
        have eO : (z1 15 = 2 ∧ z1 16 = 4) ↔ y.2.1 = 314 := pxR_w y2 y3 14 (by decide)
        -- the ands, and the ors
        have sA : ∃ z2 f2, mcall (d + 7) 273 [vR 0, vI 10] (LR z1 f1) = some (none, LR z2 f2) ∧ prA t n (y :: r) (C ++ (c ++ pbA bo)) (pstk ei false s) op z2 f2 ∧ PRG z1 f1 z2 f2 := by
          obtain ⟨z2, f2, q1, q2, q3⟩ := psets_c (d + 5) 10 (Or.inr (Or.inl ⟨rfl, rfl⟩)) k1 (by rw [prl_app, sl]; rw [sl] at hC; omega) (fun q => absurd q (by decide))
          rw [if_neg (by decide)] at q2
          refine ⟨z2, f2, q1, ?_, q3⟩
          have e1 : prp 10 (pcn 10 (pstk ei bo s)) = pbA bo ∧ pdr 10 (pstk ei bo s) = pstk ei false s := by
            have low : pcn 10 (pstk ei false s) = 0 ∧ pdr 10 (pstk ei false s) = pstk ei false s := by
              cases ei with
              | true => exact ⟨if_neg (by decide), if_neg (by decide)⟩
              | false => exact htop 10 (Or.inr (Or.inl rfl))
            cases bo with
            | false =>
              rw [low.1, low.2]
              exact ⟨rfl, rfl⟩
            | true =>
              have e2 : pcn 10 (pstk ei true s) = pcn 10 (pstk ei false s) + 1 := if_pos rfl
              have e3 : pdr 10 (pstk ei true s) = pdr 10 (pstk ei false s) := if_pos rfl
              rw [e2, e3, low.1, low.2]
              exact ⟨rfl, rfl⟩
          rw [e1.1, e1.2, List.append_assoc] at q2
          exact q2
        obtain ⟨z2, f2, a1, a2, a3⟩ := sA
        have la : prl (pbA bo) = pb1 bo := pbA_len bo
        have sO : ∃ z3 f3, mcall (d + 7) 273 [vR 0, vI 11] (LR z2 f2) = some (none, LR z3 f3) ∧ prA t n (y :: r) (C ++ (c ++ pbA bo ++ pbO ei)) s op z3 f3 ∧ PRG z2 f2 z3 f3 := by
          have sl2 := pstk_len ei false s
          have pf0 : pb1 false = 0 := rfl
          obtain ⟨z3, f3, q1, q2, q3⟩ := psets_c (d + 5) 11 (Or.inr (Or.inr ⟨rfl, rfl⟩)) a2 (by rw [prl_app, prl_app, la, sl2]; rw [sl] at hC; omega) (fun q => absurd q (by decide))
          rw [if_neg (by decide)] at q2
          refine ⟨z3, f3, q1, ?_, q3⟩
          have e1 : prp 11 (pcn 11 (pstk ei false s)) = pbO ei ∧ pdr 11 (pstk ei false s) = s := by
            have low := htop 11 (Or.inr (Or.inr rfl))
            cases ei with
            | false =>
              have e0 : pstk false false s = s := rfl
              rw [e0, low.1, low.2]
              exact ⟨rfl, rfl⟩
            | true =>
              have e2 : pcn 11 (pstk true false s) = pcn 11 s + 1 := if_pos rfl
              have e3 : pdr 11 (pstk true false s) = pdr 11 s := if_pos rfl
              rw [e2, e3, low.1, low.2]
              exact ⟨rfl, rfl⟩
          rw [e1.1, e1.2, List.append_assoc C] at q2
          exact q2
        have go : ∀ res, (((z1 15 = 2 ∧ z1 16 = 5) → (∃ (z5 : Nat → Int32) (f5 : Nat → FA), mcall (d + 7) 273 [vR 0, vI 10] (LR z1 f1) = some (none, LR z5 f5) ∧ (∃ (z6 : Nat → Int32) (f6 : Nat → FA), mcall (d + 7) 285 [vR 0, vI 10] (LR z5 f5) = some (none, LR z6 f6) ∧ (∃ (z7 : Nat → Int32) (f7 : Nat → FA), mcall (d + 7) 269 [vR 0] (LR z6 f6) = some (none, LR z7 f7) ∧ RC (mcall (d + 7)) (mP 251) 7 (pdue b 1 o3') [] (LR z7 f7) res)))) ∧ ((¬ (z1 15 = 2 ∧ z1 16 = 5)) → (((z1 15 = 2 ∧ z1 16 = 4) → (∃ (z1' : Nat → Int32) (f1' : Nat → FA), mcall (d + 7) 273 [vR 0, vI 10] (LR z1 f1) = some (none, LR z1' f1') ∧ (∃ (z2' : Nat → Int32) (f2' : Nat → FA), mcall (d + 7) 273 [vR 0, vI 11] (LR z1' f1') = some (none, LR z2' f2') ∧ (∃ (z3 : Nat → Int32) (f3 : Nat → FA), mcall (d + 7) 285 [vR 0, vI 11] (LR z2' f2') = some (none, LR z3 f3) ∧ (∃ (z4 : Nat → Int32) (f4 : Nat → FA), mcall (d + 7) 269 [vR 0] (LR z3 f3) = some (none, LR z4 f4) ∧ RC (mcall (d + 7)) (mP 251) 7 (pdue b 1 o3') [] (LR z4 f4) res))))) ∧ ((¬ (z1 15 = 2 ∧ z1 16 = 4)) → (∃ (z1' : Nat → Int32) (f1' : Nat → FA), mcall (d + 7) 273 [vR 0, vI 10] (LR z1 f1) = some (none, LR z1' f1') ∧ (∃ (z2' : Nat → Int32) (f2' : Nat → FA), mcall (d + 7) 273 [vR 0, vI 11] (LR z1' f1') = some (none, LR z2' f2') ∧ pEP d b o3' z2' f2' res)))))) → RC (mcall (d + 7)) (mP 251) 7 (pdue b 1 o3) [] (LR z f) res := by
          intro res H
          refine k4 res (vcc7_251_7 d (nI b) 0 o3' z1 f1 res ⟨fun _ => vcc61_251_61 d (nI b) 0 o3' z1 f1 res ⟨fun q => H.1 q, fun q => ⟨fun q2 => (H.2 q).1 q2, fun q2 => ?_⟩⟩, fun q => absurd rfl q⟩)
          obtain ⟨z1', f1', e1, z2', f2', e2, e3⟩ := (H.2 q).2 q2
          exact vcc94_251_94 d (nI b) 0 o3' z1 f1 res ⟨z1', f1', e1, z2', f2', e2, e3⟩
        by_cases c1 : y.2.1 = 315
        · rw [pL_a h1 c1]
          obtain ⟨z3, f3, w1, w2, w3⟩ := pwaits (d + 6) a2 10 (by decide) (by rw [pstk_len]; have pf0 : pb1 false = 0 := rfl; omega)
          obtain ⟨z4, s1, s2, s3⟩ := prAstep w2 (by omega) (d + 4)
          have est : 10 :: pstk ei false s = pstk ei true s := rfl
          rw [est] at s2
          have sl3 := pstk_len ei true s
          have pt1 : pb1 true = 1 := rfl
          have k2 := ih.2 op b ei true s o3' r (C ++ (c ++ pbA bo)) z4 f3 s2 htop hb8 hb (by rw [prl_app, prl_app, la, sl3]; rw [sl] at hC; omega) hs (by omega)
          have g0 := ((k3.tr a3).tr w3).tr s3
          have gg : ∀ res, RC (mcall (d + 7)) (mP 251) 7 (pdue b 1 o3') [] (LR z4 f3) res → RC (mcall (d + 7)) (mP 251) 7 (pdue b 1 o3) [] (LR z f) res := fun res hr => go res ⟨fun _ => ⟨z2, f2, a1, z3, f3, w1, z4, f3, s1, hr⟩, fun q => absurd (eA.mpr c1) q⟩
          cases h2 : pB m 1 op ei true r with
          | inl e =>
            rw [h2] at k2
            obtain ⟨z', f', q1, q2⟩ := k2
            exact ⟨z', f', gg _ q1, g0.tr q2⟩
          | inr p =>
            obtain ⟨c', r'⟩ := p
            rw [h2] at k2
            obtain ⟨z', f', K, ⟨q1, q2⟩, q3, q4⟩ := k2
            rw [List.append_assoc C] at q1
            exact ⟨z', f', K, ⟨q1, q2⟩, g0.tr q3, fun res hr => gg res (q4 res hr)⟩
        · have nA : ¬ (z1 15 = 2 ∧ z1 16 = 5) := fun q => c1 (eA.mp q)
          obtain ⟨z3, f3, o1, o2, o4⟩ := sO
          by_cases c2 : y.2.1 = 314
          · rw [pL_o h1 c2]
            obtain ⟨z4, f4, w1, w2, w3⟩ := pwaits (d + 6) o2 11 (by decide) (by omega)
            obtain ⟨z5, s1, s2, s3⟩ := prAstep w2 (by omega) (d + 4)
            have est : 11 :: s = pstk true false s := rfl
            rw [est] at s2
            have sl3 := pstk_len true false s
            have pt1 : pb1 true = 1 := rfl
            have pf0 : pb1 false = 0 := rfl
            have lo : prl (pbO ei) = pb1 ei := pbO_len ei
            have k2 := ih.2 op b true false s o3' r (C ++ (c ++ pbA bo ++ pbO ei)) z5 f4 s2 htop hb8 hb (by rw [prl_app, prl_app, prl_app, la, lo, sl3]; rw [sl] at hC; omega) hs (by omega)
            have g0 := (((k3.tr a3).tr o4).tr w3).tr s3
            have gg : ∀ res, RC (mcall (d + 7)) (mP 251) 7 (pdue b 1 o3') [] (LR z5 f4) res → RC (mcall (d + 7)) (mP 251) 7 (pdue b 1 o3) [] (LR z f) res := fun res hr => go res ⟨fun q => absurd q nA, fun _ => ⟨fun _ => ⟨z2, f2, a1, z3, f3, o1, z4, f4, w1, z5, f4, s1, hr⟩, fun q => absurd (eO.mpr c2) q⟩⟩
            cases h2 : pB m 1 op true false r with
            | inl e =>
              rw [h2] at k2
              obtain ⟨z', f', q1, q2⟩ := k2
              exact ⟨z', f', gg _ q1, g0.tr q2⟩
            | inr p =>
              obtain ⟨c', r'⟩ := p
              rw [h2] at k2
              obtain ⟨z', f', K, ⟨q1, q2⟩, q3, q4⟩ := k2
              rw [List.append_assoc C] at q1
              exact ⟨z', f', K, ⟨q1, q2⟩, g0.tr q3, fun res hr => gg res (q4 res hr)⟩
          · rw [pL_z h1 c1 c2]
            exact ⟨z3, f3, _, ⟨o2, o3', rfl⟩, (k3.tr a3).tr o4, fun res hr => go res ⟨fun q => absurd q nA, fun _ => ⟨fun q => absurd (eO.mp q) c2, fun _ => ⟨z2, f2, a1, z3, f3, o1, hr⟩⟩⟩⟩
/-- how a condition is read -/
theorem prany {t : FA} {n : Nat} (d : Nat) {ts : List TT} {C : List TK} {z : Nat → Int32} {f : Nat → FA} (h : prR t n ts C z f) (h27 : z 27 = nI 0) (hC : prl C + ts.length ≤ 401) : match pB (2 * ts.length + 2) 1 0 false false ts with
    | .inl e => ∃ z' f', mcall (d + 8) 251 [vR 0] (LR z f) = some (some (vI (-1)), LR (uZ (uZ z' 30 (nI e.1)) 31 (nI e.2)) f') ∧ PRG z f z' f'
    | .inr (c, ts') => ∃ z' f', mcall (d + 8) 251 [vR 0] (LR z f) = some (some (vI 0), LR z' f') ∧ prR t n ts' (C ++ c) z' f' ∧ z' 27 = nI 0 ∧ PRG z f z' f' := by
  have go : ∀ res, RC (mcall (d + 7)) (mP 251) 7 (pdue 0 1 none) [] (LR (uZ z 29 0) f) res → mcall (d + 8) 251 [vR 0] (LR z f) = some res := fun res hr => mcall_i (mq251 (cu := [])).2.2 rfl (vc251_0 d none none none z f res hr)
  have hA : prA t n ts C (pstk false false []) 0 (uZ z 29 0) f := ⟨prR_z h (fun j _ q => uZ_n q) (fun _ _ => rfl), uZ_s, trivial, by rw [uZ_n (by decide)]; exact h27, by decide, fun a ha => (by have ha : a ∈ ([] : List Nat) := ha; cases ha), by decide⟩
  have g0 : PRG z f (uZ z 29 0) f := ⟨fun j _ _ _ _ _ _ q => uZ_n q, fun _ _ _ _ => rfl, fun _ _ => ⟨rfl, rfl⟩⟩
  have k := (pany (t := t) (n := n) d (2 * ts.length + 2)).2 0 0 false false [] none ts C (uZ z 29 0) f hA (fun w _ => ⟨rfl, rfl⟩) (by decide) (by decide) (by show prl C + ts.length + 0 ≤ 401; omega) (by decide) (Nat.le_refl _)
  cases h1 : pB (2 * ts.length + 2) 1 0 false false ts with
  | inl e =>
    rw [h1] at k
    obtain ⟨z', f', k1, k2⟩ := k
    exact ⟨z', f', go _ k1, g0.tr k2⟩
  | inr p =>
    obtain ⟨c, r⟩ := p
    rw [h1] at k
    obtain ⟨z', f', K, ⟨k1, o3', rfl⟩, k3, k4⟩ := k
    exact ⟨z', f', go _ (k4 _ ⟨fun q => absurd rfl q, fun _ => rfl⟩), k1.1, k1.2.2.2.1, g0.tr k3⟩
