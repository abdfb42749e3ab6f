/-! walking a part: counts -/
theorem ctN_cr {p q : Nat → Nat} {w v : Nat} : ∀ n, (∀ j, j < n → (p j = w ↔ q j = v)) → ctN p w n = ctN q v n := by
  intro n
  induction n with
  | zero => intro _; rfl
  | succ n ih =>
    intro h
    show ctN p w n + (if p n = w then 1 else 0) = ctN q v n + (if q n = v then 1 else 0)
    rw [ih (fun j hj => h j (by omega))]
    by_cases c : p n = w
    · rw [if_pos c, if_pos ((h n (by omega)).mp c)]
    · rw [if_neg c, if_neg (fun e => c ((h n (by omega)).mpr e))]
theorem ctN_none {p : Nat → Nat} {w : Nat} : ∀ n, (∀ j, j < n → p j ≠ w) → ctN p w n = 0 := by
  intro n
  induction n with
  | zero => intro _; rfl
  | succ n ih =>
    intro h
    show ctN p w n + (if p n = w then 1 else 0) = 0
    rw [ih (fun j hj => h j (by omega)), if_neg (h n (by omega))]
def nwF (M : Nat → Nat) (i : Nat) (s : FA) (d : Nat) : Nat := if M d = i ∧ s d = 1 then 1 else 0
theorem nwF_i {M : Nat → Nat} {i : Nat} {s : FA} {d : Nat} : nwF M i s d = 1 ↔ M d = i ∧ s d = 1 := by
  unfold nwF
  by_cases h : M d = i ∧ s d = 1
  · rw [if_pos h]
    exact ⟨fun _ => h, fun _ => rfl⟩
  · rw [if_neg h]
    exact ⟨fun q => absurd q (by decide), fun q => absurd q h⟩
theorem nwF_put {M : Nat → Nat} {i : Nat} {s : FA} {c : Nat} (hc : c < 144) (hM : M c = i) (hs : s c = 0) : ctN (nwF M i (upd s c 1)) 1 144 = ctN (nwF M i s) 1 144 + 1 := by
  have a := ctN_upd (p := nwF M i (upd s c 1)) (b := c) (w := 1) (Nat.le_refl 1) (nwF_i.mpr ⟨hM, by rw [pk_us]⟩) 144 hc
  have b := ctN_cong (w := 1) (p := updN (nwF M i (upd s c 1)) c 0) (q := nwF M i s) 144 (fun j _ => by
    by_cases e : j = c
    · rw [e, updN_s, nwF_i, hs]
      exact ⟨fun q => absurd q (by decide), fun q => absurd q.2 (by decide)⟩
    · rw [updN_n e, nwF_i, nwF_i, pk_un e])
  rw [a, b]
/-- what holds while one part is walked -/
def BFQ (mk : Nat → Bool) (M : Nat → Nat) (b : Bool) (i : Nat) (z : Nat → Int32) (f : Nat → FA) (r : Nat) : Prop :=
  z 392 = nI r ∧ r = ctN (nwF M i (f 40)) 1 144 ∧ (∀ d, d < 144 → M d ≠ i → f 40 d = if mk d = b ∧ i ≤ M d then 0 else 1) ∧ (∀ d, d < 144 → f 40 d = 0 ∨ f 40 d = 1) ∧ (∀ j, j < r → ∃ d, d < 144 ∧ f 41 j = nI d ∧ M d = i ∧ f 40 d = 1) ∧ ∀ d, d < 144 → M d = i → f 40 d = 1 → ∃ j, j < r ∧ f 41 j = nI d
def RQF (z : Nat → Int32) (f : Nat → FA) (r : Nat) (z' : Nat → Int32) (f' : Nat → FA) (r' : Nat) : Prop :=
  r ≤ r' ∧ (∀ k, k ≠ 392 → z' k = z k) ∧ (∀ k, k ≠ 40 → k ≠ 41 → f' k = f k) ∧ (∀ j, j < r → f' 41 j = f 41 j) ∧ ∀ e, e < 144 → f 40 e = 1 → f' 40 e = 1
theorem RQF.rf (z : Nat → Int32) (f : Nat → FA) (r : Nat) : RQF z f r z f r := ⟨Nat.le_refl _, fun _ _ => rfl, fun _ _ _ => rfl, fun _ _ => rfl, fun _ _ h => h⟩
theorem RQF.tr {z z1 z2 : Nat → Int32} {f f1 f2 : Nat → FA} {r r1 r2 : Nat} (a : RQF z f r z1 f1 r1) (b : RQF z1 f1 r1 z2 f2 r2) : RQF z f r z2 f2 r2 := by
  obtain ⟨a1, a2, a3, a4, a5⟩ := a
  obtain ⟨b1, b2, b3, b4, b5⟩ := b
  exact ⟨by omega, fun k h => (b2 k h).trans (a2 k h), fun k h h' => (b3 k h h').trans (a3 k h h'), fun j h => (b4 j (by omega)).trans (a4 j h), fun e h h' => b5 e h (a5 e h h')⟩
def PRQ (mk : Nat → Bool) (f : Nat → FA) (k : Nat) : Prop := ∀ j, j < k → ∃ d, d < 144 ∧ f 41 j = nI d ∧ ∀ e, e < 144 → adjW d e → mk d = mk e → f 40 e = 1
def EDQ (M : Nat → Nat) (i : Nat) (z : Nat → Int32) (f : Nat → FA) (k : Nat) : Prop := (z 393 = 0 ∧ ∀ j, j < k → ∀ d, d < 144 → f 41 j = nI d → edW d = false) ∨ (z 393 = 1 ∧ ∃ d, d < 144 ∧ M d = i ∧ edW d = true)
theorem BFQ_end {mk : Nat → Bool} {M : Nat → Nat} {b : Bool} {i : Nat} (hL : LBZ mk M) (hii : M i = i) {z : Nat → Int32} {f : Nat → FA} {r : Nat} (h : BFQ mk M b i z f r) (h1 : f 40 i = 1) (hp : PRQ mk f r) (he : EDQ M i z f r) : z 392 = nI (ctN M i 144) ∧ z 393 = (if aEd M i 144 = true then 1 else 0) ∧ ∀ d, d < 144 → f 40 d = if mk d = b ∧ i + 1 ≤ M d then 0 else 1 := by
  obtain ⟨q1, q2, q3, q4, q5, q6⟩ := h
  have hS : clsW mk (fun x => M x = i ∧ f 40 x = 1) := fun c d hc hd ha e s => by
    obtain ⟨m, s⟩ := s
    obtain ⟨j, hj, ej⟩ := q6 c hc m s
    obtain ⟨d', hd', ed', q⟩ := hp j hj
    have e0 : c = d' := nI_inj (by omega) (by omega) (ej.symm.trans ed')
    subst e0
    exact ⟨(hL.2 c d hc hd ha e).symm.trans m, q d hd ha e⟩
  have all : ∀ d, d < 144 → M d = i → f 40 d = 1 := fun d hd e =>
    ((hL.1.2 _ hS d hd).mpr (by show M (M d) = i ∧ f 40 (M d) = 1; rw [e]; exact ⟨hii, h1⟩)).2
  have er : r = ctN M i 144 := by
    rw [q2]
    exact ctN_cr 144 (fun j hj => by
      rw [nwF_i]
      exact ⟨fun q => q.1, fun q => ⟨q, all j hj q⟩⟩)
  refine ⟨by rw [q1, er], ?_, fun d hd => ?_⟩
  · rcases he with ⟨e1, e2⟩ | ⟨e1, d, hd, e2, e3⟩
    · rw [e1, if_neg (fun q => ?_)]
      obtain ⟨d, hd, e3, e4⟩ := (aEd_i M i 144).mp q
      obtain ⟨j, hj, ej⟩ := q6 d hd e3 (all d hd e3)
      have := e2 j hj d hd ej
      rw [this] at e4
      exact absurd e4 (by decide)
    · rw [e1, if_pos ((aEd_i M i 144).mpr ⟨d, hd, e2, e3⟩)]
  · by_cases e : M d = i
    · rw [all d hd e, if_neg (fun q => by omega)]
    · rw [q3 d hd e]
      by_cases q : mk d = b ∧ i ≤ M d
      · rw [if_pos q, if_pos ⟨q.1, by omega⟩]
      · rw [if_neg q, if_neg (fun w => q ⟨w.1, by omega⟩)]
theorem BFQ_put {mk : Nat → Bool} {M : Nat → Nat} {b : Bool} {i : Nat} {z : Nat → Int32} {f : Nat → FA} {r : Nat} (h : BFQ mk M b i z f r) {p : Nat} (hp : p < 144) (hs : f 40 p = 0) (hM : M p = i) : r < 144 ∧ BFQ mk M b i (uZ z 392 (nI r + 1)) (uA (uA f 40 (upd (f 40) p 1)) 41 (upd (f 41) r (nI p))) (r + 1) ∧ RQF z f r (uZ z 392 (nI r + 1)) (uA (uA f 40 (upd (f 40) p 1)) 41 (upd (f 41) r (nI p))) (r + 1) ∧ uA (uA f 40 (upd (f 40) p 1)) 41 (upd (f 41) r (nI p)) 40 p = 1 := by
  obtain ⟨q1, q2, q3, q4, q5, q6⟩ := h
  have e40 : uA (uA f 40 (upd (f 40) p 1)) 41 (upd (f 41) r (nI p)) 40 = upd (f 40) p 1 := by rw [uA_ne (show (40 : Nat) ≠ 41 by decide), uA_self]
  have e41 : uA (uA f 40 (upd (f 40) p 1)) 41 (upd (f 41) r (nI p)) 41 = upd (f 41) r (nI p) := uA_self _ _ _
  have cn := nwF_put (M := M) (i := i) (s := f 40) hp hM hs
  have cl := ctN_le (nwF M i (upd (f 40) p 1)) 1 144
  have s1 : ∀ d, f 40 d = 1 → upd (f 40) p 1 d = 1 := fun d e => by
    by_cases w : d = p
    · rw [w, pk_us]
    · rw [pk_un w]
      exact e
  refine ⟨by omega, ⟨by rw [uZ_s, nI_s], ?_, fun d hd e => ?_, fun d hd => ?_, fun j hj => ?_, fun d hd e s => ?_⟩, ⟨by omega, fun k hk => uZ_n hk, fun k k1 k2 => (uA_ne k2).trans (uA_ne k1), fun j hj => ?_, fun e _ s => ?_⟩, by rw [e40, pk_us]⟩
  · rw [e40]
    omega
  · rw [e40, pk_un (fun w => e (by rw [w]; exact hM))]
    exact q3 d hd e
  · rw [e40]
    by_cases w : d = p
    · rw [w, pk_us]
      exact Or.inr rfl
    · rw [pk_un w]
      exact q4 d hd
  · rw [e40, e41]
    by_cases w : j = r
    · exact ⟨p, hp, by rw [w, pk_us], hM, by rw [pk_us]⟩
    · obtain ⟨d, d1, d2, d3, d4⟩ := q5 j (by omega)
      exact ⟨d, d1, by rw [pk_un w]; exact d2, d3, s1 d d4⟩
  · rw [e40] at s
    rw [e41]
    by_cases w : d = p
    · exact ⟨r, by omega, by rw [pk_us, w]⟩
    · rw [pk_un w] at s
      obtain ⟨j, hj, ej⟩ := q6 d hd e s
      exact ⟨j, by omega, by rw [pk_un (by omega)]; exact ej⟩
  · rw [e41, pk_un (by omega)]
  · rw [e40]
    exact s1 e s
def bVw (b : Bool) : Int32 := if b = true then 1 else 0
theorem mkV_b {mk : Nat → Bool} {i : Nat} {b : Bool} : mkV mk i = bVw b ↔ mk i = b := by
  unfold mkV bVw
  cases hi : mk i <;> cases b <;> decide
theorem nI_subn {a b : Nat} (ha : a < 2147483647) (hb : b < 2147483647) (h : nI a - 1 = nI b) : a = b + 1 :=
  nI_inj (by omega) (by omega) ((Int32.sub_eq_iff_eq_add.mp h).trans (nI_s b))
/-! what hangs together: the class -/
section TWs
variable {W : TXW}
set_option maxRecDepth 100000 in
theorem bt_27_1 (call : QC FA) (x1 : Int32) (x2 : Int32) (o3 : Option PV) (L : QH FA) (F : Nat) : xnG call 27 (F + 2) 0 [some (vR 39), some (vI x1), some (vI x2), o3] [] L = xnG call 27 F 2 [some (vR 39), some (vI x1), some (vI x2), o3] [vI x2, vI x1] L := rfl
set_option maxRecDepth 100000 in
theorem bt_27_2 (call : QC FA) (a0 : Int32) (a1 : Int32) (ls : List (Option PV)) (z : Nat → Int32) (f : Nat → FA) (F : Nat) : xnG call 27 (F + 1) 2 ls [vI a1, vI a0] (LW W z f) = cbd (call 28 [vI a0, vI a1] (LW W z f)) (fun r L' => xnG call 27 F 3 ls (r.toList ++ []) L') := pcZ (ih := xnG call 27 F) (call := call) (a := 28) (b := 2) (t := 3) (ls := ls) (As := [vI a0, vI a1]) (st' := []) (L := LW W z f) rfl rfl
set_option maxRecDepth 100000 in
theorem bt_27_3 (call : QC FA) (x1 : Int32) (x2 : Int32) (o3 : Option PV) (s0 : Int32) (L : QH FA) (F : Nat) : xnG call 27 (F + 3) 3 [some (vR 39), some (vI x1), some (vI x2), o3] [vI s0] L = xnG call 27 F 6 [some (vR 39), some (vI x1), some (vI x2), some (vI s0)] [vI ((-1)), vI s0] L := rfl
set_option maxRecDepth 100000 in
theorem bt_27_4 (call : QC FA) (x y : Int32) (ls : List (Option PV)) (L : QH FA) (F : Nat) : xnG call 27 (F + 1) 6 ls [vI y, vI x] L = bif pcmp 0 x y then xnG call 27 F 33 ls [] L else xnG call 27 F 7 ls [] L := rfl
set_option maxRecDepth 100000 in
theorem bt_27_5 (call : QC FA) (ls : List (Option PV)) (L : QH FA) (F : Nat) : xnG call 27 (F + 1) 33 ls [] L = some (none, L) := rfl
set_option maxRecDepth 100000 in
theorem bt_27_6 (call : QC FA) (x1 : Int32) (x2 : Int32) (x3 : Int32) (z : Nat → Int32) (f : Nat → FA) (F : Nat) : xnG call 27 (F + 3) 7 [some (vR 39), some (vI x1), some (vI x2), some (vI x3)] [] (LW W z f) = xnG call 27 F 10 [some (vR 39), some (vI x1), some (vI x2), some (vI x3)] [vI x3, vR 40] (LW W z f) := rfl
set_option maxRecDepth 100000 in
theorem bt_27_7 (call : QC FA) (x : Int32) (ls : List (Option PV)) (z : Nat → Int32) (f : Nat → FA) (F : Nat) : xnG call 27 (F + 1) 10 ls [vI x, vR 40] (LW W z f) = bif (Nat.beq 0 0 && pin x 144) then xnG call 27 F 11 ls [vI (f 40 (ix x))] (LW W z f) else none := rfl
set_option maxRecDepth 100000 in
theorem bt_27_8 (call : QC FA) (x : Int32) (ls : List (Option PV)) (L : QH FA) (F : Nat) : xnG call 27 (F + 1) 11 ls [vI x] L = bif pcmp 1 x 0 then xnG call 27 F 33 ls [] L else xnG call 27 F 12 ls [] L := rfl
set_option maxRecDepth 100000 in
theorem bt_27_9 (call : QC FA) (x1 : Int32) (x2 : Int32) (x3 : Int32) (z : Nat → Int32) (f : Nat → FA) (F : Nat) : xnG call 27 (F + 3) 12 [some (vR 39), some (vI x1), some (vI x2), some (vI x3)] [] (LW W z f) = xnG call 27 F 15 [some (vR 39), some (vI x1), some (vI x2), some (vI x3)] [vI 144, vI (z 392)] (LW W z f) := rfl
set_option maxRecDepth 100000 in
theorem bt_27_10 (call : QC FA) (x y : Int32) (ls : List (Option PV)) (L : QH FA) (F : Nat) : xnG call 27 (F + 1) 15 ls [vI y, vI x] L = bif pcmp 3 x y then xnG call 27 F 33 ls [] L else xnG call 27 F 16 ls [] L := rfl
set_option maxRecDepth 100000 in
theorem bt_27_11 (call : QC FA) (x1 : Int32) (x2 : Int32) (x3 : Int32) (z : Nat → Int32) (f : Nat → FA) (F : Nat) : xnG call 27 (F + 4) 16 [some (vR 39), some (vI x1), some (vI x2), some (vI x3)] [] (LW W z f) = xnG call 27 F 20 [some (vR 39), some (vI x1), some (vI x2), some (vI x3)] [vI 1, vI x3, vR 40] (LW W z f) := rfl
set_option maxRecDepth 100000 in
theorem bt_27_12 (call : QC FA) (x y : Int32) (ls : List (Option PV)) (z : Nat → Int32) (f : Nat → FA) (F : Nat) : xnG call 27 (F + 1) 20 ls [vI y, vI x, vR 40] (LW W z f) = bif (Nat.beq 0 0 && pin x 144) then xnG call 27 F 21 ls [] (LW W z (uA f 40 (upd (f 40) (ix x) y))) else none := rfl
set_option maxRecDepth 100000 in
theorem bt_27_13 (call : QC FA) (x1 : Int32) (x2 : Int32) (x3 : Int32) (z : Nat → Int32) (f : Nat → FA) (F : Nat) : xnG call 27 (F + 5) 21 [some (vR 39), some (vI x1), some (vI x2), some (vI x3)] [] (LW W z f) = xnG call 27 F 26 [some (vR 39), some (vI x1), some (vI x2), some (vI x3)] [vI x3, vI (z 392), vR 41] (LW W z f) := rfl
set_option maxRecDepth 100000 in
theorem bt_27_14 (call : QC FA) (x y : Int32) (ls : List (Option PV)) (z : Nat → Int32) (f : Nat → FA) (F : Nat) : xnG call 27 (F + 1) 26 ls [vI y, vI x, vR 41] (LW W z f) = bif (Nat.beq 0 0 && pin x 144) then xnG call 27 F 27 ls [] (LW W z (uA f 41 (upd (f 41) (ix x) y))) else none := rfl
set_option maxRecDepth 100000 in
theorem bt_27_15 (call : QC FA) (x1 : Int32) (x2 : Int32) (x3 : Int32) (z : Nat → Int32) (f : Nat → FA) (F : Nat) : xnG call 27 (F + 5) 27 [some (vR 39), some (vI x1), some (vI x2), some (vI x3)] [] (LW W z f) = xnG call 27 F 32 [some (vR 39), some (vI x1), some (vI x2), some (vI x3)] [vI ((z 392) + 1), vR 39] (LW W z f) := rfl
set_option maxRecDepth 100000 in
theorem bt_27_16 (call : QC FA) (y : Int32) (ls : List (Option PV)) (z : Nat → Int32) (f : Nat → FA) (F : Nat) : xnG call 27 (F + 1) 32 ls [vI y, vR 39] (LW W z f) = xnG call 27 F 33 ls [] (LW W (uZ z 392 y) f) := rfl
theorem vct_27_0 (call : QC FA) (x1 : Int32) (x2 : Int32) (o3 : Option PV) (z : Nat → Int32) (f : Nat → FA) (res : Option PV × QH FA) (H : (∃ (r1 : Int32) (z1 : Nat → Int32) (f1 : Nat → FA), call 28 [vI x1, vI x2] (LW W z f) = some (some (vI r1), LW W z1 f1) ∧ ((r1 = (-1) → res = (none, LW W z1 f1)) ∧ (¬ r1 = (-1) → (pin r1 144 = true ∧ ((¬ f1 40 (ix r1) = 0 → res = (none, LW W z1 f1)) ∧ (f1 40 (ix r1) = 0 → ((144 ≤ I (z1 392) → res = (none, LW W z1 f1)) ∧ (I (z1 392) < 144 → (pin r1 144 = true ∧ (pin (z1 392) 144 = true ∧ res = (none, LW W (uZ z1 392 ((z1 392) + 1)) (uA (uA f1 40 (upd (f1 40) (ix r1) 1)) 41 (upd (f1 41) (ix (z1 392)) r1)))))))))))))) : XC call (mP 27) 0 [some (vR 39), some (vI x1), some (vI x2), o3] [] (LW W z f) res := by
  refine xc_b (i' := 2) (ls' := [some (vR 39), some (vI x1), some (vI x2), o3]) (st' := [vI x2, vI x1]) (L' := LW W z f) 2 (bt_27_1 call x1 x2 o3 _) ?_
  obtain ⟨r1, z1, f1, hc, H⟩ := H
  refine xc_call (t := 3) (ls' := [some (vR 39), some (vI x1), some (vI x2), o3]) (st' := []) (bt_27_2 call x1 x2 _ z f) hc ?_
  show XC call (mP 27) 3 [some (vR 39), some (vI x1), some (vI x2), o3] [vI r1] (LW W z1 f1) res
  refine xc_b (i' := 6) (ls' := [some (vR 39), some (vI x1), some (vI x2), some (vI r1)]) (st' := [vI ((-1)), vI r1]) (L' := LW W z1 f1) 3 (bt_27_3 call x1 x2 o3 r1 _) ?_
  refine xc_if (it := 33) (ie := 7) (ls' := [some (vR 39), some (vI x1), some (vI x2), some (vI r1)]) (st' := []) (bt_27_4 call r1 ((-1)) _ _) (fun q1 => ?_) (fun q1 => ?_)
  · have H := H.1 (cI0t q1)
    subst H
    exact xc_ret (bt_27_5 call _ _)
  · have H := H.2 (cI0f q1)
    refine xc_b (i' := 10) (ls' := [some (vR 39), some (vI x1), some (vI x2), some (vI r1)]) (st' := [vI r1, vR 40]) (L' := LW W z1 f1) 3 (bt_27_6 call x1 x2 r1 z1 f1) ?_
    obtain ⟨g1, H⟩ := H
    refine xc_g (i' := 11) (ls' := [some (vR 39), some (vI x1), some (vI x2), some (vI r1)]) (st' := [vI (f1 40 (ix r1))]) (L' := LW W z1 f1) (bt_27_7 call r1 _ z1 f1) (pinG g1) ?_
    refine xc_if (it := 33) (ie := 12) (ls' := [some (vR 39), some (vI x1), some (vI x2), some (vI r1)]) (st' := []) (bt_27_8 call (f1 40 (ix r1)) _ _) (fun q2 => ?_) (fun q2 => ?_)
    · have H := H.1 (cI1t q2)
      subst H
      exact xc_ret (bt_27_5 call _ _)
    · have H := H.2 (cI1f q2)
      refine xc_b (i' := 15) (ls' := [some (vR 39), some (vI x1), some (vI x2), some (vI r1)]) (st' := [vI 144, vI (z1 392)]) (L' := LW W z1 f1) 3 (bt_27_9 call x1 x2 r1 z1 f1) ?_
      refine xc_if (it := 33) (ie := 16) (ls' := [some (vR 39), some (vI x1), some (vI x2), some (vI r1)]) (st' := []) (bt_27_10 call (z1 392) 144 _ _) (fun q3 => ?_) (fun q3 => ?_)
      · have H := H.1 (cI3t q3 rfl rfl)
        subst H
        exact xc_ret (bt_27_5 call _ _)
      · have H := H.2 (cI3f q3 rfl rfl)
        refine xc_b (i' := 20) (ls' := [some (vR 39), some (vI x1), some (vI x2), some (vI r1)]) (st' := [vI 1, vI r1, vR 40]) (L' := LW W z1 f1) 4 (bt_27_11 call x1 x2 r1 z1 f1) ?_
        obtain ⟨g1, H⟩ := H
        refine xc_g (i' := 21) (ls' := [some (vR 39), some (vI x1), some (vI x2), some (vI r1)]) (st' := []) (L' := LW W z1 (uA f1 40 (upd (f1 40) (ix r1) 1))) (bt_27_12 call r1 1 _ z1 f1) (pinG g1) ?_
        refine xc_b (i' := 26) (ls' := [some (vR 39), some (vI x1), some (vI x2), some (vI r1)]) (st' := [vI r1, vI (z1 392), vR 41]) (L' := LW W z1 (uA f1 40 (upd (f1 40) (ix r1) 1))) 5 (bt_27_13 call x1 x2 r1 z1 (uA f1 40 (upd (f1 40) (ix r1) 1))) ?_
        obtain ⟨g1, H⟩ := H
        refine xc_g (i' := 27) (ls' := [some (vR 39), some (vI x1), some (vI x2), some (vI r1)]) (st' := []) (L' := LW W z1 (uA (uA f1 40 (upd (f1 40) (ix r1) 1)) 41 (upd (f1 41) (ix (z1 392)) r1))) (bt_27_14 call (z1 392) r1 _ z1 (uA f1 40 (upd (f1 40) (ix r1) 1))) (pinG g1) ?_
        refine xc_b (i' := 32) (ls' := [some (vR 39), some (vI x1), some (vI x2), some (vI r1)]) (st' := [vI ((z1 392) + 1), vR 39]) (L' := LW W z1 (uA (uA f1 40 (upd (f1 40) (ix r1) 1)) 41 (upd (f1 41) (ix (z1 392)) r1))) 5 (bt_27_15 call x1 x2 r1 z1 (uA (uA f1 40 (upd (f1 40) (ix r1) 1)) 41 (upd (f1 41) (ix (z1 392)) r1))) ?_
        refine xc_b (i' := 33) (ls' := [some (vR 39), some (vI x1), some (vI x2), some (vI r1)]) (st' := []) (L' := LW W (uZ z1 392 ((z1 392) + 1)) (uA (uA f1 40 (upd (f1 40) (ix r1) 1)) 41 (upd (f1 41) (ix (z1 392)) r1))) 1 (bt_27_16 call ((z1 392) + 1) _ z1 (uA (uA f1 40 (upd (f1 40) (ix r1) 1)) 41 (upd (f1 41) (ix (z1 392)) r1))) ?_
        subst H
        exact xc_ret (bt_27_5 call _ _)
set_option maxRecDepth 100000 in
theorem bt_26_1 (call : QC FA) (x1 : Int32) (o2 : Option PV) (o3 : Option PV) (o4 : Option PV) (L : QH FA) (F : Nat) : xnG call 26 (F + 2) 0 [some (vR 39), some (vI x1), o2, o3, o4] [] L = xnG call 26 F 2 [some (vR 39), some (vI x1), o2, o3, o4] [vI 0, vR 39] L := rfl
set_option maxRecDepth 100000 in
theorem bt_26_2 (call : QC FA) (y : Int32) (ls : List (Option PV)) (z : Nat → Int32) (f : Nat → FA) (F : Nat) : xnG call 26 (F + 1) 2 ls [vI y, vR 39] (LW W z f) = xnG call 26 F 3 ls [] (LW W (uZ z 392 y) f) := rfl
set_option maxRecDepth 100000 in
theorem bt_26_3 (call : QC FA) (x1 : Int32) (o2 : Option PV) (o3 : Option PV) (o4 : Option PV) (L : QH FA) (F : Nat) : xnG call 26 (F + 2) 3 [some (vR 39), some (vI x1), o2, o3, o4] [] L = xnG call 26 F 5 [some (vR 39), some (vI x1), o2, o3, o4] [vI 0, vR 39] L := rfl
set_option maxRecDepth 100000 in
theorem bt_26_4 (call : QC FA) (y : Int32) (ls : List (Option PV)) (z : Nat → Int32) (f : Nat → FA) (F : Nat) : xnG call 26 (F + 1) 5 ls [vI y, vR 39] (LW W z f) = bif (pcmp 0 y 0 || pcmp 0 y 1) then xnG call 26 F 6 ls [] (LW W (uZ z 393 y) f) else none := rfl
set_option maxRecDepth 100000 in
theorem bt_26_5 (call : QC FA) (x1 : Int32) (o2 : Option PV) (o3 : Option PV) (o4 : Option PV) (L : QH FA) (F : Nat) : xnG call 26 (F + 3) 6 [some (vR 39), some (vI x1), o2, o3, o4] [] L = xnG call 26 F 9 [some (vR 39), some (vI x1), o2, o3, o4] [vI 12, vI x1, vR 39] L := rfl
set_option maxRecDepth 100000 in
theorem bt_26_6 (call : QC FA) (x y : Int32) (ls : List (Option PV)) (L : QH FA) (F : Nat) : xnG call 26 (F + 1) 9 ls [vI y, vI x, vR 39] L = bif pcmp 1 y 0 then xnG call 26 F 10 ls [vI (x / y), vR 39] L else none := rfl
set_option maxRecDepth 100000 in
theorem bt_26_7 (call : QC FA) (x1 : Int32) (o2 : Option PV) (o3 : Option PV) (o4 : Option PV) (s0 : Int32) (L : QH FA) (F : Nat) : xnG call 26 (F + 2) 10 [some (vR 39), some (vI x1), o2, o3, o4] [vI s0, vR 39] L = xnG call 26 F 12 [some (vR 39), some (vI x1), o2, o3, o4] [vI 12, vI x1, vI s0, vR 39] L := rfl
set_option maxRecDepth 100000 in
theorem bt_26_8 (call : QC FA) (x y : Int32) (s0 : Int32) (ls : List (Option PV)) (L : QH FA) (F : Nat) : xnG call 26 (F + 1) 12 ls [vI y, vI x, vI s0, vR 39] L = bif pcmp 1 y 0 then xnG call 26 F 13 ls [vI (x - x / y * y), vI s0, vR 39] L else none := rfl
set_option maxRecDepth 100000 in
theorem bt_26_9 (call : QC FA) (a0 : Int32) (a1 : Int32) (ls : List (Option PV)) (z : Nat → Int32) (f : Nat → FA) (F : Nat) : xnG call 26 (F + 1) 13 ls [vI a1, vI a0, vR 39] (LW W z f) = cbd (call 27 [vR 39, vI a0, vI a1] (LW W z f)) (fun r L' => xnG call 26 F 14 ls (r.toList ++ []) L') := pcY (ih := xnG call 26 F) (call := call) (a := 27) (b := 2) (v := 6) (t := 14) (x := 39) (ls := ls) (As := [vI a0, vI a1]) (st' := []) (L := LW W z f) rfl rfl rfl
set_option maxRecDepth 100000 in
theorem bt_26_10 (call : QC FA) (x1 : Int32) (o2 : Option PV) (o3 : Option PV) (o4 : Option PV) (L : QH FA) (F : Nat) : xnG call 26 (F + 2) 14 [some (vR 39), some (vI x1), o2, o3, o4] [] L = xnG call 26 F 16 [some (vR 39), some (vI x1), some (vI 0), o3, o4] [] L := rfl
theorem vct_26_0 (call : QC FA) (x1 : Int32) (o2 : Option PV) (o3 : Option PV) (o4 : Option PV) (z : Nat → Int32) (f : Nat → FA) (res : Option PV × QH FA) (H : (((0 : Int32) = 0 ∨ (0 : Int32) = 1) ∧ (¬ (12 : Int32) = 0 ∧ (¬ (12 : Int32) = 0 ∧ (∃ (z1 : Nat → Int32) (f1 : Nat → FA), call 27 [vR 39, vI (x1 / 12), vI (x1 - x1 / 12 * 12)] (LW W (uZ (uZ z 392 0) 393 0) f) = some (none, LW W z1 f1) ∧ XC call (mP 26) 16 [some (vR 39), some (vI x1), some (vI 0), o3, o4] [] (LW W z1 f1) res))))) : XC call (mP 26) 0 [some (vR 39), some (vI x1), o2, o3, o4] [] (LW W z f) res := by
  refine xc_b (i' := 2) (ls' := [some (vR 39), some (vI x1), o2, o3, o4]) (st' := [vI 0, vR 39]) (L' := LW W z f) 2 (bt_26_1 call x1 o2 o3 o4 _) ?_
  refine xc_b (i' := 3) (ls' := [some (vR 39), some (vI x1), o2, o3, o4]) (st' := []) (L' := LW W (uZ z 392 0) f) 1 (bt_26_2 call 0 _ z f) ?_
  refine xc_b (i' := 5) (ls' := [some (vR 39), some (vI x1), o2, o3, o4]) (st' := [vI 0, vR 39]) (L' := LW W (uZ z 392 0) f) 2 (bt_26_3 call x1 o2 o3 o4 _) ?_
  obtain ⟨g1, H⟩ := H
  refine xc_g (i' := 6) (ls' := [some (vR 39), some (vI x1), o2, o3, o4]) (st' := []) (L' := LW W (uZ (uZ z 392 0) 393 0) f) (bt_26_4 call 0 _ (uZ z 392 0) f) (zG g1) ?_
  refine xc_b (i' := 9) (ls' := [some (vR 39), some (vI x1), o2, o3, o4]) (st' := [vI 12, vI x1, vR 39]) (L' := LW W (uZ (uZ z 392 0) 393 0) f) 3 (bt_26_5 call x1 o2 o3 o4 _) ?_
  obtain ⟨g1, H⟩ := H
  refine xc_g (i' := 10) (ls' := [some (vR 39), some (vI x1), o2, o3, o4]) (st' := [vI (x1 / 12), vR 39]) (L' := LW W (uZ (uZ z 392 0) 393 0) f) (bt_26_6 call x1 12 _ _) (cmp_ne.trans (decide_eq_true g1)) ?_
  refine xc_b (i' := 12) (ls' := [some (vR 39), some (vI x1), o2, o3, o4]) (st' := [vI 12, vI x1, vI (x1 / 12), vR 39]) (L' := LW W (uZ (uZ z 392 0) 393 0) f) 2 (bt_26_7 call x1 o2 o3 o4 (x1 / 12) _) ?_
  obtain ⟨g1, H⟩ := H
  refine xc_g (i' := 13) (ls' := [some (vR 39), some (vI x1), o2, o3, o4]) (st' := [vI (x1 - x1 / 12 * 12), vI (x1 / 12), vR 39]) (L' := LW W (uZ (uZ z 392 0) 393 0) f) (bt_26_8 call x1 12 (x1 / 12) _ _) (cmp_ne.trans (decide_eq_true g1)) ?_
  obtain ⟨z1, f1, hc, H⟩ := H
  refine xc_call (t := 14) (ls' := [some (vR 39), some (vI x1), o2, o3, o4]) (st' := []) (bt_26_9 call (x1 / 12) (x1 - x1 / 12 * 12) _ (uZ (uZ z 392 0) 393 0) f) hc ?_
  show XC call (mP 26) 14 [some (vR 39), some (vI x1), o2, o3, o4] [] (LW W z1 f1) res
  refine xc_b (i' := 16) (ls' := [some (vR 39), some (vI x1), some (vI 0), o3, o4]) (st' := []) (L' := LW W z1 f1) 2 (bt_26_10 call x1 o2 o3 o4 _) ?_
  exact H
set_option maxRecDepth 100000 in
theorem bt_c16_26_1 (call : QC FA) (o1 : Option PV) (x2 : Int32) (o3 : Option PV) (o4 : Option PV) (z : Nat → Int32) (f : Nat → FA) (F : Nat) : xnG call 26 (F + 3) 16 [some (vR 39), o1, some (vI x2), o3, o4] [] (LW W z f) = xnG call 26 F 19 [some (vR 39), o1, some (vI x2), o3, o4] [vI (z 392), vI x2] (LW W z f) := rfl
set_option maxRecDepth 100000 in
theorem bt_c16_26_2 (call : QC FA) (x y : Int32) (ls : List (Option PV)) (L : QH FA) (F : Nat) : xnG call 26 (F + 1) 19 ls [vI y, vI x] L = bif pcmp 3 x y then xnG call 26 F 81 ls [] L else xnG call 26 F 20 ls [] L := rfl
set_option maxRecDepth 100000 in
theorem bt_c16_26_3 (call : QC FA) (ls : List (Option PV)) (L : QH FA) (F : Nat) : xnG call 26 (F + 1) 81 ls [] L = some (none, L) := rfl
set_option maxRecDepth 100000 in
theorem bt_c16_26_4 (call : QC FA) (o1 : Option PV) (x2 : Int32) (o3 : Option PV) (o4 : Option PV) (L : QH FA) (F : Nat) : xnG call 26 (F + 2) 20 [some (vR 39), o1, some (vI x2), o3, o4] [] L = xnG call 26 F 22 [some (vR 39), o1, some (vI x2), o3, o4] [vI 144, vI x2] L := rfl
set_option maxRecDepth 100000 in
theorem bt_c16_26_5 (call : QC FA) (x y : Int32) (ls : List (Option PV)) (L : QH FA) (F : Nat) : xnG call 26 (F + 1) 22 ls [vI y, vI x] L = bif pcmp 3 x y then xnG call 26 F 81 ls [] L else xnG call 26 F 23 ls [] L := rfl
set_option maxRecDepth 100000 in
theorem bt_c16_26_6 (call : QC FA) (o1 : Option PV) (x2 : Int32) (o3 : Option PV) (o4 : Option PV) (z : Nat → Int32) (f : Nat → FA) (F : Nat) : xnG call 26 (F + 3) 23 [some (vR 39), o1, some (vI x2), o3, o4] [] (LW W z f) = xnG call 26 F 26 [some (vR 39), o1, some (vI x2), o3, o4] [vI x2, vR 41] (LW W z f) := rfl
set_option maxRecDepth 100000 in
theorem bt_c16_26_7 (call : QC FA) (x : Int32) (ls : List (Option PV)) (z : Nat → Int32) (f : Nat → FA) (F : Nat) : xnG call 26 (F + 1) 26 ls [vI x, vR 41] (LW W z f) = bif (Nat.beq 0 0 && pin x 144) then xnG call 26 F 27 ls [vI (f 41 (ix x))] (LW W z f) else none := rfl
set_option maxRecDepth 100000 in
theorem bt_c16_26_8 (call : QC FA) (o1 : Option PV) (x2 : Int32) (o3 : Option PV) (o4 : Option PV) (s0 : Int32) (L : QH FA) (F : Nat) : xnG call 26 (F + 1) 27 [some (vR 39), o1, some (vI x2), o3, o4] [vI s0] L = xnG call 26 F 28 [some (vR 39), o1, some (vI x2), o3, o4] [vI 12, vI s0] L := rfl
set_option maxRecDepth 100000 in
theorem bt_c16_26_9 (call : QC FA) (x y : Int32) (ls : List (Option PV)) (L : QH FA) (F : Nat) : xnG call 26 (F + 1) 28 ls [vI y, vI x] L = bif pcmp 1 y 0 then xnG call 26 F 29 ls [vI (x / y)] L else none := rfl
set_option maxRecDepth 100000 in
theorem bt_c16_26_10 (call : QC FA) (o1 : Option PV) (x2 : Int32) (o3 : Option PV) (o4 : Option PV) (s0 : Int32) (z : Nat → Int32) (f : Nat → FA) (F : Nat) : xnG call 26 (F + 4) 29 [some (vR 39), o1, some (vI x2), o3, o4] [vI s0] (LW W z f) = xnG call 26 F 33 [some (vR 39), o1, some (vI x2), some (vI s0), o4] [vI x2, vR 41] (LW W z f) := rfl
set_option maxRecDepth 100000 in
theorem bt_c16_26_11 (call : QC FA) (x : Int32) (ls : List (Option PV)) (z : Nat → Int32) (f : Nat → FA) (F : Nat) : xnG call 26 (F + 1) 33 ls [vI x, vR 41] (LW W z f) = bif (Nat.beq 0 0 && pin x 144) then xnG call 26 F 34 ls [vI (f 41 (ix x))] (LW W z f) else none := rfl
set_option maxRecDepth 100000 in
theorem bt_c16_26_12 (call : QC FA) (o1 : Option PV) (x2 : Int32) (x3 : Int32) (o4 : Option PV) (s0 : Int32) (L : QH FA) (F : Nat) : xnG call 26 (F + 1) 34 [some (vR 39), o1, some (vI x2), some (vI x3), o4] [vI s0] L = xnG call 26 F 35 [some (vR 39), o1, some (vI x2), some (vI x3), o4] [vI 12, vI s0] L := rfl
set_option maxRecDepth 100000 in
theorem bt_c16_26_13 (call : QC FA) (x y : Int32) (ls : List (Option PV)) (L : QH FA) (F : Nat) : xnG call 26 (F + 1) 35 ls [vI y, vI x] L = bif pcmp 1 y 0 then xnG call 26 F 36 ls [vI (x - x / y * y)] L else none := rfl
set_option maxRecDepth 100000 in
theorem bt_c16_26_14 (call : QC FA) (o1 : Option PV) (x2 : Int32) (x3 : Int32) (o4 : Option PV) (s0 : Int32) (z : Nat → Int32) (f : Nat → FA) (F : Nat) : xnG call 26 (F + 4) 36 [some (vR 39), o1, some (vI x2), some (vI x3), o4] [vI s0] (LW W z f) = xnG call 26 F 40 [some (vR 39), o1, some (vI x2), some (vI x3), some (vI s0)] [vI (z 393), vR 39] (LW W z f) := rfl
set_option maxRecDepth 100000 in
theorem bt_c16_26_15 (call : QC FA) (x : Int32) (ls : List (Option PV)) (L : QH FA) (F : Nat) : xnG call 26 (F + 1) 40 ls [vI x, vR 39] L = bif pcmp 1 x 0 then xnG call 26 F 51 ls [vR 39] L else xnG call 26 F 41 ls [vR 39] L := rfl
set_option maxRecDepth 100000 in
theorem bt_c16_26_16 (call : QC FA) (o1 : Option PV) (x2 : Int32) (x3 : Int32) (x4 : Int32) (L : QH FA) (F : Nat) : xnG call 26 (F + 2) 51 [some (vR 39), o1, some (vI x2), some (vI x3), some (vI x4)] [vR 39] L = xnG call 26 F 54 [some (vR 39), o1, some (vI x2), some (vI x3), some (vI x4)] [vI 1, vR 39] L := rfl
set_option maxRecDepth 100000 in
theorem bt_c16_26_17 (call : QC FA) (y : Int32) (ls : List (Option PV)) (z : Nat → Int32) (f : Nat → FA) (F : Nat) : xnG call 26 (F + 1) 54 ls [vI y, vR 39] (LW W z f) = bif (pcmp 0 y 0 || pcmp 0 y 1) then xnG call 26 F 55 ls [] (LW W (uZ z 393 y) f) else none := rfl
set_option maxRecDepth 100000 in
theorem bt_c16_26_18 (call : QC FA) (o1 : Option PV) (x2 : Int32) (x3 : Int32) (x4 : Int32) (L : QH FA) (F : Nat) : xnG call 26 (F + 1) 41 [some (vR 39), o1, some (vI x2), some (vI x3), some (vI x4)] [vR 39] L = xnG call 26 F 42 [some (vR 39), o1, some (vI x2), some (vI x3), some (vI x4)] [vI x3, vR 39] L := rfl
set_option maxRecDepth 100000 in
theorem bt_c16_26_19 (call : QC FA) (x : Int32) (ls : List (Option PV)) (L : QH FA) (F : Nat) : xnG call 26 (F + 1) 42 ls [vI x, vR 39] L = bif pcmp 0 x 0 then xnG call 26 F 51 ls [vR 39] L else xnG call 26 F 43 ls [vR 39] L := rfl
set_option maxRecDepth 100000 in
theorem bt_c16_26_20 (call : QC FA) (o1 : Option PV) (x2 : Int32) (x3 : Int32) (x4 : Int32) (L : QH FA) (F : Nat) : xnG call 26 (F + 2) 43 [some (vR 39), o1, some (vI x2), some (vI x3), some (vI x4)] [vR 39] L = xnG call 26 F 45 [some (vR 39), o1, some (vI x2), some (vI x3), some (vI x4)] [vI 11, vI x3, vR 39] L := rfl
set_option maxRecDepth 100000 in
theorem bt_c16_26_21 (call : QC FA) (x y : Int32) (ls : List (Option PV)) (L : QH FA) (F : Nat) : xnG call 26 (F + 1) 45 ls [vI y, vI x, vR 39] L = bif pcmp 0 x y then xnG call 26 F 51 ls [vR 39] L else xnG call 26 F 46 ls [vR 39] L := rfl
set_option maxRecDepth 100000 in
theorem bt_c16_26_22 (call : QC FA) (o1 : Option PV) (x2 : Int32) (x3 : Int32) (x4 : Int32) (L : QH FA) (F : Nat) : xnG call 26 (F + 1) 46 [some (vR 39), o1, some (vI x2), some (vI x3), some (vI x4)] [vR 39] L = xnG call 26 F 47 [some (vR 39), o1, some (vI x2), some (vI x3), some (vI x4)] [vI x4, vR 39] L := rfl
set_option maxRecDepth 100000 in
theorem bt_c16_26_23 (call : QC FA) (x : Int32) (ls : List (Option PV)) (L : QH FA) (F : Nat) : xnG call 26 (F + 1) 47 ls [vI x, vR 39] L = bif pcmp 0 x 0 then xnG call 26 F 51 ls [vR 39] L else xnG call 26 F 48 ls [vR 39] L := rfl
set_option maxRecDepth 100000 in
theorem bt_c16_26_24 (call : QC FA) (o1 : Option PV) (x2 : Int32) (x3 : Int32) (x4 : Int32) (L : QH FA) (F : Nat) : xnG call 26 (F + 2) 48 [some (vR 39), o1, some (vI x2), some (vI x3), some (vI x4)] [vR 39] L = xnG call 26 F 50 [some (vR 39), o1, some (vI x2), some (vI x3), some (vI x4)] [vI 11, vI x4, vR 39] L := rfl
set_option maxRecDepth 100000 in
theorem bt_c16_26_25 (call : QC FA) (x y : Int32) (ls : List (Option PV)) (L : QH FA) (F : Nat) : xnG call 26 (F + 1) 50 ls [vI y, vI x, vR 39] L = bif pcmp 1 x y then xnG call 26 F 53 ls [vR 39] L else xnG call 26 F 51 ls [vR 39] L := rfl
set_option maxRecDepth 100000 in
theorem bt_c16_26_26 (call : QC FA) (o1 : Option PV) (x2 : Int32) (x3 : Int32) (x4 : Int32) (L : QH FA) (F : Nat) : xnG call 26 (F + 1) 53 [some (vR 39), o1, some (vI x2), some (vI x3), some (vI x4)] [vR 39] L = xnG call 26 F 54 [some (vR 39), o1, some (vI x2), some (vI x3), some (vI x4)] [vI 0, vR 39] L := rfl
theorem vct_c16_26_16 (call : QC FA) (o1 : Option PV) (x2 : Int32) (o3 : Option PV) (o4 : Option PV) (z : Nat → Int32) (f : Nat → FA) (res : Option PV × QH FA) (H : ((I (z 392) ≤ I x2 → res = (none, LW W z f)) ∧ (I x2 < I (z 392) → ((144 ≤ I x2 → res = (none, LW W z f)) ∧ (I x2 < 144 → (pin x2 144 = true ∧ (¬ (12 : Int32) = 0 ∧ (pin x2 144 = true ∧ (¬ (12 : Int32) = 0 ∧ ((¬ z 393 = 0 → (((1 : Int32) = 0 ∨ (1 : Int32) = 1) ∧ XC call (mP 26) 55 [some (vR 39), o1, some (vI x2), some (vI ((f 41 (ix x2)) / 12)), some (vI ((f 41 (ix x2)) - (f 41 (ix x2)) / 12 * 12))] [] (LW W (uZ z 393 1) f) res)) ∧ (z 393 = 0 → (((f 41 (ix x2)) / 12 = 0 → (((1 : Int32) = 0 ∨ (1 : Int32) = 1) ∧ XC call (mP 26) 55 [some (vR 39), o1, some (vI x2), some (vI ((f 41 (ix x2)) / 12)), some (vI ((f 41 (ix x2)) - (f 41 (ix x2)) / 12 * 12))] [] (LW W (uZ z 393 1) f) res)) ∧ (¬ (f 41 (ix x2)) / 12 = 0 → (((f 41 (ix x2)) / 12 = 11 → (((1 : Int32) = 0 ∨ (1 : Int32) = 1) ∧ XC call (mP 26) 55 [some (vR 39), o1, some (vI x2), some (vI ((f 41 (ix x2)) / 12)), some (vI ((f 41 (ix x2)) - (f 41 (ix x2)) / 12 * 12))] [] (LW W (uZ z 393 1) f) res)) ∧ (¬ (f 41 (ix x2)) / 12 = 11 → (((f 41 (ix x2)) - (f 41 (ix x2)) / 12 * 12 = 0 → (((1 : Int32) = 0 ∨ (1 : Int32) = 1) ∧ XC call (mP 26) 55 [some (vR 39), o1, some (vI x2), some (vI ((f 41 (ix x2)) / 12)), some (vI ((f 41 (ix x2)) - (f 41 (ix x2)) / 12 * 12))] [] (LW W (uZ z 393 1) f) res)) ∧ (¬ (f 41 (ix x2)) - (f 41 (ix x2)) / 12 * 12 = 0 → ((¬ (f 41 (ix x2)) - (f 41 (ix x2)) / 12 * 12 = 11 → (((0 : Int32) = 0 ∨ (0 : Int32) = 1) ∧ XC call (mP 26) 55 [some (vR 39), o1, some (vI x2), some (vI ((f 41 (ix x2)) / 12)), some (vI ((f 41 (ix x2)) - (f 41 (ix x2)) / 12 * 12))] [] (LW W (uZ z 393 0) f) res)) ∧ ((f 41 (ix x2)) - (f 41 (ix x2)) / 12 * 12 = 11 → (((1 : Int32) = 0 ∨ (1 : Int32) = 1) ∧ XC call (mP 26) 55 [some (vR 39), o1, some (vI x2), some (vI ((f 41 (ix x2)) / 12)), some (vI ((f 41 (ix x2)) - (f 41 (ix x2)) / 12 * 12))] [] (LW W (uZ z 393 1) f) res)))))))))))))))))))) : XC call (mP 26) 16 [some (vR 39), o1, some (vI x2), o3, o4] [] (LW W z f) res := by
  refine xc_b (i' := 19) (ls' := [some (vR 39), o1, some (vI x2), o3, o4]) (st' := [vI (z 392), vI x2]) (L' := LW W z f) 3 (bt_c16_26_1 call o1 x2 o3 o4 z f) ?_
  refine xc_if (it := 81) (ie := 20) (ls' := [some (vR 39), o1, some (vI x2), o3, o4]) (st' := []) (bt_c16_26_2 call x2 (z 392) _ _) (fun q1 => ?_) (fun q1 => ?_)
  · have H := H.1 (cI3t q1 rfl rfl)
    subst H
    exact xc_ret (bt_c16_26_3 call _ _)
  · have H := H.2 (cI3f q1 rfl rfl)
    refine xc_b (i' := 22) (ls' := [some (vR 39), o1, some (vI x2), o3, o4]) (st' := [vI 144, vI x2]) (L' := LW W z f) 2 (bt_c16_26_4 call o1 x2 o3 o4 _) ?_
    refine xc_if (it := 81) (ie := 23) (ls' := [some (vR 39), o1, some (vI x2), o3, o4]) (st' := []) (bt_c16_26_5 call x2 144 _ _) (fun q2 => ?_) (fun q2 => ?_)
    · have H := H.1 (cI3t q2 rfl rfl)
      subst H
      exact xc_ret (bt_c16_26_3 call _ _)
    · have H := H.2 (cI3f q2 rfl rfl)
      refine xc_b (i' := 26) (ls' := [some (vR 39), o1, some (vI x2), o3, o4]) (st' := [vI x2, vR 41]) (L' := LW W z f) 3 (bt_c16_26_6 call o1 x2 o3 o4 z f) ?_
      obtain ⟨g1, H⟩ := H
      refine xc_g (i' := 27) (ls' := [some (vR 39), o1, some (vI x2), o3, o4]) (st' := [vI (f 41 (ix x2))]) (L' := LW W z f) (bt_c16_26_7 call x2 _ z f) (pinG g1) ?_
      refine xc_b (i' := 28) (ls' := [some (vR 39), o1, some (vI x2), o3, o4]) (st' := [vI 12, vI (f 41 (ix x2))]) (L' := LW W z f) 1 (bt_c16_26_8 call o1 x2 o3 o4 (f 41 (ix x2)) _) ?_
      obtain ⟨g1, H⟩ := H
      refine xc_g (i' := 29) (ls' := [some (vR 39), o1, some (vI x2), o3, o4]) (st' := [vI ((f 41 (ix x2)) / 12)]) (L' := LW W z f) (bt_c16_26_9 call (f 41 (ix x2)) 12 _ _) (cmp_ne.trans (decide_eq_true g1)) ?_
      refine xc_b (i' := 33) (ls' := [some (vR 39), o1, some (vI x2), some (vI ((f 41 (ix x2)) / 12)), o4]) (st' := [vI x2, vR 41]) (L' := LW W z f) 4 (bt_c16_26_10 call o1 x2 o3 o4 ((f 41 (ix x2)) / 12) z f) ?_
      obtain ⟨g1, H⟩ := H
      refine xc_g (i' := 34) (ls' := [some (vR 39), o1, some (vI x2), some (vI ((f 41 (ix x2)) / 12)), o4]) (st' := [vI (f 41 (ix x2))]) (L' := LW W z f) (bt_c16_26_11 call x2 _ z f) (pinG g1) ?_
      refine xc_b (i' := 35) (ls' := [some (vR 39), o1, some (vI x2), some (vI ((f 41 (ix x2)) / 12)), o4]) (st' := [vI 12, vI (f 41 (ix x2))]) (L' := LW W z f) 1 (bt_c16_26_12 call o1 x2 ((f 41 (ix x2)) / 12) o4 (f 41 (ix x2)) _) ?_
      obtain ⟨g1, H⟩ := H
      refine xc_g (i' := 36) (ls' := [some (vR 39), o1, some (vI x2), some (vI ((f 41 (ix x2)) / 12)), o4]) (st' := [vI ((f 41 (ix x2)) - (f 41 (ix x2)) / 12 * 12)]) (L' := LW W z f) (bt_c16_26_13 call (f 41 (ix x2)) 12 _ _) (cmp_ne.trans (decide_eq_true g1)) ?_
      refine xc_b (i' := 40) (ls' := [some (vR 39), o1, some (vI x2), some (vI ((f 41 (ix x2)) / 12)), some (vI ((f 41 (ix x2)) - (f 41 (ix x2)) / 12 * 12))]) (st' := [vI (z 393), vR 39]) (L' := LW W z f) 4 (bt_c16_26_14 call o1 x2 ((f 41 (ix x2)) / 12) o4 ((f 41 (ix x2)) - (f 41 (ix x2)) / 12 * 12) z f) ?_
      refine xc_if (it := 51) (ie := 41) (ls' := [some (vR 39), o1, some (vI x2), some (vI ((f 41 (ix x2)) / 12)), some (vI ((f 41 (ix x2)) - (f 41 (ix x2)) / 12 * 12))]) (st' := [vR 39]) (bt_c16_26_15 call (z 393) _ _) (fun q3 => ?_) (fun q3 => ?_)
      · have H := H.1 (cI1t q3)
        refine xc_b (i' := 54) (ls' := [some (vR 39), o1, some (vI x2), some (vI ((f 41 (ix x2)) / 12)), some (vI ((f 41 (ix x2)) - (f 41 (ix x2)) / 12 * 12))]) (st' := [vI 1, vR 39]) (L' := LW W z f) 2 (bt_c16_26_16 call o1 x2 ((f 41 (ix x2)) / 12) ((f 41 (ix x2)) - (f 41 (ix x2)) / 12 * 12) _) ?_
        obtain ⟨g1, H⟩ := H
        refine xc_g (i' := 55) (ls' := [some (vR 39), o1, some (vI x2), some (vI ((f 41 (ix x2)) / 12)), some (vI ((f 41 (ix x2)) - (f 41 (ix x2)) / 12 * 12))]) (st' := []) (L' := LW W (uZ z 393 1) f) (bt_c16_26_17 call 1 _ z f) (zG g1) ?_
        exact H
      · have H := H.2 (cI1f q3)
        refine xc_b (i' := 42) (ls' := [some (vR 39), o1, some (vI x2), some (vI ((f 41 (ix x2)) / 12)), some (vI ((f 41 (ix x2)) - (f 41 (ix x2)) / 12 * 12))]) (st' := [vI ((f 41 (ix x2)) / 12), vR 39]) (L' := LW W z f) 1 (bt_c16_26_18 call o1 x2 ((f 41 (ix x2)) / 12) ((f 41 (ix x2)) - (f 41 (ix x2)) / 12 * 12) _) ?_
        refine xc_if (it := 51) (ie := 43) (ls' := [some (vR 39), o1, some (vI x2), some (vI ((f 41 (ix x2)) / 12)), some (vI ((f 41 (ix x2)) - (f 41 (ix x2)) / 12 * 12))]) (st' := [vR 39]) (bt_c16_26_19 call ((f 41 (ix x2)) / 12) _ _) (fun q4 => ?_) (fun q4 => ?_)
        · have H := H.1 (cI0t q4)
          refine xc_b (i' := 54) (ls' := [some (vR 39), o1, some (vI x2), some (vI ((f 41 (ix x2)) / 12)), some (vI ((f 41 (ix x2)) - (f 41 (ix x2)) / 12 * 12))]) (st' := [vI 1, vR 39]) (L' := LW W z f) 2 (bt_c16_26_16 call o1 x2 ((f 41 (ix x2)) / 12) ((f 41 (ix x2)) - (f 41 (ix x2)) / 12 * 12) _) ?_
          obtain ⟨g1, H⟩ := H
          refine xc_g (i' := 55) (ls' := [some (vR 39), o1, some (vI x2), some (vI ((f 41 (ix x2)) / 12)), some (vI ((f 41 (ix x2)) - (f 41 (ix x2)) / 12 * 12))]) (st' := []) (L' := LW W (uZ z 393 1) f) (bt_c16_26_17 call 1 _ z f) (zG g1) ?_
          exact H
        · have H := H.2 (cI0f q4)
          refine xc_b (i' := 45) (ls' := [some (vR 39), o1, some (vI x2), some (vI ((f 41 (ix x2)) / 12)), some (vI ((f 41 (ix x2)) - (f 41 (ix x2)) / 12 * 12))]) (st' := [vI 11, vI ((f 41 (ix x2)) / 12), vR 39]) (L' := LW W z f) 2 (bt_c16_26_20 call o1 x2 ((f 41 (ix x2)) / 12) ((f 41 (ix x2)) - (f 41 (ix x2)) / 12 * 12) _) ?_
          refine xc_if (it := 51) (ie := 46) (ls' := [some (vR 39), o1, some (vI x2), some (vI ((f 41 (ix x2)) / 12)), some (vI ((f 41 (ix x2)) - (f 41 (ix x2)) / 12 * 12))]) (st' := [vR 39]) (bt_c16_26_21 call ((f 41 (ix x2)) / 12) 11 _ _) (fun q5 => ?_) (fun q5 => ?_)
          · have H := H.1 (cI0t q5)
            refine xc_b (i' := 54) (ls' := [some (vR 39), o1, some (vI x2), some (vI ((f 41 (ix x2)) / 12)), some (vI ((f 41 (ix x2)) - (f 41 (ix x2)) / 12 * 12))]) (st' := [vI 1, vR 39]) (L' := LW W z f) 2 (bt_c16_26_16 call o1 x2 ((f 41 (ix x2)) / 12) ((f 41 (ix x2)) - (f 41 (ix x2)) / 12 * 12) _) ?_
            obtain ⟨g1, H⟩ := H
            refine xc_g (i' := 55) (ls' := [some (vR 39), o1, some (vI x2), some (vI ((f 41 (ix x2)) / 12)), some (vI ((f 41 (ix x2)) - (f 41 (ix x2)) / 12 * 12))]) (st' := []) (L' := LW W (uZ z 393 1) f) (bt_c16_26_17 call 1 _ z f) (zG g1) ?_
            exact H
          · have H := H.2 (cI0f q5)
            refine xc_b (i' := 47) (ls' := [some (vR 39), o1, some (vI x2), some (vI ((f 41 (ix x2)) / 12)), some (vI ((f 41 (ix x2)) - (f 41 (ix x2)) / 12 * 12))]) (st' := [vI ((f 41 (ix x2)) - (f 41 (ix x2)) / 12 * 12), vR 39]) (L' := LW W z f) 1 (bt_c16_26_22 call o1 x2 ((f 41 (ix x2)) / 12) ((f 41 (ix x2)) - (f 41 (ix x2)) / 12 * 12) _) ?_
            refine xc_if (it := 51) (ie := 48) (ls' := [some (vR 39), o1, some (vI x2), some (vI ((f 41 (ix x2)) / 12)), some (vI ((f 41 (ix x2)) - (f 41 (ix x2)) / 12 * 12))]) (st' := [vR 39]) (bt_c16_26_23 call ((f 41 (ix x2)) - (f 41 (ix x2)) / 12 * 12) _ _) (fun q6 => ?_) (fun q6 => ?_)
            · have H := H.1 (cI0t q6)
              refine xc_b (i' := 54) (ls' := [some (vR 39), o1, some (vI x2), some (vI ((f 41 (ix x2)) / 12)), some (vI ((f 41 (ix x2)) - (f 41 (ix x2)) / 12 * 12))]) (st' := [vI 1, vR 39]) (L' := LW W z f) 2 (bt_c16_26_16 call o1 x2 ((f 41 (ix x2)) / 12) ((f 41 (ix x2)) - (f 41 (ix x2)) / 12 * 12) _) ?_
              obtain ⟨g1, H⟩ := H
              refine xc_g (i' := 55) (ls' := [some (vR 39), o1, some (vI x2), some (vI ((f 41 (ix x2)) / 12)), some (vI ((f 41 (ix x2)) - (f 41 (ix x2)) / 12 * 12))]) (st' := []) (L' := LW W (uZ z 393 1) f) (bt_c16_26_17 call 1 _ z f) (zG g1) ?_
              exact H
            · have H := H.2 (cI0f q6)
              refine xc_b (i' := 50) (ls' := [some (vR 39), o1, some (vI x2), some (vI ((f 41 (ix x2)) / 12)), some (vI ((f 41 (ix x2)) - (f 41 (ix x2)) / 12 * 12))]) (st' := [vI 11, vI ((f 41 (ix x2)) - (f 41 (ix x2)) / 12 * 12), vR 39]) (L' := LW W z f) 2 (bt_c16_26_24 call o1 x2 ((f 41 (ix x2)) / 12) ((f 41 (ix x2)) - (f 41 (ix x2)) / 12 * 12) _) ?_
              refine xc_if (it := 53) (ie := 51) (ls' := [some (vR 39), o1, some (vI x2), some (vI ((f 41 (ix x2)) / 12)), some (vI ((f 41 (ix x2)) - (f 41 (ix x2)) / 12 * 12))]) (st' := [vR 39]) (bt_c16_26_25 call ((f 41 (ix x2)) - (f 41 (ix x2)) / 12 * 12) 11 _ _) (fun q7 => ?_) (fun q7 => ?_)
              · have H := H.1 (cI1t q7)
                refine xc_b (i' := 54) (ls' := [some (vR 39), o1, some (vI x2), some (vI ((f 41 (ix x2)) / 12)), some (vI ((f 41 (ix x2)) - (f 41 (ix x2)) / 12 * 12))]) (st' := [vI 0, vR 39]) (L' := LW W z f) 1 (bt_c16_26_26 call o1 x2 ((f 41 (ix x2)) / 12) ((f 41 (ix x2)) - (f 41 (ix x2)) / 12 * 12) _) ?_
                obtain ⟨g1, H⟩ := H
                refine xc_g (i' := 55) (ls' := [some (vR 39), o1, some (vI x2), some (vI ((f 41 (ix x2)) / 12)), some (vI ((f 41 (ix x2)) - (f 41 (ix x2)) / 12 * 12))]) (st' := []) (L' := LW W (uZ z 393 0) f) (bt_c16_26_17 call 0 _ z f) (zG g1) ?_
                exact H
              · have H := H.2 (cI1f q7)
                refine xc_b (i' := 54) (ls' := [some (vR 39), o1, some (vI x2), some (vI ((f 41 (ix x2)) / 12)), some (vI ((f 41 (ix x2)) - (f 41 (ix x2)) / 12 * 12))]) (st' := [vI 1, vR 39]) (L' := LW W z f) 2 (bt_c16_26_16 call o1 x2 ((f 41 (ix x2)) / 12) ((f 41 (ix x2)) - (f 41 (ix x2)) / 12 * 12) _) ?_
                obtain ⟨g1, H⟩ := H
                refine xc_g (i' := 55) (ls' := [some (vR 39), o1, some (vI x2), some (vI ((f 41 (ix x2)) / 12)), some (vI ((f 41 (ix x2)) - (f 41 (ix x2)) / 12 * 12))]) (st' := []) (L' := LW W (uZ z 393 1) f) (bt_c16_26_17 call 1 _ z f) (zG g1) ?_
                exact H
set_option maxRecDepth 100000 in
theorem bt_c55_26_1 (call : QC FA) (o1 : Option PV) (x2 : Int32) (x3 : Int32) (x4 : Int32) (L : QH FA) (F : Nat) : xnG call 26 (F + 5) 55 [some (vR 39), o1, some (vI x2), some (vI x3), some (vI x4)] [] L = xnG call 26 F 60 [some (vR 39), o1, some (vI x2), some (vI x3), some (vI x4)] [vI x4, vI (x3 + 1), vR 39] L := rfl
set_option maxRecDepth 100000 in
theorem bt_c55_26_2 (call : QC FA) (a0 : Int32) (a1 : Int32) (ls : List (Option PV)) (z : Nat → Int32) (f : Nat → FA) (F : Nat) : xnG call 26 (F + 1) 60 ls [vI a1, vI a0, vR 39] (LW W z f) = cbd (call 27 [vR 39, vI a0, vI a1] (LW W z f)) (fun r L' => xnG call 26 F 61 ls (r.toList ++ []) L') := pcY (ih := xnG call 26 F) (call := call) (a := 27) (b := 2) (v := 6) (t := 61) (x := 39) (ls := ls) (As := [vI a0, vI a1]) (st' := []) (L := LW W z f) rfl rfl rfl
set_option maxRecDepth 100000 in
theorem bt_c55_26_3 (call : QC FA) (o1 : Option PV) (x2 : Int32) (x3 : Int32) (x4 : Int32) (L : QH FA) (F : Nat) : xnG call 26 (F + 5) 61 [some (vR 39), o1, some (vI x2), some (vI x3), some (vI x4)] [] L = xnG call 26 F 66 [some (vR 39), o1, some (vI x2), some (vI x3), some (vI x4)] [vI x4, vI (x3 - 1), vR 39] L := rfl
set_option maxRecDepth 100000 in
theorem bt_c55_26_4 (call : QC FA) (a0 : Int32) (a1 : Int32) (ls : List (Option PV)) (z : Nat → Int32) (f : Nat → FA) (F : Nat) : xnG call 26 (F + 1) 66 ls [vI a1, vI a0, vR 39] (LW W z f) = cbd (call 27 [vR 39, vI a0, vI a1] (LW W z f)) (fun r L' => xnG call 26 F 67 ls (r.toList ++ []) L') := pcY (ih := xnG call 26 F) (call := call) (a := 27) (b := 2) (v := 6) (t := 67) (x := 39) (ls := ls) (As := [vI a0, vI a1]) (st' := []) (L := LW W z f) rfl rfl rfl
set_option maxRecDepth 100000 in
theorem bt_c55_26_5 (call : QC FA) (o1 : Option PV) (x2 : Int32) (x3 : Int32) (x4 : Int32) (L : QH FA) (F : Nat) : xnG call 26 (F + 5) 67 [some (vR 39), o1, some (vI x2), some (vI x3), some (vI x4)] [] L = xnG call 26 F 72 [some (vR 39), o1, some (vI x2), some (vI x3), some (vI x4)] [vI (x4 + 1), vI x3, vR 39] L := rfl
set_option maxRecDepth 100000 in
theorem bt_c55_26_6 (call : QC FA) (a0 : Int32) (a1 : Int32) (ls : List (Option PV)) (z : Nat → Int32) (f : Nat → FA) (F : Nat) : xnG call 26 (F + 1) 72 ls [vI a1, vI a0, vR 39] (LW W z f) = cbd (call 27 [vR 39, vI a0, vI a1] (LW W z f)) (fun r L' => xnG call 26 F 73 ls (r.toList ++ []) L') := pcY (ih := xnG call 26 F) (call := call) (a := 27) (b := 2) (v := 6) (t := 73) (x := 39) (ls := ls) (As := [vI a0, vI a1]) (st' := []) (L := LW W z f) rfl rfl rfl
set_option maxRecDepth 100000 in
theorem bt_c55_26_7 (call : QC FA) (o1 : Option PV) (x2 : Int32) (x3 : Int32) (x4 : Int32) (L : QH FA) (F : Nat) : xnG call 26 (F + 5) 73 [some (vR 39), o1, some (vI x2), some (vI x3), some (vI x4)] [] L = xnG call 26 F 78 [some (vR 39), o1, some (vI x2), some (vI x3), some (vI x4)] [vI (x4 - 1), vI x3, vR 39] L := rfl
set_option maxRecDepth 100000 in
theorem bt_c55_26_8 (call : QC FA) (a0 : Int32) (a1 : Int32) (ls : List (Option PV)) (z : Nat → Int32) (f : Nat → FA) (F : Nat) : xnG call 26 (F + 1) 78 ls [vI a1, vI a0, vR 39] (LW W z f) = cbd (call 27 [vR 39, vI a0, vI a1] (LW W z f)) (fun r L' => xnG call 26 F 79 ls (r.toList ++ []) L') := pcY (ih := xnG call 26 F) (call := call) (a := 27) (b := 2) (v := 6) (t := 79) (x := 39) (ls := ls) (As := [vI a0, vI a1]) (st' := []) (L := LW W z f) rfl rfl rfl
set_option maxRecDepth 100000 in
theorem bt_c55_26_9 (call : QC FA) (o1 : Option PV) (x2 : Int32) (x3 : Int32) (x4 : Int32) (L : QH FA) (F : Nat) : xnG call 26 (F + 1) 79 [some (vR 39), o1, some (vI x2), some (vI x3), some (vI x4)] [] L = xnG call 26 F 80 [some (vR 39), o1, some (vI (x2 + 1)), some (vI x3), some (vI x4)] [] L := rfl
set_option maxRecDepth 100000 in
theorem bt_c55_26_10 (call : QC FA) (o1 : Option PV) (x2 : Int32) (x3 : Int32) (x4 : Int32) (L : QH FA) (F : Nat) : xnG call 26 (F + 1) 80 [some (vR 39), o1, some (vI x2), some (vI x3), some (vI x4)] [] L = xnG call 26 F 16 [some (vR 39), o1, some (vI x2), some (vI x3), some (vI x4)] [] L := rfl
theorem vct_c55_26_55 (call : QC FA) (o1 : Option PV) (x2 : Int32) (x3 : Int32) (x4 : Int32) (z : Nat → Int32) (f : Nat → FA) (res : Option PV × QH FA) (H : (∃ (z1 : Nat → Int32) (f1 : Nat → FA), call 27 [vR 39, vI (x3 + 1), vI x4] (LW W z f) = some (none, LW W z1 f1) ∧ (∃ (z2 : Nat → Int32) (f2 : Nat → FA), call 27 [vR 39, vI (x3 - 1), vI x4] (LW W z1 f1) = some (none, LW W z2 f2) ∧ (∃ (z3 : Nat → Int32) (f3 : Nat → FA), call 27 [vR 39, vI x3, vI (x4 + 1)] (LW W z2 f2) = some (none, LW W z3 f3) ∧ (∃ (z4 : Nat → Int32) (f4 : Nat → FA), call 27 [vR 39, vI x3, vI (x4 - 1)] (LW W z3 f3) = some (none, LW W z4 f4) ∧ XC call (mP 26) 16 [some (vR 39), o1, some (vI (x2 + 1)), some (vI x3), some (vI x4)] [] (LW W z4 f4) res))))) : XC call (mP 26) 55 [some (vR 39), o1, some (vI x2), some (vI x3), some (vI x4)] [] (LW W z f) res := by
  refine xc_b (i' := 60) (ls' := [some (vR 39), o1, some (vI x2), some (vI x3), some (vI x4)]) (st' := [vI x4, vI (x3 + 1), vR 39]) (L' := LW W z f) 5 (bt_c55_26_1 call o1 x2 x3 x4 _) ?_
  obtain ⟨z1, f1, hc, H⟩ := H
  refine xc_call (t := 61) (ls' := [some (vR 39), o1, some (vI x2), some (vI x3), some (vI x4)]) (st' := []) (bt_c55_26_2 call (x3 + 1) x4 _ z f) hc ?_
  show XC call (mP 26) 61 [some (vR 39), o1, some (vI x2), some (vI x3), some (vI x4)] [] (LW W z1 f1) res
  refine xc_b (i' := 66) (ls' := [some (vR 39), o1, some (vI x2), some (vI x3), some (vI x4)]) (st' := [vI x4, vI (x3 - 1), vR 39]) (L' := LW W z1 f1) 5 (bt_c55_26_3 call o1 x2 x3 x4 _) ?_
  obtain ⟨z2, f2, hc, H⟩ := H
  refine xc_call (t := 67) (ls' := [some (vR 39), o1, some (vI x2), some (vI x3), some (vI x4)]) (st' := []) (bt_c55_26_4 call (x3 - 1) x4 _ z1 f1) hc ?_
  show XC call (mP 26) 67 [some (vR 39), o1, some (vI x2), some (vI x3), some (vI x4)] [] (LW W z2 f2) res
  refine xc_b (i' := 72) (ls' := [some (vR 39), o1, some (vI x2), some (vI x3), some (vI x4)]) (st' := [vI (x4 + 1), vI x3, vR 39]) (L' := LW W z2 f2) 5 (bt_c55_26_5 call o1 x2 x3 x4 _) ?_
  obtain ⟨z3, f3, hc, H⟩ := H
  refine xc_call (t := 73) (ls' := [some (vR 39), o1, some (vI x2), some (vI x3), some (vI x4)]) (st' := []) (bt_c55_26_6 call x3 (x4 + 1) _ z2 f2) hc ?_
  show XC call (mP 26) 73 [some (vR 39), o1, some (vI x2), some (vI x3), some (vI x4)] [] (LW W z3 f3) res
  refine xc_b (i' := 78) (ls' := [some (vR 39), o1, some (vI x2), some (vI x3), some (vI x4)]) (st' := [vI (x4 - 1), vI x3, vR 39]) (L' := LW W z3 f3) 5 (bt_c55_26_7 call o1 x2 x3 x4 _) ?_
  obtain ⟨z4, f4, hc, H⟩ := H
  refine xc_call (t := 79) (ls' := [some (vR 39), o1, some (vI x2), some (vI x3), some (vI x4)]) (st' := []) (bt_c55_26_8 call x3 (x4 - 1) _ z3 f3) hc ?_
  show XC call (mP 26) 79 [some (vR 39), o1, some (vI x2), some (vI x3), some (vI x4)] [] (LW W z4 f4) res
  refine xc_b (i' := 80) (ls' := [some (vR 39), o1, some (vI (x2 + 1)), some (vI x3), some (vI x4)]) (st' := []) (L' := LW W z4 f4) 1 (bt_c55_26_9 call o1 x2 x3 x4 _) ?_
  refine xc_b (i' := 16) (ls' := [some (vR 39), o1, some (vI (x2 + 1)), some (vI x3), some (vI x4)]) (st' := []) (L' := LW W z4 f4) 1 (bt_c55_26_10 call o1 (x2 + 1) x3 x4 _) ?_
  exact H
set_option maxRecDepth 100000 in
theorem bt_25_1 (call : QC FA) (x2 : Int32) (x3 : Int32) (o4 : Option PV) (o5 : Option PV) (o6 : Option PV) (o7 : Option PV) (L : QH FA) (F : Nat) : xnG call 25 (F + 8) 0 [some (vR 39), some (vR 2), some (vI x2), some (vI x3), o4, o5, o6, o7] [] L = xnG call 25 F 8 [some (vR 39), some (vR 2), some (vI x2), some (vI x3), some (vI 0), some (vI 0), some (vI 0), some (vI 0)] [] L := rfl
theorem vct_25_0 (call : QC FA) (x2 : Int32) (x3 : Int32) (o4 : Option PV) (o5 : Option PV) (o6 : Option PV) (o7 : Option PV) (z : Nat → Int32) (f : Nat → FA) (res : Option PV × QH FA) (H : XC call (mP 25) 8 [some (vR 39), some (vR 2), some (vI x2), some (vI x3), some (vI 0), some (vI 0), some (vI 0), some (vI 0)] [] (LW W z f) res) : XC call (mP 25) 0 [some (vR 39), some (vR 2), some (vI x2), some (vI x3), o4, o5, o6, o7] [] (LW W z f) res := by
  refine xc_b (i' := 8) (ls' := [some (vR 39), some (vR 2), some (vI x2), some (vI x3), some (vI 0), some (vI 0), some (vI 0), some (vI 0)]) (st' := []) (L' := LW W z f) 8 (bt_25_1 call x2 x3 o4 o5 o6 o7 _) ?_
  exact H
set_option maxRecDepth 100000 in
theorem bt_c8_25_1 (call : QC FA) (x2 : Int32) (x3 : Int32) (x4 : Int32) (x5 : Int32) (x6 : Int32) (x7 : Int32) (L : QH FA) (F : Nat) : xnG call 25 (F + 2) 8 [some (vR 39), some (vR 2), some (vI x2), some (vI x3), some (vI x4), some (vI x5), some (vI x6), some (vI x7)] [] L = xnG call 25 F 10 [some (vR 39), some (vR 2), some (vI x2), some (vI x3), some (vI x4), some (vI x5), some (vI x6), some (vI x7)] [vI 144, vI x7] L := rfl
set_option maxRecDepth 100000 in
theorem bt_c8_25_2 (call : QC FA) (x y : Int32) (ls : List (Option PV)) (L : QH FA) (F : Nat) : xnG call 25 (F + 1) 10 ls [vI y, vI x] L = bif pcmp 3 x y then xnG call 25 F 25 ls [] L else xnG call 25 F 11 ls [] L := rfl
set_option maxRecDepth 100000 in
theorem bt_c8_25_3 (call : QC FA) (x2 : Int32) (x3 : Int32) (x4 : Int32) (x5 : Int32) (x6 : Int32) (x7 : Int32) (L : QH FA) (F : Nat) : xnG call 25 (F + 2) 25 [some (vR 39), some (vR 2), some (vI x2), some (vI x3), some (vI x4), some (vI x5), some (vI x6), some (vI x7)] [] L = xnG call 25 F 27 [some (vR 39), some (vR 2), some (vI x2), some (vI x3), some (vI x4), some (vI x5), some (vI x6), some (vI 0)] [] L := rfl
set_option maxRecDepth 100000 in
theorem bt_c8_25_4 (call : QC FA) (x2 : Int32) (x3 : Int32) (x4 : Int32) (x5 : Int32) (x6 : Int32) (x7 : Int32) (z : Nat → Int32) (f : Nat → FA) (F : Nat) : xnG call 25 (F + 5) 11 [some (vR 39), some (vR 2), some (vI x2), some (vI x3), some (vI x4), some (vI x5), some (vI x6), some (vI x7)] [] (LW W z f) = xnG call 25 F 16 [some (vR 39), some (vR 2), some (vI x2), some (vI x3), some (vI x4), some (vI x5), some (vI x6), some (vI x7)] [vI x7, vR 2, vI x7, vR 40] (LW W z f) := rfl
set_option maxRecDepth 100000 in
theorem bt_c8_25_5 (call : QC FA) (a0 : Int32) (s0 : Int32) (ls : List (Option PV)) (z : Nat → Int32) (f : Nat → FA) (F : Nat) : xnG call 25 (F + 1) 16 ls [vI a0, vR 2, vI s0, vR 40] (LW W z f) = cbd (call 6 [vR 2, vI a0] (LW W z f)) (fun r L' => xnG call 25 F 17 ls (r.toList ++ [vI s0, vR 40]) L') := pcY (ih := xnG call 25 F) (call := call) (a := 6) (b := 1) (v := 0) (t := 17) (x := 2) (ls := ls) (As := [vI a0]) (st' := [vI s0, vR 40]) (L := LW W z f) rfl rfl rfl
set_option maxRecDepth 100000 in
theorem bt_c8_25_6 (call : QC FA) (x2 : Int32) (x3 : Int32) (x4 : Int32) (x5 : Int32) (x6 : Int32) (x7 : Int32) (s0 : Int32) (s1 : Int32) (L : QH FA) (F : Nat) : xnG call 25 (F + 1) 17 [some (vR 39), some (vR 2), some (vI x2), some (vI x3), some (vI x4), some (vI x5), some (vI x6), some (vI x7)] [vI s0, vI s1, vR 40] L = xnG call 25 F 18 [some (vR 39), some (vR 2), some (vI x2), some (vI x3), some (vI x4), some (vI x5), some (vI x6), some (vI x7)] [vI x2, vI s0, vI s1, vR 40] L := rfl
set_option maxRecDepth 100000 in
theorem bt_c8_25_7 (call : QC FA) (x y : Int32) (s0 : Int32) (ls : List (Option PV)) (L : QH FA) (F : Nat) : xnG call 25 (F + 1) 18 ls [vI y, vI x, vI s0, vR 40] L = bif pcmp 1 x y then xnG call 25 F 21 ls [vI s0, vR 40] L else xnG call 25 F 19 ls [vI s0, vR 40] L := rfl
set_option maxRecDepth 100000 in
theorem bt_c8_25_8 (call : QC FA) (x2 : Int32) (x3 : Int32) (x4 : Int32) (x5 : Int32) (x6 : Int32) (x7 : Int32) (s0 : Int32) (L : QH FA) (F : Nat) : xnG call 25 (F + 1) 21 [some (vR 39), some (vR 2), some (vI x2), some (vI x3), some (vI x4), some (vI x5), some (vI x6), some (vI x7)] [vI s0, vR 40] L = xnG call 25 F 22 [some (vR 39), some (vR 2), some (vI x2), some (vI x3), some (vI x4), some (vI x5), some (vI x6), some (vI x7)] [vI 1, vI s0, vR 40] L := rfl
set_option maxRecDepth 100000 in
theorem bt_c8_25_9 (call : QC FA) (x y : Int32) (ls : List (Option PV)) (z : Nat → Int32) (f : Nat → FA) (F : Nat) : xnG call 25 (F + 1) 22 ls [vI y, vI x, vR 40] (LW W z f) = bif (Nat.beq 0 0 && pin x 144) then xnG call 25 F 23 ls [] (LW W z (uA f 40 (upd (f 40) (ix x) y))) else none := rfl
set_option maxRecDepth 100000 in
theorem bt_c8_25_10 (call : QC FA) (x2 : Int32) (x3 : Int32) (x4 : Int32) (x5 : Int32) (x6 : Int32) (x7 : Int32) (L : QH FA) (F : Nat) : xnG call 25 (F + 1) 23 [some (vR 39), some (vR 2), some (vI x2), some (vI x3), some (vI x4), some (vI x5), some (vI x6), some (vI x7)] [] L = xnG call 25 F 24 [some (vR 39), some (vR 2), some (vI x2), some (vI x3), some (vI x4), some (vI x5), some (vI x6), some (vI (x7 + 1))] [] L := rfl
set_option maxRecDepth 100000 in
theorem bt_c8_25_11 (call : QC FA) (x2 : Int32) (x3 : Int32) (x4 : Int32) (x5 : Int32) (x6 : Int32) (x7 : Int32) (L : QH FA) (F : Nat) : xnG call 25 (F + 1) 24 [some (vR 39), some (vR 2), some (vI x2), some (vI x3), some (vI x4), some (vI x5), some (vI x6), some (vI x7)] [] L = xnG call 25 F 8 [some (vR 39), some (vR 2), some (vI x2), some (vI x3), some (vI x4), some (vI x5), some (vI x6), some (vI x7)] [] L := rfl
set_option maxRecDepth 100000 in
theorem bt_c8_25_12 (call : QC FA) (x2 : Int32) (x3 : Int32) (x4 : Int32) (x5 : Int32) (x6 : Int32) (x7 : Int32) (s0 : Int32) (L : QH FA) (F : Nat) : xnG call 25 (F + 2) 19 [some (vR 39), some (vR 2), some (vI x2), some (vI x3), some (vI x4), some (vI x5), some (vI x6), some (vI x7)] [vI s0, vR 40] L = xnG call 25 F 22 [some (vR 39), some (vR 2), some (vI x2), some (vI x3), some (vI x4), some (vI x5), some (vI x6), some (vI x7)] [vI 0, vI s0, vR 40] L := rfl
theorem vct_c8_25_8 (call : QC FA) (x2 : Int32) (x3 : Int32) (x4 : Int32) (x5 : Int32) (x6 : Int32) (x7 : Int32) (z : Nat → Int32) (f : Nat → FA) (res : Option PV × QH FA) (H : ((144 ≤ I x7 → XC call (mP 25) 27 [some (vR 39), some (vR 2), some (vI x2), some (vI x3), some (vI x4), some (vI x5), some (vI x6), some (vI 0)] [] (LW W z f) res) ∧ (I x7 < 144 → (∃ (r1 : Int32) (z1 : Nat → Int32) (f1 : Nat → FA), call 6 [vR 2, vI x7] (LW W z f) = some (some (vI r1), LW W z1 f1) ∧ ((¬ r1 = x2 → (pin x7 144 = true ∧ XC call (mP 25) 8 [some (vR 39), some (vR 2), some (vI x2), some (vI x3), some (vI x4), some (vI x5), some (vI x6), some (vI (x7 + 1))] [] (LW W z1 (uA f1 40 (upd (f1 40) (ix x7) 1))) res)) ∧ (r1 = x2 → (pin x7 144 = true ∧ XC call (mP 25) 8 [some (vR 39), some (vR 2), some (vI x2), some (vI x3), some (vI x4), some (vI x5), some (vI x6), some (vI (x7 + 1))] [] (LW W z1 (uA f1 40 (upd (f1 40) (ix x7) 0))) res))))))) : XC call (mP 25) 8 [some (vR 39), some (vR 2), some (vI x2), some (vI x3), some (vI x4), some (vI x5), some (vI x6), some (vI x7)] [] (LW W z f) res := by
  refine xc_b (i' := 10) (ls' := [some (vR 39), some (vR 2), some (vI x2), some (vI x3), some (vI x4), some (vI x5), some (vI x6), some (vI x7)]) (st' := [vI 144, vI x7]) (L' := LW W z f) 2 (bt_c8_25_1 call x2 x3 x4 x5 x6 x7 _) ?_
  refine xc_if (it := 25) (ie := 11) (ls' := [some (vR 39), some (vR 2), some (vI x2), some (vI x3), some (vI x4), some (vI x5), some (vI x6), some (vI x7)]) (st' := []) (bt_c8_25_2 call x7 144 _ _) (fun q1 => ?_) (fun q1 => ?_)
  · have H := H.1 (cI3t q1 rfl rfl)
    refine xc_b (i' := 27) (ls' := [some (vR 39), some (vR 2), some (vI x2), some (vI x3), some (vI x4), some (vI x5), some (vI x6), some (vI 0)]) (st' := []) (L' := LW W z f) 2 (bt_c8_25_3 call x2 x3 x4 x5 x6 x7 _) ?_
    exact H
  · have H := H.2 (cI3f q1 rfl rfl)
    refine xc_b (i' := 16) (ls' := [some (vR 39), some (vR 2), some (vI x2), some (vI x3), some (vI x4), some (vI x5), some (vI x6), some (vI x7)]) (st' := [vI x7, vR 2, vI x7, vR 40]) (L' := LW W z f) 5 (bt_c8_25_4 call x2 x3 x4 x5 x6 x7 z f) ?_
    obtain ⟨r1, z1, f1, hc, H⟩ := H
    refine xc_call (t := 17) (ls' := [some (vR 39), some (vR 2), some (vI x2), some (vI x3), some (vI x4), some (vI x5), some (vI x6), some (vI x7)]) (st' := [vI x7, vR 40]) (bt_c8_25_5 call x7 x7 _ z f) hc ?_
    show XC call (mP 25) 17 [some (vR 39), some (vR 2), some (vI x2), some (vI x3), some (vI x4), some (vI x5), some (vI x6), some (vI x7)] [vI r1, vI x7, vR 40] (LW W z1 f1) res
    refine xc_b (i' := 18) (ls' := [some (vR 39), some (vR 2), some (vI x2), some (vI x3), some (vI x4), some (vI x5), some (vI x6), some (vI x7)]) (st' := [vI x2, vI r1, vI x7, vR 40]) (L' := LW W z1 f1) 1 (bt_c8_25_6 call x2 x3 x4 x5 x6 x7 r1 x7 _) ?_
    refine xc_if (it := 21) (ie := 19) (ls' := [some (vR 39), some (vR 2), some (vI x2), some (vI x3), some (vI x4), some (vI x5), some (vI x6), some (vI x7)]) (st' := [vI x7, vR 40]) (bt_c8_25_7 call r1 x2 x7 _ _) (fun q2 => ?_) (fun q2 => ?_)
    · have H := H.1 (cI1t q2)
      refine xc_b (i' := 22) (ls' := [some (vR 39), some (vR 2), some (vI x2), some (vI x3), some (vI x4), some (vI x5), some (vI x6), some (vI x7)]) (st' := [vI 1, vI x7, vR 40]) (L' := LW W z1 f1) 1 (bt_c8_25_8 call x2 x3 x4 x5 x6 x7 x7 _) ?_
      obtain ⟨g1, H⟩ := H
      refine xc_g (i' := 23) (ls' := [some (vR 39), some (vR 2), some (vI x2), some (vI x3), some (vI x4), some (vI x5), some (vI x6), some (vI x7)]) (st' := []) (L' := LW W z1 (uA f1 40 (upd (f1 40) (ix x7) 1))) (bt_c8_25_9 call x7 1 _ z1 f1) (pinG g1) ?_
      refine xc_b (i' := 24) (ls' := [some (vR 39), some (vR 2), some (vI x2), some (vI x3), some (vI x4), some (vI x5), some (vI x6), some (vI (x7 + 1))]) (st' := []) (L' := LW W z1 (uA f1 40 (upd (f1 40) (ix x7) 1))) 1 (bt_c8_25_10 call x2 x3 x4 x5 x6 x7 _) ?_
      refine xc_b (i' := 8) (ls' := [some (vR 39), some (vR 2), some (vI x2), some (vI x3), some (vI x4), some (vI x5), some (vI x6), some (vI (x7 + 1))]) (st' := []) (L' := LW W z1 (uA f1 40 (upd (f1 40) (ix x7) 1))) 1 (bt_c8_25_11 call x2 x3 x4 x5 x6 (x7 + 1) _) ?_
      exact H
    · have H := H.2 (cI1f q2)
      refine xc_b (i' := 22) (ls' := [some (vR 39), some (vR 2), some (vI x2), some (vI x3), some (vI x4), some (vI x5), some (vI x6), some (vI x7)]) (st' := [vI 0, vI x7, vR 40]) (L' := LW W z1 f1) 2 (bt_c8_25_12 call x2 x3 x4 x5 x6 x7 x7 _) ?_
      obtain ⟨g1, H⟩ := H
      refine xc_g (i' := 23) (ls' := [some (vR 39), some (vR 2), some (vI x2), some (vI x3), some (vI x4), some (vI x5), some (vI x6), some (vI x7)]) (st' := []) (L' := LW W z1 (uA f1 40 (upd (f1 40) (ix x7) 0))) (bt_c8_25_9 call x7 0 _ z1 f1) (pinG g1) ?_
      refine xc_b (i' := 24) (ls' := [some (vR 39), some (vR 2), some (vI x2), some (vI x3), some (vI x4), some (vI x5), some (vI x6), some (vI (x7 + 1))]) (st' := []) (L' := LW W z1 (uA f1 40 (upd (f1 40) (ix x7) 0))) 1 (bt_c8_25_10 call x2 x3 x4 x5 x6 x7 _) ?_
      refine xc_b (i' := 8) (ls' := [some (vR 39), some (vR 2), some (vI x2), some (vI x3), some (vI x4), some (vI x5), some (vI x6), some (vI (x7 + 1))]) (st' := []) (L' := LW W z1 (uA f1 40 (upd (f1 40) (ix x7) 0))) 1 (bt_c8_25_11 call x2 x3 x4 x5 x6 (x7 + 1) _) ?_
      exact H
set_option maxRecDepth 100000 in
theorem bt_c27_25_1 (call : QC FA) (o2 : Option PV) (x3 : Int32) (x4 : Int32) (x5 : Int32) (x6 : Int32) (x7 : Int32) (L : QH FA) (F : Nat) : xnG call 25 (F + 2) 27 [some (vR 39), some (vR 2), o2, some (vI x3), some (vI x4), some (vI x5), some (vI x6), some (vI x7)] [] L = xnG call 25 F 29 [some (vR 39), some (vR 2), o2, some (vI x3), some (vI x4), some (vI x5), some (vI x6), some (vI x7)] [vI 144, vI x7] L := rfl
set_option maxRecDepth 100000 in
theorem bt_c27_25_2 (call : QC FA) (x y : Int32) (ls : List (Option PV)) (L : QH FA) (F : Nat) : xnG call 25 (F + 1) 29 ls [vI y, vI x] L = bif pcmp 3 x y then xnG call 25 F 55 ls [] L else xnG call 25 F 30 ls [] L := rfl
set_option maxRecDepth 100000 in
theorem bt_c27_25_3 (call : QC FA) (o2 : Option PV) (x3 : Int32) (x4 : Int32) (x5 : Int32) (x6 : Int32) (x7 : Int32) (L : QH FA) (F : Nat) : xnG call 25 (F + 1) 55 [some (vR 39), some (vR 2), o2, some (vI x3), some (vI x4), some (vI x5), some (vI x6), some (vI x7)] [] L = xnG call 25 F 56 [some (vR 39), some (vR 2), o2, some (vI x3), some (vI x4), some (vI x5), some (vI x6), some (vI x7)] [vI x3] L := rfl
set_option maxRecDepth 100000 in
theorem bt_c27_25_4 (call : QC FA) (x : Int32) (ls : List (Option PV)) (L : QH FA) (F : Nat) : xnG call 25 (F + 1) 56 ls [vI x] L = bif pcmp 1 x 0 then xnG call 25 F 59 ls [] L else xnG call 25 F 57 ls [] L := rfl
set_option maxRecDepth 100000 in
theorem bt_c27_25_5 (call : QC FA) (o2 : Option PV) (x3 : Int32) (x4 : Int32) (x5 : Int32) (x6 : Int32) (x7 : Int32) (L : QH FA) (F : Nat) : xnG call 25 (F + 2) 59 [some (vR 39), some (vR 2), o2, some (vI x3), some (vI x4), some (vI x5), some (vI x6), some (vI x7)] [] L = xnG call 25 F 61 [some (vR 39), some (vR 2), o2, some (vI x3), some (vI x4), some (vI x5), some (vI x6), some (vI x7)] [vI 1, vI x3] L := rfl
set_option maxRecDepth 100000 in
theorem bt_c27_25_6 (call : QC FA) (x y : Int32) (ls : List (Option PV)) (L : QH FA) (F : Nat) : xnG call 25 (F + 1) 61 ls [vI y, vI x] L = bif pcmp 1 x y then xnG call 25 F 64 ls [] L else xnG call 25 F 62 ls [] L := rfl
set_option maxRecDepth 100000 in
theorem bt_c27_25_7 (call : QC FA) (o2 : Option PV) (x3 : Int32) (x4 : Int32) (x5 : Int32) (x6 : Int32) (x7 : Int32) (L : QH FA) (F : Nat) : xnG call 25 (F + 1) 64 [some (vR 39), some (vR 2), o2, some (vI x3), some (vI x4), some (vI x5), some (vI x6), some (vI x7)] [] L = xnG call 25 F 65 [some (vR 39), some (vR 2), o2, some (vI x3), some (vI x4), some (vI x5), some (vI x6), some (vI x7)] [vI x6] L := rfl
set_option maxRecDepth 100000 in
theorem bt_c27_25_8 (call : QC FA) (x : Int32) (ls : List (Option PV)) (L : QH FA) (F : Nat) : xnG call 25 (F + 1) 65 ls [vI x] L = some (some (vI x), L) := rfl
set_option maxRecDepth 100000 in
theorem bt_c27_25_9 (call : QC FA) (o2 : Option PV) (x3 : Int32) (x4 : Int32) (x5 : Int32) (x6 : Int32) (x7 : Int32) (L : QH FA) (F : Nat) : xnG call 25 (F + 2) 62 [some (vR 39), some (vR 2), o2, some (vI x3), some (vI x4), some (vI x5), some (vI x6), some (vI x7)] [] L = xnG call 25 F 65 [some (vR 39), some (vR 2), o2, some (vI x3), some (vI x4), some (vI x5), some (vI x6), some (vI x7)] [vI x5] L := rfl
set_option maxRecDepth 100000 in
theorem bt_c27_25_10 (call : QC FA) (o2 : Option PV) (x3 : Int32) (x4 : Int32) (x5 : Int32) (x6 : Int32) (x7 : Int32) (L : QH FA) (F : Nat) : xnG call 25 (F + 1) 57 [some (vR 39), some (vR 2), o2, some (vI x3), some (vI x4), some (vI x5), some (vI x6), some (vI x7)] [] L = xnG call 25 F 58 [some (vR 39), some (vR 2), o2, some (vI x3), some (vI x4), some (vI x5), some (vI x6), some (vI x7)] [vI x4] L := rfl
set_option maxRecDepth 100000 in
theorem bt_c27_25_11 (call : QC FA) (x : Int32) (ls : List (Option PV)) (L : QH FA) (F : Nat) : xnG call 25 (F + 1) 58 ls [vI x] L = some (some (vI x), L) := rfl
set_option maxRecDepth 100000 in
theorem bt_c27_25_12 (call : QC FA) (o2 : Option PV) (x3 : Int32) (x4 : Int32) (x5 : Int32) (x6 : Int32) (x7 : Int32) (z : Nat → Int32) (f : Nat → FA) (F : Nat) : xnG call 25 (F + 3) 30 [some (vR 39), some (vR 2), o2, some (vI x3), some (vI x4), some (vI x5), some (vI x6), some (vI x7)] [] (LW W z f) = xnG call 25 F 33 [some (vR 39), some (vR 2), o2, some (vI x3), some (vI x4), some (vI x5), some (vI x6), some (vI x7)] [vI x7, vR 40] (LW W z f) := rfl
set_option maxRecDepth 100000 in
theorem bt_c27_25_13 (call : QC FA) (x : Int32) (ls : List (Option PV)) (z : Nat → Int32) (f : Nat → FA) (F : Nat) : xnG call 25 (F + 1) 33 ls [vI x, vR 40] (LW W z f) = bif (Nat.beq 0 0 && pin x 144) then xnG call 25 F 34 ls [vI (f 40 (ix x))] (LW W z f) else none := rfl
set_option maxRecDepth 100000 in
theorem bt_c27_25_14 (call : QC FA) (x : Int32) (ls : List (Option PV)) (L : QH FA) (F : Nat) : xnG call 25 (F + 1) 34 ls [vI x] L = bif pcmp 1 x 0 then xnG call 25 F 53 ls [] L else xnG call 25 F 35 ls [] L := rfl
set_option maxRecDepth 100000 in
theorem bt_c27_25_15 (call : QC FA) (o2 : Option PV) (x3 : Int32) (x4 : Int32) (x5 : Int32) (x6 : Int32) (x7 : Int32) (L : QH FA) (F : Nat) : xnG call 25 (F + 1) 53 [some (vR 39), some (vR 2), o2, some (vI x3), some (vI x4), some (vI x5), some (vI x6), some (vI x7)] [] L = xnG call 25 F 54 [some (vR 39), some (vR 2), o2, some (vI x3), some (vI x4), some (vI x5), some (vI x6), some (vI (x7 + 1))] [] L := rfl
set_option maxRecDepth 100000 in
theorem bt_c27_25_16 (call : QC FA) (o2 : Option PV) (x3 : Int32) (x4 : Int32) (x5 : Int32) (x6 : Int32) (x7 : Int32) (L : QH FA) (F : Nat) : xnG call 25 (F + 1) 54 [some (vR 39), some (vR 2), o2, some (vI x3), some (vI x4), some (vI x5), some (vI x6), some (vI x7)] [] L = xnG call 25 F 27 [some (vR 39), some (vR 2), o2, some (vI x3), some (vI x4), some (vI x5), some (vI x6), some (vI x7)] [] L := rfl
set_option maxRecDepth 100000 in
theorem bt_c27_25_17 (call : QC FA) (o2 : Option PV) (x3 : Int32) (x4 : Int32) (x5 : Int32) (x6 : Int32) (x7 : Int32) (L : QH FA) (F : Nat) : xnG call 25 (F + 2) 35 [some (vR 39), some (vR 2), o2, some (vI x3), some (vI x4), some (vI x5), some (vI x6), some (vI x7)] [] L = xnG call 25 F 37 [some (vR 39), some (vR 2), o2, some (vI x3), some (vI x4), some (vI x5), some (vI x6), some (vI x7)] [vI x7, vR 39] L := rfl
set_option maxRecDepth 100000 in
theorem bt_c27_25_18 (call : QC FA) (a0 : Int32) (ls : List (Option PV)) (z : Nat → Int32) (f : Nat → FA) (F : Nat) : xnG call 25 (F + 1) 37 ls [vI a0, vR 39] (LW W z f) = cbd (call 26 [vR 39, vI a0] (LW W z f)) (fun r L' => xnG call 25 F 38 ls (r.toList ++ []) L') := pcY (ih := xnG call 25 F) (call := call) (a := 26) (b := 1) (v := 6) (t := 38) (x := 39) (ls := ls) (As := [vI a0]) (st' := []) (L := LW W z f) rfl rfl rfl
set_option maxRecDepth 100000 in
theorem bt_c27_25_19 (call : QC FA) (o2 : Option PV) (x3 : Int32) (x4 : Int32) (x5 : Int32) (x6 : Int32) (x7 : Int32) (L : QH FA) (F : Nat) : xnG call 25 (F + 1) 38 [some (vR 39), some (vR 2), o2, some (vI x3), some (vI x4), some (vI x5), some (vI x6), some (vI x7)] [] L = xnG call 25 F 39 [some (vR 39), some (vR 2), o2, some (vI x3), some (vI (x4 + 1)), some (vI x5), some (vI x6), some (vI x7)] [] L := rfl
set_option maxRecDepth 100000 in
theorem bt_c27_25_20 (call : QC FA) (o2 : Option PV) (x3 : Int32) (x4 : Int32) (x5 : Int32) (x6 : Int32) (x7 : Int32) (z : Nat → Int32) (f : Nat → FA) (F : Nat) : xnG call 25 (F + 3) 39 [some (vR 39), some (vR 2), o2, some (vI x3), some (vI x4), some (vI x5), some (vI x6), some (vI x7)] [] (LW W z f) = xnG call 25 F 42 [some (vR 39), some (vR 2), o2, some (vI x3), some (vI x4), some (vI x5), some (vI x6), some (vI x7)] [vI (z 392), vI x5] (LW W z f) := rfl
set_option maxRecDepth 100000 in
theorem bt_c27_25_21 (call : QC FA) (x y : Int32) (ls : List (Option PV)) (L : QH FA) (F : Nat) : xnG call 25 (F + 1) 42 ls [vI y, vI x] L = bif pcmp 2 x y then xnG call 25 F 43 ls [vI y] L else xnG call 25 F 43 ls [vI x] L := pmxr (xnG call 25 F) 43 x y ls [] L rfl
set_option maxRecDepth 100000 in
theorem bt_c27_25_22 (call : QC FA) (o2 : Option PV) (x3 : Int32) (x4 : Int32) (x5 : Int32) (x6 : Int32) (x7 : Int32) (s0 : Int32) (z : Nat → Int32) (f : Nat → FA) (F : Nat) : xnG call 25 (F + 4) 43 [some (vR 39), some (vR 2), o2, some (vI x3), some (vI x4), some (vI x5), some (vI x6), some (vI x7)] [vI s0] (LW W z f) = xnG call 25 F 47 [some (vR 39), some (vR 2), o2, some (vI x3), some (vI x4), some (vI s0), some (vI x6), some (vI x7)] [vI (z 393), vI x6] (LW W z f) := rfl
set_option maxRecDepth 100000 in
theorem bt_c27_25_23 (call : QC FA) (x : Int32) (s0 : Int32) (ls : List (Option PV)) (L : QH FA) (F : Nat) : xnG call 25 (F + 1) 47 ls [vI x, vI s0] L = bif pcmp 0 x 0 then xnG call 25 F 50 ls [vI s0] L else xnG call 25 F 48 ls [vI s0] L := rfl
set_option maxRecDepth 100000 in
theorem bt_c27_25_24 (call : QC FA) (o2 : Option PV) (x3 : Int32) (x4 : Int32) (x5 : Int32) (x6 : Int32) (x7 : Int32) (s0 : Int32) (L : QH FA) (F : Nat) : xnG call 25 (F + 3) 50 [some (vR 39), some (vR 2), o2, some (vI x3), some (vI x4), some (vI x5), some (vI x6), some (vI x7)] [vI s0] L = xnG call 25 F 53 [some (vR 39), some (vR 2), o2, some (vI x3), some (vI x4), some (vI x5), some (vI (s0 + 1)), some (vI x7)] [] L := rfl
set_option maxRecDepth 100000 in
theorem bt_c27_25_25 (call : QC FA) (o2 : Option PV) (x3 : Int32) (x4 : Int32) (x5 : Int32) (x6 : Int32) (x7 : Int32) (s0 : Int32) (L : QH FA) (F : Nat) : xnG call 25 (F + 4) 48 [some (vR 39), some (vR 2), o2, some (vI x3), some (vI x4), some (vI x5), some (vI x6), some (vI x7)] [vI s0] L = xnG call 25 F 53 [some (vR 39), some (vR 2), o2, some (vI x3), some (vI x4), some (vI x5), some (vI (s0 + 0)), some (vI x7)] [] L := rfl
theorem vct_c27_25_27 (call : QC FA) (o2 : Option PV) (x3 : Int32) (x4 : Int32) (x5 : Int32) (x6 : Int32) (x7 : Int32) (z : Nat → Int32) (f : Nat → FA) (res : Option PV × QH FA) (H : ((144 ≤ I x7 → ((¬ x3 = 0 → ((¬ x3 = 1 → res = (some (vI x6), LW W z f)) ∧ (x3 = 1 → res = (some (vI x5), LW W z f)))) ∧ (x3 = 0 → res = (some (vI x4), LW W z f)))) ∧ (I x7 < 144 → (pin x7 144 = true ∧ ((¬ f 40 (ix x7) = 0 → XC call (mP 25) 27 [some (vR 39), some (vR 2), o2, some (vI x3), some (vI x4), some (vI x5), some (vI x6), some (vI (x7 + 1))] [] (LW W z f) res) ∧ (f 40 (ix x7) = 0 → (∃ (z1 : Nat → Int32) (f1 : Nat → FA), call 26 [vR 39, vI x7] (LW W z f) = some (none, LW W z1 f1) ∧ ((I x5 < I (z1 392) → ((z1 393 = 0 → XC call (mP 25) 27 [some (vR 39), some (vR 2), o2, some (vI x3), some (vI (x4 + 1)), some (vI (z1 392)), some (vI (x6 + 1)), some (vI (x7 + 1))] [] (LW W z1 f1) res) ∧ (¬ z1 393 = 0 → XC call (mP 25) 27 [some (vR 39), some (vR 2), o2, some (vI x3), some (vI (x4 + 1)), some (vI (z1 392)), some (vI (x6 + 0)), some (vI (x7 + 1))] [] (LW W z1 f1) res))) ∧ (I (z1 392) ≤ I x5 → ((z1 393 = 0 → XC call (mP 25) 27 [some (vR 39), some (vR 2), o2, some (vI x3), some (vI (x4 + 1)), some (vI x5), some (vI (x6 + 1)), some (vI (x7 + 1))] [] (LW W z1 f1) res) ∧ (¬ z1 393 = 0 → XC call (mP 25) 27 [some (vR 39), some (vR 2), o2, some (vI x3), some (vI (x4 + 1)), some (vI x5), some (vI (x6 + 0)), some (vI (x7 + 1))] [] (LW W z1 f1) res))))))))))) : XC call (mP 25) 27 [some (vR 39), some (vR 2), o2, some (vI x3), some (vI x4), some (vI x5), some (vI x6), some (vI x7)] [] (LW W z f) res := by
  refine xc_b (i' := 29) (ls' := [some (vR 39), some (vR 2), o2, some (vI x3), some (vI x4), some (vI x5), some (vI x6), some (vI x7)]) (st' := [vI 144, vI x7]) (L' := LW W z f) 2 (bt_c27_25_1 call o2 x3 x4 x5 x6 x7 _) ?_
  refine xc_if (it := 55) (ie := 30) (ls' := [some (vR 39), some (vR 2), o2, some (vI x3), some (vI x4), some (vI x5), some (vI x6), some (vI x7)]) (st' := []) (bt_c27_25_2 call x7 144 _ _) (fun q1 => ?_) (fun q1 => ?_)
  · have H := H.1 (cI3t q1 rfl rfl)
    refine xc_b (i' := 56) (ls' := [some (vR 39), some (vR 2), o2, some (vI x3), some (vI x4), some (vI x5), some (vI x6), some (vI x7)]) (st' := [vI x3]) (L' := LW W z f) 1 (bt_c27_25_3 call o2 x3 x4 x5 x6 x7 _) ?_
    refine xc_if (it := 59) (ie := 57) (ls' := [some (vR 39), some (vR 2), o2, some (vI x3), some (vI x4), some (vI x5), some (vI x6), some (vI x7)]) (st' := []) (bt_c27_25_4 call x3 _ _) (fun q2 => ?_) (fun q2 => ?_)
    · have H := H.1 (cI1t q2)
      refine xc_b (i' := 61) (ls' := [some (vR 39), some (vR 2), o2, some (vI x3), some (vI x4), some (vI x5), some (vI x6), some (vI x7)]) (st' := [vI 1, vI x3]) (L' := LW W z f) 2 (bt_c27_25_5 call o2 x3 x4 x5 x6 x7 _) ?_
      refine xc_if (it := 64) (ie := 62) (ls' := [some (vR 39), some (vR 2), o2, some (vI x3), some (vI x4), some (vI x5), some (vI x6), some (vI x7)]) (st' := []) (bt_c27_25_6 call x3 1 _ _) (fun q3 => ?_) (fun q3 => ?_)
      · have H := H.1 (cI1t q3)
        refine xc_b (i' := 65) (ls' := [some (vR 39), some (vR 2), o2, some (vI x3), some (vI x4), some (vI x5), some (vI x6), some (vI x7)]) (st' := [vI x6]) (L' := LW W z f) 1 (bt_c27_25_7 call o2 x3 x4 x5 x6 x7 _) ?_
        subst H
        exact xc_ret (bt_c27_25_8 call _ _ _)
      · have H := H.2 (cI1f q3)
        refine xc_b (i' := 65) (ls' := [some (vR 39), some (vR 2), o2, some (vI x3), some (vI x4), some (vI x5), some (vI x6), some (vI x7)]) (st' := [vI x5]) (L' := LW W z f) 2 (bt_c27_25_9 call o2 x3 x4 x5 x6 x7 _) ?_
        subst H
        exact xc_ret (bt_c27_25_8 call _ _ _)
    · have H := H.2 (cI1f q2)
      refine xc_b (i' := 58) (ls' := [some (vR 39), some (vR 2), o2, some (vI x3), some (vI x4), some (vI x5), some (vI x6), some (vI x7)]) (st' := [vI x4]) (L' := LW W z f) 1 (bt_c27_25_10 call o2 x3 x4 x5 x6 x7 _) ?_
      subst H
      exact xc_ret (bt_c27_25_11 call _ _ _)
  · have H := H.2 (cI3f q1 rfl rfl)
    refine xc_b (i' := 33) (ls' := [some (vR 39), some (vR 2), o2, some (vI x3), some (vI x4), some (vI x5), some (vI x6), some (vI x7)]) (st' := [vI x7, vR 40]) (L' := LW W z f) 3 (bt_c27_25_12 call o2 x3 x4 x5 x6 x7 z f) ?_
    obtain ⟨g1, H⟩ := H
    refine xc_g (i' := 34) (ls' := [some (vR 39), some (vR 2), o2, some (vI x3), some (vI x4), some (vI x5), some (vI x6), some (vI x7)]) (st' := [vI (f 40 (ix x7))]) (L' := LW W z f) (bt_c27_25_13 call x7 _ z f) (pinG g1) ?_
    refine xc_if (it := 53) (ie := 35) (ls' := [some (vR 39), some (vR 2), o2, some (vI x3), some (vI x4), some (vI x5), some (vI x6), some (vI x7)]) (st' := []) (bt_c27_25_14 call (f 40 (ix x7)) _ _) (fun q4 => ?_) (fun q4 => ?_)
    · have H := H.1 (cI1t q4)
      refine xc_b (i' := 54) (ls' := [some (vR 39), some (vR 2), o2, some (vI x3), some (vI x4), some (vI x5), some (vI x6), some (vI (x7 + 1))]) (st' := []) (L' := LW W z f) 1 (bt_c27_25_15 call o2 x3 x4 x5 x6 x7 _) ?_
      refine xc_b (i' := 27) (ls' := [some (vR 39), some (vR 2), o2, some (vI x3), some (vI x4), some (vI x5), some (vI x6), some (vI (x7 + 1))]) (st' := []) (L' := LW W z f) 1 (bt_c27_25_16 call o2 x3 x4 x5 x6 (x7 + 1) _) ?_
      exact H
    · have H := H.2 (cI1f q4)
      refine xc_b (i' := 37) (ls' := [some (vR 39), some (vR 2), o2, some (vI x3), some (vI x4), some (vI x5), some (vI x6), some (vI x7)]) (st' := [vI x7, vR 39]) (L' := LW W z f) 2 (bt_c27_25_17 call o2 x3 x4 x5 x6 x7 _) ?_
      obtain ⟨z1, f1, hc, H⟩ := H
      refine xc_call (t := 38) (ls' := [some (vR 39), some (vR 2), o2, some (vI x3), some (vI x4), some (vI x5), some (vI x6), some (vI x7)]) (st' := []) (bt_c27_25_18 call x7 _ z f) hc ?_
      show XC call (mP 25) 38 [some (vR 39), some (vR 2), o2, some (vI x3), some (vI x4), some (vI x5), some (vI x6), some (vI x7)] [] (LW W z1 f1) res
      refine xc_b (i' := 39) (ls' := [some (vR 39), some (vR 2), o2, some (vI x3), some (vI (x4 + 1)), some (vI x5), some (vI x6), some (vI x7)]) (st' := []) (L' := LW W z1 f1) 1 (bt_c27_25_19 call o2 x3 x4 x5 x6 x7 _) ?_
      refine xc_b (i' := 42) (ls' := [some (vR 39), some (vR 2), o2, some (vI x3), some (vI (x4 + 1)), some (vI x5), some (vI x6), some (vI x7)]) (st' := [vI (z1 392), vI x5]) (L' := LW W z1 f1) 3 (bt_c27_25_20 call o2 x3 (x4 + 1) x5 x6 x7 z1 f1) ?_
      refine xc_if2 (it := 43) (ie := 43) (ls' := [some (vR 39), some (vR 2), o2, some (vI x3), some (vI (x4 + 1)), some (vI x5), some (vI x6), some (vI x7)]) (st1 := [vI (z1 392)]) (st2 := [vI x5]) (bt_c27_25_21 call x5 (z1 392) _ _) (fun q5 => ?_) (fun q5 => ?_)
      · have H := H.1 (cI2t q5 rfl rfl)
        refine xc_b (i' := 47) (ls' := [some (vR 39), some (vR 2), o2, some (vI x3), some (vI (x4 + 1)), some (vI (z1 392)), some (vI x6), some (vI x7)]) (st' := [vI (z1 393), vI x6]) (L' := LW W z1 f1) 4 (bt_c27_25_22 call o2 x3 (x4 + 1) x5 x6 x7 (z1 392) z1 f1) ?_
        refine xc_if (it := 50) (ie := 48) (ls' := [some (vR 39), some (vR 2), o2, some (vI x3), some (vI (x4 + 1)), some (vI (z1 392)), some (vI x6), some (vI x7)]) (st' := [vI x6]) (bt_c27_25_23 call (z1 393) x6 _ _) (fun q6 => ?_) (fun q6 => ?_)
        · have H := H.1 (cI0t q6)
          refine xc_b (i' := 53) (ls' := [some (vR 39), some (vR 2), o2, some (vI x3), some (vI (x4 + 1)), some (vI (z1 392)), some (vI (x6 + 1)), some (vI x7)]) (st' := []) (L' := LW W z1 f1) 3 (bt_c27_25_24 call o2 x3 (x4 + 1) (z1 392) x6 x7 x6 _) ?_
          refine xc_b (i' := 54) (ls' := [some (vR 39), some (vR 2), o2, some (vI x3), some (vI (x4 + 1)), some (vI (z1 392)), some (vI (x6 + 1)), some (vI (x7 + 1))]) (st' := []) (L' := LW W z1 f1) 1 (bt_c27_25_15 call o2 x3 (x4 + 1) (z1 392) (x6 + 1) x7 _) ?_
          refine xc_b (i' := 27) (ls' := [some (vR 39), some (vR 2), o2, some (vI x3), some (vI (x4 + 1)), some (vI (z1 392)), some (vI (x6 + 1)), some (vI (x7 + 1))]) (st' := []) (L' := LW W z1 f1) 1 (bt_c27_25_16 call o2 x3 (x4 + 1) (z1 392) (x6 + 1) (x7 + 1) _) ?_
          exact H
        · have H := H.2 (cI0f q6)
          refine xc_b (i' := 53) (ls' := [some (vR 39), some (vR 2), o2, some (vI x3), some (vI (x4 + 1)), some (vI (z1 392)), some (vI (x6 + 0)), some (vI x7)]) (st' := []) (L' := LW W z1 f1) 4 (bt_c27_25_25 call o2 x3 (x4 + 1) (z1 392) x6 x7 x6 _) ?_
          refine xc_b (i' := 54) (ls' := [some (vR 39), some (vR 2), o2, some (vI x3), some (vI (x4 + 1)), some (vI (z1 392)), some (vI (x6 + 0)), some (vI (x7 + 1))]) (st' := []) (L' := LW W z1 f1) 1 (bt_c27_25_15 call o2 x3 (x4 + 1) (z1 392) (x6 + 0) x7 _) ?_
          refine xc_b (i' := 27) (ls' := [some (vR 39), some (vR 2), o2, some (vI x3), some (vI (x4 + 1)), some (vI (z1 392)), some (vI (x6 + 0)), some (vI (x7 + 1))]) (st' := []) (L' := LW W z1 f1) 1 (bt_c27_25_16 call o2 x3 (x4 + 1) (z1 392) (x6 + 0) (x7 + 1) _) ?_
          exact H
      · have H := H.2 (cI2f q5 rfl rfl)
        refine xc_b (i' := 47) (ls' := [some (vR 39), some (vR 2), o2, some (vI x3), some (vI (x4 + 1)), some (vI x5), some (vI x6), some (vI x7)]) (st' := [vI (z1 393), vI x6]) (L' := LW W z1 f1) 4 (bt_c27_25_22 call o2 x3 (x4 + 1) x5 x6 x7 x5 z1 f1) ?_
        refine xc_if (it := 50) (ie := 48) (ls' := [some (vR 39), some (vR 2), o2, some (vI x3), some (vI (x4 + 1)), some (vI x5), some (vI x6), some (vI x7)]) (st' := [vI x6]) (bt_c27_25_23 call (z1 393) x6 _ _) (fun q7 => ?_) (fun q7 => ?_)
        · have H := H.1 (cI0t q7)
          refine xc_b (i' := 53) (ls' := [some (vR 39), some (vR 2), o2, some (vI x3), some (vI (x4 + 1)), some (vI x5), some (vI (x6 + 1)), some (vI x7)]) (st' := []) (L' := LW W z1 f1) 3 (bt_c27_25_24 call o2 x3 (x4 + 1) x5 x6 x7 x6 _) ?_
          refine xc_b (i' := 54) (ls' := [some (vR 39), some (vR 2), o2, some (vI x3), some (vI (x4 + 1)), some (vI x5), some (vI (x6 + 1)), some (vI (x7 + 1))]) (st' := []) (L' := LW W z1 f1) 1 (bt_c27_25_15 call o2 x3 (x4 + 1) x5 (x6 + 1) x7 _) ?_
          refine xc_b (i' := 27) (ls' := [some (vR 39), some (vR 2), o2, some (vI x3), some (vI (x4 + 1)), some (vI x5), some (vI (x6 + 1)), some (vI (x7 + 1))]) (st' := []) (L' := LW W z1 f1) 1 (bt_c27_25_16 call o2 x3 (x4 + 1) x5 (x6 + 1) (x7 + 1) _) ?_
          exact H
        · have H := H.2 (cI0f q7)
          refine xc_b (i' := 53) (ls' := [some (vR 39), some (vR 2), o2, some (vI x3), some (vI (x4 + 1)), some (vI x5), some (vI (x6 + 0)), some (vI x7)]) (st' := []) (L' := LW W z1 f1) 4 (bt_c27_25_25 call o2 x3 (x4 + 1) x5 x6 x7 x6 _) ?_
          refine xc_b (i' := 54) (ls' := [some (vR 39), some (vR 2), o2, some (vI x3), some (vI (x4 + 1)), some (vI x5), some (vI (x6 + 0)), some (vI (x7 + 1))]) (st' := []) (L' := LW W z1 f1) 1 (bt_c27_25_15 call o2 x3 (x4 + 1) x5 (x6 + 0) x7 _) ?_
          refine xc_b (i' := 27) (ls' := [some (vR 39), some (vR 2), o2, some (vI x3), some (vI (x4 + 1)), some (vI x5), some (vI (x6 + 0)), some (vI (x7 + 1))]) (st' := []) (L' := LW W z1 f1) 1 (bt_c27_25_16 call o2 x3 (x4 + 1) x5 (x6 + 0) (x7 + 1) _) ?_
          exact H
set_option maxRecDepth 100000 in
theorem bt_24_1 (call : QC FA) (L : QH FA) (F : Nat) : xnG call 24 (F + 4) 0 [some (vR 39), some (vR 2)] [] L = xnG call 24 F 4 [some (vR 39), some (vR 2)] [vI 0, vI 1, vR 2, vR 39] L := rfl
set_option maxRecDepth 100000 in
theorem bt_24_2 (call : QC FA) (a1 : Int32) (a2 : Int32) (ls : List (Option PV)) (z : Nat → Int32) (f : Nat → FA) (F : Nat) : xnG call 24 (F + 1) 4 ls [vI a2, vI a1, vR 2, vR 39] (LW W z f) = cbd (call 25 [vR 39, vR 2, vI a1, vI a2] (LW W z f)) (fun r L' => xnG call 24 F 5 ls (r.toList ++ []) L') := pcY (ih := xnG call 24 F) (call := call) (a := 25) (b := 3) (v := 6) (t := 5) (x := 39) (ls := ls) (As := [vR 2, vI a1, vI a2]) (st' := []) (L := LW W z f) rfl rfl rfl
set_option maxRecDepth 100000 in
theorem bt_24_3 (call : QC FA) (x : Int32) (ls : List (Option PV)) (L : QH FA) (F : Nat) : xnG call 24 (F + 1) 5 ls [vI x] L = some (some (vI x), L) := rfl
theorem vct_24_0 (call : QC FA) (z : Nat → Int32) (f : Nat → FA) (res : Option PV × QH FA) (H : (∃ (r1 : Int32) (z1 : Nat → Int32) (f1 : Nat → FA), call 25 [vR 39, vR 2, vI 1, vI 0] (LW W z f) = some (some (vI r1), LW W z1 f1) ∧ res = (some (vI r1), LW W z1 f1))) : XC call (mP 24) 0 [some (vR 39), some (vR 2)] [] (LW W z f) res := by
  refine xc_b (i' := 4) (ls' := [some (vR 39), some (vR 2)]) (st' := [vI 0, vI 1, vR 2, vR 39]) (L' := LW W z f) 4 (bt_24_1 call _) ?_
  obtain ⟨r1, z1, f1, hc, H⟩ := H
  refine xc_call (t := 5) (ls' := [some (vR 39), some (vR 2)]) (st' := []) (bt_24_2 call 1 0 _ z f) hc ?_
  show XC call (mP 24) 5 [some (vR 39), some (vR 2)] [vI r1] (LW W z1 f1) res
  subst H
  exact xc_ret (bt_24_3 call _ _ _)
set_option maxRecDepth 100000 in
theorem bt_29_1 (call : QC FA) (L : QH FA) (F : Nat) : xnG call 29 (F + 4) 0 [some (vR 39), some (vR 2)] [] L = xnG call 29 F 4 [some (vR 39), some (vR 2)] [vI 1, vI 1, vR 2, vR 39] L := rfl
set_option maxRecDepth 100000 in
theorem bt_29_2 (call : QC FA) (a1 : Int32) (a2 : Int32) (ls : List (Option PV)) (z : Nat → Int32) (f : Nat → FA) (F : Nat) : xnG call 29 (F + 1) 4 ls [vI a2, vI a1, vR 2, vR 39] (LW W z f) = cbd (call 25 [vR 39, vR 2, vI a1, vI a2] (LW W z f)) (fun r L' => xnG call 29 F 5 ls (r.toList ++ []) L') := pcY (ih := xnG call 29 F) (call := call) (a := 25) (b := 3) (v := 6) (t := 5) (x := 39) (ls := ls) (As := [vR 2, vI a1, vI a2]) (st' := []) (L := LW W z f) rfl rfl rfl
set_option maxRecDepth 100000 in
theorem bt_29_3 (call : QC FA) (x : Int32) (ls : List (Option PV)) (L : QH FA) (F : Nat) : xnG call 29 (F + 1) 5 ls [vI x] L = some (some (vI x), L) := rfl
theorem vct_29_0 (call : QC FA) (z : Nat → Int32) (f : Nat → FA) (res : Option PV × QH FA) (H : (∃ (r1 : Int32) (z1 : Nat → Int32) (f1 : Nat → FA), call 25 [vR 39, vR 2, vI 1, vI 1] (LW W z f) = some (some (vI r1), LW W z1 f1) ∧ res = (some (vI r1), LW W z1 f1))) : XC call (mP 29) 0 [some (vR 39), some (vR 2)] [] (LW W z f) res := by
  refine xc_b (i' := 4) (ls' := [some (vR 39), some (vR 2)]) (st' := [vI 1, vI 1, vR 2, vR 39]) (L' := LW W z f) 4 (bt_29_1 call _) ?_
  obtain ⟨r1, z1, f1, hc, H⟩ := H
  refine xc_call (t := 5) (ls' := [some (vR 39), some (vR 2)]) (st' := []) (bt_29_2 call 1 1 _ z f) hc ?_
  show XC call (mP 29) 5 [some (vR 39), some (vR 2)] [vI r1] (LW W z1 f1) res
  subst H
  exact xc_ret (bt_29_3 call _ _ _)
set_option maxRecDepth 100000 in
theorem bt_30_1 (call : QC FA) (L : QH FA) (F : Nat) : xnG call 30 (F + 4) 0 [some (vR 39), some (vR 2)] [] L = xnG call 30 F 4 [some (vR 39), some (vR 2)] [vI 2, vI 0, vR 2, vR 39] L := rfl
set_option maxRecDepth 100000 in
theorem bt_30_2 (call : QC FA) (a1 : Int32) (a2 : Int32) (ls : List (Option PV)) (z : Nat → Int32) (f : Nat → FA) (F : Nat) : xnG call 30 (F + 1) 4 ls [vI a2, vI a1, vR 2, vR 39] (LW W z f) = cbd (call 25 [vR 39, vR 2, vI a1, vI a2] (LW W z f)) (fun r L' => xnG call 30 F 5 ls (r.toList ++ []) L') := pcY (ih := xnG call 30 F) (call := call) (a := 25) (b := 3) (v := 6) (t := 5) (x := 39) (ls := ls) (As := [vR 2, vI a1, vI a2]) (st' := []) (L := LW W z f) rfl rfl rfl
set_option maxRecDepth 100000 in
theorem bt_30_3 (call : QC FA) (x : Int32) (ls : List (Option PV)) (L : QH FA) (F : Nat) : xnG call 30 (F + 1) 5 ls [vI x] L = some (some (vI x), L) := rfl
theorem vct_30_0 (call : QC FA) (z : Nat → Int32) (f : Nat → FA) (res : Option PV × QH FA) (H : (∃ (r1 : Int32) (z1 : Nat → Int32) (f1 : Nat → FA), call 25 [vR 39, vR 2, vI 0, vI 2] (LW W z f) = some (some (vI r1), LW W z1 f1) ∧ res = (some (vI r1), LW W z1 f1))) : XC call (mP 30) 0 [some (vR 39), some (vR 2)] [] (LW W z f) res := by
  refine xc_b (i' := 4) (ls' := [some (vR 39), some (vR 2)]) (st' := [vI 2, vI 0, vR 2, vR 39]) (L' := LW W z f) 4 (bt_30_1 call _) ?_
  obtain ⟨r1, z1, f1, hc, H⟩ := H
  refine xc_call (t := 5) (ls' := [some (vR 39), some (vR 2)]) (st' := []) (bt_30_2 call 0 2 _ z f) hc ?_
  show XC call (mP 30) 5 [some (vR 39), some (vR 2)] [vI r1] (LW W z1 f1) res
  subst H
  exact xc_ret (bt_30_3 call _ _ _)
section PRTW
variable {mk : Nat → Bool} {M : Nat → Nat} {b : Bool} {i : Nat}
theorem wReach (d : Nat) {z : Nat → Int32} {f : Nat → FA} {r : Nat} (h : BFQ mk M b i z f r) {x y : Int32} (hc : ∀ a c, a < 12 → c < 12 → x = nI a → y = nI c → mk (12 * a + c) = b → M (12 * a + c) = i) : ∃ z' f' r', xcall (d + 2) 27 [vR 39, vI x, vI y] (LW W z f) = some (none, LW W z' f') ∧ BFQ mk M b i z' f' r' ∧ RQF z f r z' f' r' ∧ ∀ a c, a < 12 → c < 12 → x = nI a → y = nI c → f' 40 (12 * a + c) = 1 := by
  have go : ∀ res, _ → xcall (d + 2) 27 [vR 39, vI x, vI y] (LW W z f) = some res := fun res H => xcall_i (mq27 (cu := [])).2.2 rfl (vct_27_0 (xcall (d + 1)) x y none z f res H)
  by_cases hb : (0 ≤ I x ∧ I x ≤ 11) ∧ (0 ≤ I y ∧ I y ≤ 11)
  · obtain ⟨⟨x0, x1⟩, y0, y1⟩ := hb
    obtain ⟨a, ea, -, ia⟩ := nI_ofI x0
    obtain ⟨c, ec, -, ic⟩ := nI_ofI y0
    rw [ia] at x1
    rw [ic] at y1
    subst ea
    subst ec
    have a12 : a < 12 := by omega
    have c12 : c < 12 := by omega
    have p144 : 12 * a + c < 144 := by omega
    have cell := wCellAt (W := W) d a12 c12 (z := z) (f := f)
    have xp : ix (nI (12 * a + c)) = 12 * a + c := ix_nI (by omega)
    have pp : pin (nI (12 * a + c)) 144 = true := pin_nI p144 (by omega)
    have un : ∀ a' c' : Nat, a' < 12 → c' < 12 → nI a = nI a' → nI c = nI c' → 12 * a' + c' = 12 * a + c := fun a' c' h1 h2 h3 h4 => by
      have e1 := nI_inj (by omega) (by omega) h3
      have e2 := nI_inj (by omega) (by omega) h4
      omega
    by_cases s : f 40 (12 * a + c) = 0
    · have Mp : M (12 * a + c) = i := by
        by_cases e : M (12 * a + c) = i
        · exact e
        · have v := h.2.2.1 _ p144 e
          by_cases w : mk (12 * a + c) = b ∧ i ≤ M (12 * a + c)
          · exact hc a c a12 c12 rfl rfl w.1
          · rw [if_neg w, s] at v
            exact absurd v (by decide)
      obtain ⟨r1, r2, r3, r4⟩ := BFQ_put h p144 s Mp
      have hz := h.1
      have ir : I (nI r) = r := I_nI (by omega)
      refine ⟨_, _, _, go _ ⟨_, _, _, cell, fun q => absurd q (nI_n1x (by omega)), fun _ => ⟨pp, fun q => absurd (by rw [xp]; exact s) q, fun _ => ⟨fun q => ?_, fun _ => ⟨pp, ?_, ?_⟩⟩⟩⟩, r2, r3, fun a' c' h1 h2 h3 h4 => by rw [un a' c' h1 h2 h3 h4]; exact r4⟩
      · rw [hz] at q
        omega
      · rw [hz]
        exact pin_nI (by omega) (by omega)
      · rw [xp, hz, ix_nI (j := r) (by omega)]
    · have s1 : f 40 (12 * a + c) = 1 := (h.2.2.2.1 _ p144).resolve_left s
      exact ⟨z, f, r, go _ ⟨_, _, _, cell, fun q => absurd q (nI_n1x (by omega)), fun _ => ⟨pp, fun _ => rfl, fun q => absurd q (by rw [xp]; exact s)⟩⟩, h, RQF.rf _ _ _, fun a' c' h1 h2 h3 h4 => by rw [un a' c' h1 h2 h3 h4]; exact s1⟩
  · refine ⟨z, f, r, go _ ⟨_, _, _, wCellAtN d hb, fun _ => rfl, fun q => absurd rfl q⟩, h, RQF.rf _ _ _, fun a c h1 h2 h3 h4 => ?_⟩
    exact absurd (by rw [h3, h4, I_nI (n := a) (by omega), I_nI (n := c) (by omega)]; omega) hb
def SPF (W : TXW) (mk : Nat → Bool) (M : Nat → Nat) (b : Bool) (i : Nat) (z : Nat → Int32) (f : Nat → FA) (z' : Nat → Int32) (f' : Nat → FA) : Prop :=
  (∀ k, k ≠ 392 → k ≠ 393 → z' k = z k) ∧ (∀ k, k ≠ 40 → k ≠ 41 → f' k = f k) ∧ z' 392 = nI (ctN M i 144) ∧ z' 393 = (if aEd M i 144 = true then 1 else 0) ∧ ∀ d, d < 144 → f' 40 d = if mk d = b ∧ i + 1 ≤ M d then 0 else 1
theorem wSprL (hL : LBZ mk M) (hii : M i = i) (hmi : mk i = b) (d : Nat) : ∀ t k, k + t = 144 → ∀ (z : Nat → Int32) (f : Nat → FA) (r : Nat), BFQ mk M b i z f r → f 40 i = 1 → k ≤ r → PRQ mk f k → EDQ M i z f k → i < 144 → ∀ o1 o3 o4, ∃ z' f', XC (xcall (d + 2)) (mP 26) 16 [some (vR 39), o1, some (vI (nI k)), o3, o4] [] (LW W z f) (none, LW W z' f') ∧ SPF W mk M b i z f z' f' := by
  intro t
  induction t with
  | zero =>
    intro k hk z f r h h1 hkr hp he hi o1 o3 o4
    obtain rfl : k = 144 := by omega
    have r144 : r ≤ 144 := by rw [h.2.1]; exact ctN_le _ _ _
    have er : r = 144 := by omega
    subst er
    obtain ⟨a1, a2, a3⟩ := BFQ_end hL hii h h1 hp he
    exact ⟨z, f, vct_c16_26_16 _ _ _ _ _ _ _ _ ⟨fun _ => rfl, fun q => by rw [h.1] at q; omega⟩, fun _ _ _ => rfl, fun _ _ _ => rfl, a1, a2, a3⟩
  | succ t ih =>
    intro k hk z f r h h1 hkr hp he hi o1 o3 o4
    have k144 : k < 144 := by omega
    have r144 : r ≤ 144 := by rw [h.2.1]; exact ctN_le _ _ _
    have ik : I (nI k) = k := I_nI (by omega)
    have xk : ix (nI k) = k := ix_nI (by omega)
    have pk : pin (nI k) 144 = true := pin_nI k144 (by omega)
    have ir : I (nI r) = r := I_nI (by omega)
    by_cases hr : r ≤ k
    · have er : r = k := by omega
      subst er
      obtain ⟨a1, a2, a3⟩ := BFQ_end hL hii h h1 hp he
      exact ⟨z, f, vct_c16_26_16 _ _ _ _ _ _ _ _ ⟨fun _ => rfl, fun q => by rw [h.1] at q; omega⟩, fun _ _ _ => rfl, fun _ _ _ => rfl, a1, a2, a3⟩
    · obtain ⟨c, c144, ec, mc, sc⟩ := h.2.2.2.2.1 k (by omega)
      have mkc : mk c = b := by rw [← hL.col c144, mc]; exact hmi
      have e1 : nI c / 12 = nI (c / 12) := ndiv (b := 12) rfl (by omega) (by decide) (by decide)
      have e2 : nI c - nI (c / 12) * 12 = nI (c % 12) := by rw [← e1]; exact nrem (b := 12) rfl (by omega) (by decide) (by decide)
      have nb : ∀ e, e < 144 → adjW c e → mk e = b → M e = i := fun e he ha hb => (hL.2 c e c144 he ha (mkc.trans hb.symm)).symm.trans mc
      have s55 : ∀ z1 : Nat → Int32, (∀ q, q ≠ 393 → z1 q = z q) → EDQ M i z1 f (k + 1) → ∃ z' f', XC (xcall (d + 2)) (mP 26) 55 [some (vR 39), o1, some (vI (nI k)), some (vI (nI (c / 12))), some (vI (nI (c % 12)))] [] (LW W z1 f) (none, LW W z' f') ∧ SPF W mk M b i z f z' f' := fun z1 hz1 he1 => by
        have h' : BFQ mk M b i z1 f r := ⟨(hz1 392 (by decide)).trans h.1, h.2⟩
        obtain ⟨z2, f2, r2, c2, B2, R2, t2⟩ := wReach (W := W) d h' (x := nI (c / 12) + 1) (y := nI (c % 12)) (fun a c' h1 h2 h3 h4 h5 => by
          rw [nI_s] at h3
          have w1 := nI_inj (by omega) (by omega) h3
          have w2 := nI_inj (by omega) (by omega) h4
          exact nb _ (by omega) (Or.inl (by omega)) h5)
        obtain ⟨z3, f3, r3, c3, B3, R3, t3⟩ := wReach (W := W) d B2 (x := nI (c / 12) - 1) (y := nI (c % 12)) (fun a c' h1 h2 h3 h4 h5 => by
          have w1 := nI_subn (by omega) (by omega) h3
          have w2 := nI_inj (by omega) (by omega) h4
          exact nb _ (by omega) (Or.inr (Or.inl (by omega))) h5)
        obtain ⟨z4, f4, r4, c4, B4, R4, t4⟩ := wReach (W := W) d B3 (x := nI (c / 12)) (y := nI (c % 12) + 1) (fun a c' h1 h2 h3 h4 h5 => by
          rw [nI_s] at h4
          have w1 := nI_inj (by omega) (by omega) h3
          have w2 := nI_inj (by omega) (by omega) h4
          exact nb _ (by omega) (Or.inr (Or.inr (Or.inl ⟨by omega, by omega⟩))) h5)
        obtain ⟨z5, f5, r5, c5, B5, R5, t5⟩ := wReach (W := W) d B4 (x := nI (c / 12)) (y := nI (c % 12) - 1) (fun a c' h1 h2 h3 h4 h5 => by
          have w1 := nI_inj (by omega) (by omega) h3
          have w2 := nI_subn (by omega) (by omega) h4
          exact nb _ (by omega) (Or.inr (Or.inr (Or.inr ⟨by omega, by omega⟩))) h5)
        have R45 := R4.tr R5
        have R35 := R3.tr R45
        have R := R2.tr R35
        obtain ⟨g1, g2, g3, g4, g5⟩ := R
        have near : ∀ e, e < 144 → adjW c e → f5 40 e = 1 := fun e he ha => by
          rcases ha with w | w | ⟨w, w'⟩ | ⟨w, w'⟩
          · have q := t2 (c / 12 + 1) (c % 12) (by omega) (by omega) (nI_s _) rfl
            rw [show 12 * (c / 12 + 1) + c % 12 = e by omega] at q
            exact R35.2.2.2.2 e he q
          · have q := t3 (c / 12 - 1) (c % 12) (by omega) (by omega) (nI_sub (b := 1) (by omega)) rfl
            rw [show 12 * (c / 12 - 1) + c % 12 = e by omega] at q
            exact R45.2.2.2.2 e he q
          · have q := t4 (c / 12) (c % 12 + 1) (by omega) (by omega) rfl (nI_s _)
            rw [show 12 * (c / 12) + (c % 12 + 1) = e by omega] at q
            exact R5.2.2.2.2 e he q
          · have q := t5 (c / 12) (c % 12 - 1) (by omega) (by omega) rfl (nI_sub (b := 1) (by omega))
            rw [show 12 * (c / 12) + (c % 12 - 1) = e by omega] at q
            exact q
        have hp' : PRQ mk f5 (k + 1) := fun j hj => by
          by_cases w : j = k
          · exact ⟨c, c144, by rw [w, g4 k (by omega)]; exact ec, fun e he ha _ => near e he ha⟩
          · obtain ⟨d', v1, v2, v3⟩ := hp j (by omega)
            exact ⟨d', v1, by rw [g4 j (by omega)]; exact v2, fun e he ha hm => g5 e he (v3 e he ha hm)⟩
        have he' : EDQ M i z5 f5 (k + 1) := by
          have z393 : z5 393 = z1 393 := g2 393 (by decide)
          rcases he1 with ⟨v1, v2⟩ | ⟨v1, v2⟩
          · exact Or.inl ⟨z393.trans v1, fun j hj d' hd' ed' => v2 j hj d' hd' (by rw [← g4 j (by omega)]; exact ed')⟩
          · exact Or.inr ⟨z393.trans v1, v2⟩
        obtain ⟨z', f', x1, y1, y2, y3⟩ := ih (k + 1) (by omega) z5 f5 r5 B5 (g5 i hi h1) (by omega) hp' he' hi o1 (some (vI (nI (c / 12)))) (some (vI (nI (c % 12))))
        refine ⟨z', f', vct_c55_26_55 _ _ _ _ _ _ _ _ ⟨_, _, c2, _, _, c3, _, _, c4, _, _, c5, by rw [nI_s k]; exact x1⟩, fun q q1 q2 => (y1 q q1 q2).trans ((g2 q q1).trans (hz1 q q2)), fun q q1 q2 => (y2 q q1 q2).trans (g3 q q1 q2), y3⟩
      have put1 : EDQ M i (uZ z 393 1) f (k + 1) → ∃ z' f', XC (xcall (d + 2)) (mP 26) 55 [some (vR 39), o1, some (vI (nI k)), some (vI (nI (c / 12))), some (vI (nI (c % 12)))] [] (LW W (uZ z 393 1) f) (none, LW W z' f') ∧ SPF W mk M b i z f z' f' := fun q => s55 _ (fun q hq => uZ_n hq) q
      have ed1 : edW c = true → EDQ M i (uZ z 393 1) f (k + 1) := fun q => Or.inr ⟨uZ_s, c, c144, mc, q⟩
      have t0 : ∀ n : Nat, n < 12 → ∀ v : Nat, v < 12 → nI n = nI v → n = v := fun n h1 v h2 q => nI_inj (by omega) (by omega) q
      by_cases z0 : z 393 = 0
      · by_cases ed : edW c = true
        · obtain ⟨z', f', X, Y⟩ := put1 (ed1 ed)
          refine ⟨z', f', vct_c16_26_16 _ _ _ _ _ _ _ _ ⟨fun q => by rw [h.1] at q; omega, fun _ => ⟨fun q => by omega, fun _ => ?_⟩⟩, Y⟩
          rw [xk, ec, e1, e2]
          refine ⟨pk, n12, pk, n12, fun q => absurd z0 q, fun _ => ⟨fun _ => ⟨Or.inr rfl, X⟩, fun w1 => ⟨fun _ => ⟨Or.inr rfl, X⟩, fun w2 => ⟨fun _ => ⟨Or.inr rfl, X⟩, fun w3 => ⟨fun w4 => ?_, fun _ => ⟨Or.inr rfl, X⟩⟩⟩⟩⟩⟩
          have ed' := of_decide_eq_true ed
          rcases ed' with v | v | v | v
          · exact absurd (by rw [show c / 12 = 0 by omega]; rfl) w1
          · exact absurd (by rw [show c / 12 = 11 by omega]; rfl) w2
          · exact absurd (by rw [v]; rfl) w3
          · exact absurd (by rw [v]; rfl) w4
        · have ed0 : edW c = false := by
            cases w : edW c
            · rfl
            · exact absurd w ed
          have he1 : EDQ M i (uZ z 393 0) f (k + 1) := by
            rcases he with ⟨v1, v2⟩ | ⟨v1, -⟩
            · refine Or.inl ⟨uZ_s, fun j hj d' hd' ed' => ?_⟩
              by_cases w : j = k
              · rw [w, ec] at ed'
                rw [← nI_inj (by omega) (by omega) ed']
                exact ed0
              · exact v2 j (by omega) d' hd' ed'
            · rw [z0] at v1
              exact absurd v1 (by decide)
          obtain ⟨z', f', X, Y⟩ := s55 _ (fun q hq => uZ_n hq) he1
          have n : ¬ (c < 12 ∨ 132 ≤ c ∨ c % 12 = 0 ∨ c % 12 = 11) := fun q => ed (decide_eq_true q)
          refine ⟨z', f', vct_c16_26_16 _ _ _ _ _ _ _ _ ⟨fun q => by rw [h.1] at q; omega, fun _ => ⟨fun q => by omega, fun _ => ?_⟩⟩, Y⟩
          rw [xk, ec, e1, e2]
          refine ⟨pk, n12, pk, n12, fun q => absurd z0 q, fun _ => ⟨fun w => ?_, fun _ => ⟨fun w => ?_, fun _ => ⟨fun w => ?_, fun _ => ⟨fun _ => ⟨Or.inl rfl, X⟩, fun w => ?_⟩⟩⟩⟩⟩
          · have := t0 (c / 12) (by omega) 0 (by omega) w
            exact absurd (Or.inl (by omega)) n
          · have := t0 (c / 12) (by omega) 11 (by omega) w
            exact absurd (Or.inr (Or.inl (by omega))) n
          · have := t0 (c % 12) (by omega) 0 (by omega) w
            exact absurd (Or.inr (Or.inr (Or.inl this))) n
          · have := t0 (c % 12) (by omega) 11 (by omega) w
            exact absurd (Or.inr (Or.inr (Or.inr this))) n
      · have he1 : EDQ M i (uZ z 393 1) f (k + 1) := by
          rcases he with ⟨v1, -⟩ | ⟨v1, v2⟩
          · exact absurd v1 z0
          · exact Or.inr ⟨uZ_s, v2⟩
        obtain ⟨z', f', X, Y⟩ := put1 he1
        refine ⟨z', f', vct_c16_26_16 _ _ _ _ _ _ _ _ ⟨fun q => by rw [h.1] at q; omega, fun _ => ⟨fun q => by omega, fun _ => ?_⟩⟩, Y⟩
        rw [xk, ec, e1, e2]
        exact ⟨pk, n12, pk, n12, fun _ => ⟨Or.inr rfl, X⟩, fun q => absurd q z0⟩
theorem wSpread (hL : LBZ mk M) (hi : i < 144) (hii : M i = i) (hmi : mk i = b) (d : Nat) {z : Nat → Int32} {f : Nat → FA} (hs : ∀ d, d < 144 → f 40 d = if mk d = b ∧ i ≤ M d then 0 else 1) : ∃ z' f', xcall (d + 3) 26 [vR 39, vI (nI i)] (LW W z f) = some (none, LW W z' f') ∧ SPF W mk M b i z f z' f' := by
  have e1 : nI i / 12 = nI (i / 12) := ndiv (b := 12) rfl (by omega) (by decide) (by decide)
  have e2 : nI i - nI (i / 12) * 12 = nI (i % 12) := by rw [← e1]; exact nrem (b := 12) rfl (by omega) (by decide) (by decide)
  have z9 : ∀ d, d < 144 → M d = i → f 40 d = 0 := fun d hd e => by
    rw [hs d hd, if_pos ⟨by rw [← hL.col hd, e]; exact hmi, by omega⟩]
  have h0 : BFQ mk M b i (uZ (uZ z 392 0) 393 0) f 0 := by
    refine ⟨(uZ_n (by decide)).trans uZ_s, (ctN_none 144 (fun j hj q => ?_)).symm, fun d hd _ => hs d hd, fun d hd => ?_, fun j hj => absurd hj (Nat.not_lt_zero j), fun d hd e s => ?_⟩
    · have q := nwF_i.mp q
      rw [z9 j hj q.1] at q
      exact absurd q.2 (by decide)
    · rw [hs d hd]
      split
      · exact Or.inl rfl
      · exact Or.inr rfl
    · rw [z9 d hd e] at s
      exact absurd s (by decide)
  have un : ∀ a c : Nat, a < 12 → c < 12 → nI (i / 12) = nI a → nI (i % 12) = nI c → 12 * a + c = i := fun a c h1 h2 h3 h4 => by
    have w1 := nI_inj (by omega) (by omega) h3
    have w2 := nI_inj (by omega) (by omega) h4
    omega
  obtain ⟨z1, f1, r1, c1, B1, R1, t1⟩ := wReach (W := W) d h0 (x := nI (i / 12)) (y := nI (i % 12)) (fun a c h1 h2 h3 h4 _ => by rw [un a c h1 h2 h3 h4]; exact hii)
  have s1 := t1 (i / 12) (i % 12) (by omega) (by omega) rfl rfl
  rw [show 12 * (i / 12) + i % 12 = i by omega] at s1
  obtain ⟨g1, g2, g3, g4, g5⟩ := R1
  obtain ⟨z', f', X, y1, y2, y3⟩ := wSprL (W := W) hL hii hmi d 144 0 rfl z1 f1 r1 B1 s1 (Nat.zero_le _) (fun j hj => absurd hj (Nat.not_lt_zero j)) (Or.inl ⟨(g2 393 (by decide)).trans uZ_s, fun j hj => absurd hj (Nat.not_lt_zero j)⟩) hi (some (vI (nI i))) none none
  refine ⟨z', f', xcall_i (mq26 (cu := [])).2.2 rfl (vct_26_0 (xcall (d + 2)) (nI i) none none none z f _ ⟨Or.inl rfl, n12, n12, z1, f1, ?_, X⟩), fun q q1 q2 => (y1 q q1 q2).trans ((g2 q q1).trans ((uZ_n q2).trans (uZ_n q1))), fun q q1 q2 => (y2 q q1 q2).trans (g3 q q1 q2), y3⟩
  rw [e1, e2]
  exact c1
def ansP (mk : Nat → Bool) (M : Nat → Nat) (b : Bool) (x : Int32) : Int32 := if x = 0 then nI (nBl mk b M 144) else if x = 1 then nI (gBl mk b M 144) else nI (iBl mk b M 144)
theorem wPieces (hL : LBZ mk M) (d : Nat) (x : Int32) {z : Nat → Int32} {f : Nat → FA} (hm : ∀ i, i < 144 → (mk i = true ↔ ¬ f 4 i = 0)) : ∃ z' f', (∀ k, k ≠ 392 → k ≠ 393 → z' k = z k) ∧ (∀ k, k ≠ 40 → k ≠ 41 → f' k = f k) ∧ xcall (d + 4) 25 [vR 39, vR 2, vI (bVw b), vI x] (LW W z f) = some (some (vI (ansP mk M b x)), LW W z' f') := by
  have L1 : ∀ t c, c + t = 144 → ∀ g : FA, (∀ d, d < c → g d = if mk d = b then 0 else 1) → ∃ g' : FA, (∀ d, d < 144 → g' d = if mk d = b then 0 else 1) ∧ ∀ res, XC (xcall (d + 3)) (mP 25) 27 [some (vR 39), some (vR 2), some (vI (bVw b)), some (vI x), some (vI 0), some (vI 0), some (vI 0), some (vI 0)] [] (LW W z (uA f 40 g')) res → XC (xcall (d + 3)) (mP 25) 8 [some (vR 39), some (vR 2), some (vI (bVw b)), some (vI x), some (vI 0), some (vI 0), some (vI 0), some (vI (nI c))] [] (LW W z (uA f 40 g)) res := by
    intro t
    induction t with
    | zero =>
      intro c hc g hg
      obtain rfl : c = 144 := by omega
      exact ⟨g, hg, fun res r => vct_c8_25_8 _ _ _ _ _ _ _ _ _ _ ⟨fun _ => r, fun q => absurd q (by decide)⟩⟩
    | succ t ih =>
      intro c hc g hg
      have c144 : c < 144 := by omega
      have ic : I (nI c) = c := I_nI (by omega)
      have xc : ix (nI c) = c := ix_nI (by omega)
      have pc : pin (nI c) 144 = true := pin_nI c144 (by omega)
      have k1 := wMkdn (W := W) (d + 2) (z := z) (f := uA f 40 g) c144
      rw [uA_ne (show (4 : Nat) ≠ 40 by decide), mkV_p (hm c c144)] at k1
      obtain ⟨g', a1, a2⟩ := ih (c + 1) (by omega) (upd g c (if mk c = b then 0 else 1)) (fun e he => by
        by_cases w : e = c
        · rw [w, pk_us]
        · rw [pk_un w]
          exact hg e (by omega))
      refine ⟨g', a1, fun res r => vct_c8_25_8 _ _ _ _ _ _ _ _ _ _ ⟨fun q => by omega, fun _ => ⟨_, _, _, k1, fun q => ?_, fun q => ?_⟩⟩⟩
      · rw [xc, uA_self, uA_uA, nI_s c]
        have r := a2 res r
        rw [if_neg (fun w => q (mkV_b.mpr w))] at r
        exact ⟨pc, r⟩
      · rw [xc, uA_self, uA_uA, nI_s c]
        have r := a2 res r
        rw [if_pos (mkV_b.mp q)] at r
        exact ⟨pc, r⟩
  have L2 : ∀ t c, c + t = 144 → ∀ (z1 : Nat → Int32) (f1 : Nat → FA), (∀ d, d < 144 → f1 40 d = if mk d = b ∧ c ≤ M d then 0 else 1) → ∀ o2, ∃ z' f', (∀ k, k ≠ 392 → k ≠ 393 → z' k = z1 k) ∧ (∀ k, k ≠ 40 → k ≠ 41 → f' k = f1 k) ∧ XC (xcall (d + 3)) (mP 25) 27 [some (vR 39), some (vR 2), o2, some (vI x), some (vI (nI (nBl mk b M c))), some (vI (nI (gBl mk b M c))), some (vI (nI (iBl mk b M c))), some (vI (nI c))] [] (LW W z1 f1) (some (vI (ansP mk M b x)), LW W z' f') := by
    intro t
    induction t with
    | zero =>
      intro c hc z1 f1 _ o2
      obtain rfl : c = 144 := by omega
      refine ⟨z1, f1, fun _ _ _ => rfl, fun _ _ _ => rfl, vct_c27_25_27 _ _ _ _ _ _ _ _ _ _ ⟨fun _ => ⟨fun q => ⟨fun q2 => ?_, fun q2 => ?_⟩, fun q => ?_⟩, fun q => absurd q (by decide)⟩⟩
      · unfold ansP
        rw [if_neg q, if_neg q2]
      · unfold ansP
        rw [if_neg q, if_pos q2]
      · unfold ansP
        rw [if_pos q]
    | succ t ih =>
      intro c hc z1 f1 hs o2
      have c144 : c < 144 := by omega
      have ic : I (nI c) = c := I_nI (by omega)
      have xc : ix (nI c) = c := ix_nI (by omega)
      have pc : pin (nI c) 144 = true := pin_nI c144 (by omega)
      have n1 : nBl mk b M (c + 1) = if M c = c ∧ mk c = b then nBl mk b M c + 1 else nBl mk b M c := rfl
      have n2 : gBl mk b M (c + 1) = if M c = c ∧ mk c = b then mxN (gBl mk b M c) (ctN M c 144) else gBl mk b M c := rfl
      have n3 : iBl mk b M (c + 1) = if (M c = c ∧ mk c = b) ∧ aEd M c 144 = false then iBl mk b M c + 1 else iBl mk b M c := rfl
      by_cases s : f1 40 c = 0
      · have cs : mk c = b ∧ c ≤ M c := by
          by_cases w : mk c = b ∧ c ≤ M c
          · exact w
          · rw [hs c c144, if_neg w] at s
            exact absurd s (by decide)
        have cc : M c = c := by
          have := hL.1.1 c c144
          omega
        obtain ⟨z2, f2, cl, y1, y2, y3, y4, y5⟩ := wSpread (W := W) hL c144 cc cs.1 d (z := z1) (f := f1) hs
        obtain ⟨z', f', a1, a2, r⟩ := ih (c + 1) (by omega) z2 f2 y5 o2
        rw [n1, n2, n3, if_pos ⟨cc, cs.1⟩, if_pos ⟨cc, cs.1⟩] at r
        refine ⟨z', f', fun k k1 k2 => (a1 k k1 k2).trans (y1 k k1 k2), fun k k1 k2 => (a2 k k1 k2).trans (y2 k k1 k2), vct_c27_25_27 _ _ _ _ _ _ _ _ _ _ ⟨fun q => by omega, fun _ => ⟨pc, fun q => absurd (by rw [xc]; exact s) q, fun _ => ⟨_, _, cl, ?_⟩⟩⟩⟩
        have b1 := gBl_le mk b M c
        have b2 := ctN_le M c 144
        rw [y3, y4, I_nI (n := gBl mk b M c) (by omega), I_nI (n := ctN M c 144) (by omega), nI_s c, nI_s (nBl mk b M c), nI_s (iBl mk b M c), Int32.add_zero]
        have r1 : ∀ q : aEd M c 144 = false, XC (xcall (d + 3)) (mP 25) 27 [some (vR 39), some (vR 2), o2, some (vI x), some (vI (nI (nBl mk b M c + 1))), some (vI (nI (mxN (gBl mk b M c) (ctN M c 144)))), some (vI (nI (iBl mk b M c + 1))), some (vI (nI (c + 1)))] [] (LW W z2 f2) (some (vI (ansP mk M b x)), LW W z' f') := fun q => by
          rw [if_pos ⟨⟨cc, cs.1⟩, q⟩] at r
          exact r
        have r2 : ∀ q : ¬ aEd M c 144 = false, XC (xcall (d + 3)) (mP 25) 27 [some (vR 39), some (vR 2), o2, some (vI x), some (vI (nI (nBl mk b M c + 1))), some (vI (nI (mxN (gBl mk b M c) (ctN M c 144)))), some (vI (nI (iBl mk b M c))), some (vI (nI (c + 1)))] [] (LW W z2 f2) (some (vI (ansP mk M b x)), LW W z' f') := fun q => by
          rw [if_neg (fun w => q w.2)] at r
          exact r
        have ea : ((if aEd M c 144 = true then (1 : Int32) else 0) = 0) → aEd M c 144 = false := fun q => by
          cases w : aEd M c 144
          · rfl
          · rw [w, if_pos rfl] at q
            exact absurd q (by decide)
        have eb : (¬ (if aEd M c 144 = true then (1 : Int32) else 0) = 0) → ¬ aEd M c 144 = false := fun q w => q (by rw [w, if_neg (by decide)])
        refine ⟨fun q => ?_, fun q => ?_⟩
        · have m : mxN (gBl mk b M c) (ctN M c 144) = ctN M c 144 := if_pos (by omega)
          rw [m] at r1 r2
          exact ⟨fun w => r1 (ea w), fun w => r2 (eb w)⟩
        · have m : mxN (gBl mk b M c) (ctN M c 144) = gBl mk b M c := if_neg (by omega)
          rw [m] at r1 r2
          exact ⟨fun w => r1 (ea w), fun w => r2 (eb w)⟩
      · have nc : ¬ (M c = c ∧ mk c = b) := fun w => s (by rw [hs c c144, if_pos ⟨w.2, by omega⟩])
        obtain ⟨z', f', a1, a2, r⟩ := ih (c + 1) (by omega) z1 f1 (fun e he => by
          rw [hs e he]
          by_cases w : mk e = b ∧ c ≤ M e
          · have ne : M e ≠ c := fun q => nc (by
              have i1 := hL.idem he
              have i2 := hL.col he
              rw [q] at i1 i2
              exact ⟨i1, i2.trans w.1⟩)
            rw [if_pos w, if_pos ⟨w.1, by omega⟩]
          · rw [if_neg w, if_neg (fun q => w ⟨q.1, by omega⟩)]) o2
        rw [n1, n2, n3, if_neg nc, if_neg nc, if_neg (fun w => nc w.1)] at r
        refine ⟨z', f', a1, a2, vct_c27_25_27 _ _ _ _ _ _ _ _ _ _ ⟨fun q => by omega, fun _ => ⟨pc, fun _ => by rw [nI_s c]; exact r, fun q => absurd (by rw [← xc]; exact q) s⟩⟩⟩
  obtain ⟨g, a1, a2⟩ := L1 144 0 rfl (f 40) (fun e he => absurd he (Nat.not_lt_zero e))
  obtain ⟨z', f', b1, b2, b3⟩ := L2 144 0 rfl z (uA f 40 g) (fun e he => by
    rw [uA_self, a1 e he]
    by_cases w : mk e = b
    · rw [if_pos w, if_pos ⟨w, Nat.zero_le _⟩]
    · rw [if_neg w, if_neg (fun q => w q.1)]) (some (vI (bVw b)))
  have r := a2 _ b3
  rw [uA_id rfl] at r
  exact ⟨z', f', b1, fun k k1 k2 => (b2 k k1 k2).trans (uA_ne k1), xcall_i (mq25 (cu := [])).2.2 rfl (vct_25_0 (xcall (d + 3)) (bVw b) x none none none none z f _ r)⟩
theorem wBlobs (hL : LBZ mk M) (d : Nat) {z : Nat → Int32} {f : Nat → FA} (hm : ∀ i, i < 144 → (mk i = true ↔ ¬ f 4 i = 0)) : ∃ z' f', (∀ k, k ≠ 392 → k ≠ 393 → z' k = z k) ∧ (∀ k, k ≠ 40 → k ≠ 41 → f' k = f k) ∧ xcall (d + 5) 24 [vR 39, vR 2] (LW W z f) = some (some (vI (nI (nBl mk true M 144))), LW W z' f') := by
  obtain ⟨z', f', a1, a2, a3⟩ := wPieces (W := W) (b := true) hL d 0 (z := z) hm
  exact ⟨z', f', a1, a2, xcall_i (mq24 (cu := [])).2.2 rfl (vct_24_0 (xcall (d + 4)) z f _ ⟨_, _, _, a3, rfl⟩)⟩
theorem wGreat (hL : LBZ mk M) (d : Nat) {z : Nat → Int32} {f : Nat → FA} (hm : ∀ i, i < 144 → (mk i = true ↔ ¬ f 4 i = 0)) : ∃ z' f', (∀ k, k ≠ 392 → k ≠ 393 → z' k = z k) ∧ (∀ k, k ≠ 40 → k ≠ 41 → f' k = f k) ∧ xcall (d + 5) 29 [vR 39, vR 2] (LW W z f) = some (some (vI (nI (gBl mk true M 144))), LW W z' f') := by
  obtain ⟨z', f', a1, a2, a3⟩ := wPieces (W := W) (b := true) hL d 1 (z := z) hm
  exact ⟨z', f', a1, a2, xcall_i (mq29 (cu := [])).2.2 rfl (vct_29_0 (xcall (d + 4)) z f _ ⟨_, _, _, a3, rfl⟩)⟩
theorem wHoles (hL : LBZ mk M) (d : Nat) {z : Nat → Int32} {f : Nat → FA} (hm : ∀ i, i < 144 → (mk i = true ↔ ¬ f 4 i = 0)) : ∃ z' f', (∀ k, k ≠ 392 → k ≠ 393 → z' k = z k) ∧ (∀ k, k ≠ 40 → k ≠ 41 → f' k = f k) ∧ xcall (d + 5) 30 [vR 39, vR 2] (LW W z f) = some (some (vI (nI (iBl mk false M 144))), LW W z' f') := by
  obtain ⟨z', f', a1, a2, a3⟩ := wPieces (W := W) (b := false) hL d 2 (z := z) hm
  exact ⟨z', f', a1, a2, xcall_i (mq30 (cu := [])).2.2 rfl (vct_30_0 (xcall (d + 4)) z f _ ⟨_, _, _, a3, rfl⟩)⟩
end PRTW
end TWs
