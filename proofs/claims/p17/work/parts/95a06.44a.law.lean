/-! what the law tells, on the class's side -/
abbrev LAW : Type := Nat → Nat × List TK × List TK
noncomputable def evV (vals : FA) (P : List TK) : Int32 := match evF vals P (0, fun _ => 0) with
  | some s => s.2 0
  | none => 0
def okP (P : List TK) : Prop := ∀ vals : FA, ∃ g, evF vals P (0, fun _ => 0) = some (1, g)
/-- the first line with the word that is so -/
noncomputable def lawG (L : LAW) (vals : FA) (w : Nat) : Nat → Nat → Option Int32
  | 0, _ => none
  | t + 1, i => @ite _ ((L i).1 = w ∧ ((L i).2.2 = [] ∨ ¬ evV vals (L i).2.2 = 0)) (Classical.propDecidable _) (some (evV vals (L i).2.1)) (lawG L vals w t (i + 1))
theorem ev1_cong {v v' : FA} {e : TK} {n : Nat} {g g' : FA} (hv : ∀ j, j < 10 → v' j = v j) (hg : ∀ j, j < n → g' j = g j) {m : Nat} {h : FA} (he : ev1 v e (n, g) = some (m, h)) : ∃ h', ev1 v' e (n, g') = some (m, h') ∧ ∀ j, j < m → h' j = h j := by
  unfold ev1 at he ⊢
  by_cases c2 : e.1 < 2
  · rw [if_pos c2] at he ⊢
    obtain ⟨q1, q2⟩ := ite_some he
    have q1' : n < 32 ∧ (e.1 = 1 → e.2 < 10) := q1
    rw [if_pos q1]
    have e1 : n + 1 = m := congrArg Prod.fst q2
    have e2 : upd g n (if e.1 = 0 then nI e.2 else v e.2) = h := congrArg Prod.snd q2
    subst e1
    subst e2
    refine ⟨_, rfl, fun j hj => ?_⟩
    show upd g' n (if e.1 = 0 then nI e.2 else v' e.2) j = upd g n (if e.1 = 0 then nI e.2 else v e.2) j
    by_cases c : j = n
    · subst c
      rw [pk_us, pk_us]
      by_cases c0 : e.1 = 0
      · rw [if_pos c0, if_pos c0]
      · rw [if_neg c0, if_neg c0, hv e.2 (q1'.2 (by omega))]
    · rw [pk_un c, pk_un c]
      exact hg j (by omega)
  · rw [if_neg c2] at he ⊢
    by_cases c4 : e.1 < 4
    · rw [if_pos c4] at he ⊢
      obtain ⟨q1, q2⟩ := ite_some he
      have q1' : 1 ≤ n ∧ (e.1 = 2 → 1 ≤ e.2) := q1
      rw [if_pos q1]
      have e1 : n = m := congrArg Prod.fst q2
      have e2 : upd g (n - 1) (if e.1 = 2 then g (n - 1) / nI e.2 else 1 - g (n - 1)) = h := congrArg Prod.snd q2
      subst e1
      subst e2
      refine ⟨_, rfl, fun j hj => ?_⟩
      show upd g' (n - 1) (if e.1 = 2 then g' (n - 1) / nI e.2 else 1 - g' (n - 1)) j = upd g (n - 1) (if e.1 = 2 then g (n - 1) / nI e.2 else 1 - g (n - 1)) j
      rw [hg (n - 1) (by omega)]
      by_cases c : j = n - 1
      · subst c
        rw [pk_us, pk_us]
      · rw [pk_un c, pk_un c]
        exact hg j hj
    · rw [if_neg c4] at he ⊢
      obtain ⟨q1, q2⟩ := ite_some he
      have q1' : 2 ≤ n ∧ (10 ≤ e.1 → bit01 (g (n - 2)) ∧ bit01 (g (n - 1))) := q1
      have p1 : g' (n - 2) = g (n - 2) := hg _ (by omega)
      have p2 : g' (n - 1) = g (n - 1) := hg _ (by omega)
      have q3 : 2 ≤ (n, g').1 ∧ (10 ≤ e.1 → bit01 ((n, g').2 ((n, g').1 - 2)) ∧ bit01 ((n, g').2 ((n, g').1 - 1))) := ⟨q1'.1, fun c => by
        show bit01 (g' (n - 2)) ∧ bit01 (g' (n - 1))
        rw [p1, p2]
        exact q1'.2 c⟩
      rw [if_pos q3]
      have e1 : n - 1 = m := congrArg Prod.fst q2
      have e2 : upd g (n - 2) (jnO e.1 (g (n - 2)) (g (n - 1))) = h := congrArg Prod.snd q2
      subst e1
      subst e2
      refine ⟨_, rfl, fun j hj => ?_⟩
      show upd g' (n - 2) (jnO e.1 (g' (n - 2)) (g' (n - 1))) j = upd g (n - 2) (jnO e.1 (g (n - 2)) (g (n - 1))) j
      rw [p1, p2]
      by_cases c : j = n - 2
      · subst c
        rw [pk_us, pk_us]
      · rw [pk_un c, pk_un c]
        exact hg j (by omega)
theorem evF_cong {v v' : FA} (hv : ∀ j, j < 10 → v' j = v j) : ∀ (P : List TK) (n : Nat) (g g' : FA), (∀ j, j < n → g' j = g j) → ∀ m h, evF v P (n, g) = some (m, h) → ∃ h', evF v' P (n, g') = some (m, h') ∧ ∀ j, j < m → h' j = h j := by
  intro P
  induction P with
  | nil =>
    intro n g g' hg m h he
    have he := Option.some.inj he
    have e1 : n = m := congrArg Prod.fst he
    have e2 : g = h := congrArg Prod.snd he
    subst e1
    subst e2
    exact ⟨g', rfl, hg⟩
  | cons e P ih =>
    intro n g g' hg m h he
    have he : (match ev1 v e (n, g) with
      | some s' => evF v P s'
      | none => none) = some (m, h) := he
    cases hs : ev1 v e (n, g) with
    | none => rw [hs] at he; cases he
    | some s =>
      rw [hs] at he
      obtain ⟨n1, g1⟩ := s
      obtain ⟨g1', k1, k2⟩ := ev1_cong hv hg hs
      obtain ⟨h', k3, k4⟩ := ih n1 g1 g1' k2 m h he
      refine ⟨h', ?_, k4⟩
      show (match ev1 v' e (n, g') with
        | some s' => evF v' P s'
        | none => none) = some (m, h')
      rw [k1]
      exact k3
theorem evV_run {P : List TK} (hP : okP P) (v : FA) (g : FA) : ∃ g', evF v P (0, g) = some (1, g') ∧ g' 0 = evV v P := by
  obtain ⟨h, hh⟩ := hP v
  obtain ⟨g', k1, k2⟩ := evF_cong (v := v) (v' := v) (fun _ _ => rfl) P 0 (fun _ => 0) g (fun j hj => absurd hj (Nat.not_lt_zero j)) 1 h hh
  refine ⟨g', k1, ?_⟩
  unfold evV
  rw [hh]
  exact k2 0 (by omega)
theorem evV_cong {P : List TK} (hP : okP P) {v v' : FA} (hv : ∀ j, j < 10 → v' j = v j) : evV v' P = evV v P := by
  obtain ⟨h, hh⟩ := hP v
  obtain ⟨h', k1, k2⟩ := evF_cong hv P 0 (fun _ => 0) (fun _ => 0) (fun _ _ => rfl) 1 h hh
  unfold evV
  rw [hh, k1]
  exact k2 0 (by omega)
def LOK (L : LAW) (n : Nat) : Prop := ∀ i, i < n → okP (L i).2.1 ∧ ((L i).2.2 = [] ∨ okP (L i).2.2)
theorem lawG_cong {L : LAW} {n : Nat} (hL : LOK L n) {v v' : FA} (hv : ∀ j, j < 10 → v' j = v j) (w : Nat) : ∀ t i, i + t ≤ n → lawG L v' w t i = lawG L v w t i := by
  intro t
  induction t with
  | zero => intro i _; rfl
  | succ t ih =>
    intro i hi
    obtain ⟨p1, p2⟩ := hL i (by omega)
    show @ite _ ((L i).1 = w ∧ ((L i).2.2 = [] ∨ ¬ evV v' (L i).2.2 = 0)) (Classical.propDecidable _) (some (evV v' (L i).2.1)) (lawG L v' w t (i + 1)) = @ite _ ((L i).1 = w ∧ ((L i).2.2 = [] ∨ ¬ evV v (L i).2.2 = 0)) (Classical.propDecidable _) (some (evV v (L i).2.1)) (lawG L v w t (i + 1))
    rw [ih (i + 1) (by omega), evV_cong p1 hv]
    rcases p2 with p2 | p2
    · rw [p2]
      by_cases c : (L i).1 = w
      · rw [if_pos ⟨c, Or.inl rfl⟩, if_pos ⟨c, Or.inl rfl⟩]
      · rw [if_neg (fun q => c q.1), if_neg (fun q => c q.1)]
    · rw [evV_cong p2 hv]
/-- the class's law text, as lines and codes -/
def LWC (W : TXW) (k : Nat) (L : LAW) (n : Nat) : Prop := n ≤ 16 ∧ wn W k = nI n ∧ wN W k = 5 * n ∧ wM W k ≤ 400 ∧ ∀ i, i < n → ∃ a, (L i).1 < 3 ∧ wg W k (5 * i) = nI (300 + (L i).1) ∧ wg W k (5 * i + 1) = nI a ∧ wg W k (5 * i + 2) = nI (a + (L i).2.1.length) ∧ wg W k (5 * i + 3) = nI (a + (L i).2.1.length + (L i).2.2.length) ∧ a + (L i).2.1.length + (L i).2.2.length ≤ wM W k ∧ tkC (L i).2.1 (wh W k) a ∧ tkC (L i).2.2 (wh W k) (a + (L i).2.1.length)
def hld (x y : Int32) : Int32 := if I x < 0 then 0 else if I y < I x then y else x
def vl10 (a b c d e f g h i j : Int32) : FA := fun k => match k with
  | 0 => a
  | 1 => b
  | 2 => c
  | 3 => d
  | 4 => e
  | 5 => f
  | 6 => g
  | 7 => h
  | 8 => i
  | _ => j
theorem up10 {G : FA} {a b c d e f g h i j : Int32} : ∀ k, k < 10 → upd (upd (upd (upd (upd (upd (upd (upd (upd (upd G 0 a) 1 b) 2 c) 3 d) 4 e) 5 f) 6 g) 7 h) 8 i) 9 j k = vl10 a b c d e f g h i j k := by
  intro k hk
  match k, hk with
  | 0, _ => rfl
  | 1, _ => rfl
  | 2, _ => rfl
  | 3, _ => rfl
  | 4, _ => rfl
  | 5, _ => rfl
  | 6, _ => rfl
  | 7, _ => rfl
  | 8, _ => rfl
  | 9, _ => rfl
  | n + 10, h => exact absurd h (by omega)
section TWs
variable {W : TXW} {kt : Nat}
set_option maxRecDepth 100000 in
theorem bn_17_1 (call : QC FA) (x1 : Int32) (x2 : Int32) (o5 : Option PV) (o6 : Option PV) (o7 : Option PV) (o8 : Option PV) (L : QH FA) (F : Nat) : xnG call 17 (F + 2) 0 [some (vR (wJ W kt + 42)), some (vI x1), some (vI x2), some (vR 9), some (vR 10), o5, o6, o7, o8] [] L = xnG call 17 F 2 [some (vR (wJ W kt + 42)), some (vI x1), some (vI x2), some (vR 9), some (vR 10), some (vI 0), o6, o7, o8] [] L := rfl
theorem vcn_17_0 (call : QC FA) (x1 : Int32) (x2 : Int32) (o5 : Option PV) (o6 : Option PV) (o7 : Option PV) (o8 : Option PV) (z : Nat → Int32) (f : Nat → FA) (res : Option PV × QH FA) (H : XC call (mP 17) 2 [some (vR (wJ W kt + 42)), some (vI x1), some (vI x2), some (vR 9), some (vR 10), some (vI 0), o6, o7, o8] [] (LW W z f) res) : XC call (mP 17) 0 [some (vR (wJ W kt + 42)), some (vI x1), some (vI x2), some (vR 9), some (vR 10), o5, o6, o7, o8] [] (LW W z f) res := by
  refine xc_b (i' := 2) (ls' := [some (vR (wJ W kt + 42)), some (vI x1), some (vI x2), some (vR 9), some (vR 10), some (vI 0), o6, o7, o8]) (st' := []) (L' := LW W z f) 2 (bn_17_1 call x1 x2 o5 o6 o7 o8 _) ?_
  exact H
set_option maxRecDepth 100000 in
theorem bn_c2_17_1 (call : QC FA) (x1 : Int32) (x2 : Int32) (x5 : Int32) (o6 : Option PV) (o7 : Option PV) (o8 : Option PV) (L : QH FA) (F : Nat) : xnG call 17 (F + 2) 2 [some (vR (wJ W kt + 42)), some (vI x1), some (vI x2), some (vR 9), some (vR 10), some (vI x5), o6, o7, o8] [] L = xnG call 17 F 4 [some (vR (wJ W kt + 42)), some (vI x1), some (vI x2), some (vR 9), some (vR 10), some (vI x5), o6, o7, o8] [vR (wJ W kt + 42), vI x5] L := rfl
set_option maxRecDepth 100000 in
theorem bn_c2_17_2 (hW : WTX W) (hk : kt < 4) (call : QC FA) (s0 : Int32) (ls : List (Option PV)) (z : Nat → Int32) (f : Nat → FA) (F : Nat) : xnG call 17 (F + 1) 4 ls [vR (wJ W kt + 42), vI s0] (LW W z f) = xnG call 17 F 5 ls [vI (wn W kt), vI s0] (LW W z f) := gt_1 (ih := xnG call 17 F) (t := 5) (st := [vI s0]) hW hk
set_option maxRecDepth 100000 in
theorem bn_c2_17_3 (call : QC FA) (x y : Int32) (ls : List (Option PV)) (L : QH FA) (F : Nat) : xnG call 17 (F + 1) 5 ls [vI y, vI x] L = bif pcmp 3 x y then xnG call 17 F 46 ls [] L else xnG call 17 F 6 ls [] L := rfl
set_option maxRecDepth 100000 in
theorem bn_c2_17_4 (call : QC FA) (x1 : Int32) (x2 : Int32) (x5 : Int32) (o6 : Option PV) (o7 : Option PV) (o8 : Option PV) (L : QH FA) (F : Nat) : xnG call 17 (F + 1) 46 [some (vR (wJ W kt + 42)), some (vI x1), some (vI x2), some (vR 9), some (vR 10), some (vI x5), o6, o7, o8] [] L = xnG call 17 F 47 [some (vR (wJ W kt + 42)), some (vI x1), some (vI x2), some (vR 9), some (vR 10), some (vI x5), o6, o7, o8] [vI x2] L := rfl
set_option maxRecDepth 100000 in
theorem bn_c2_17_5 (call : QC FA) (x : Int32) (ls : List (Option PV)) (L : QH FA) (F : Nat) : xnG call 17 (F + 1) 47 ls [vI x] L = some (some (vI x), L) := rfl
set_option maxRecDepth 100000 in
theorem bn_c2_17_6 (call : QC FA) (x1 : Int32) (x2 : Int32) (x5 : Int32) (o6 : Option PV) (o7 : Option PV) (o8 : Option PV) (L : QH FA) (F : Nat) : xnG call 17 (F + 3) 6 [some (vR (wJ W kt + 42)), some (vI x1), some (vI x2), some (vR 9), some (vR 10), some (vI x5), o6, o7, o8] [] L = xnG call 17 F 9 [some (vR (wJ W kt + 42)), some (vI x1), some (vI x2), some (vR 9), some (vR 10), some (vI x5), o6, o7, o8] [vI 0, vI x5, vR (wJ W kt + 42)] L := rfl
set_option maxRecDepth 100000 in
theorem bn_c2_17_7 (hW : WTX W) (hk : kt < 4) (call : QC FA) (a0 : Int32) (a1 : Int32) (ls : List (Option PV)) (z : Nat → Int32) (f : Nat → FA) (F : Nat) : xnG call 17 (F + 1) 9 ls [vI a1, vI a0, vR (wJ W kt + 42)] (LW W z f) = cbd (call 18 [vR (wJ W kt + 42), vI a0, vI a1] (LW W z f)) (fun r L' => xnG call 17 F 10 ls (r.toList ++ []) L') := pcY (ih := xnG call 17 F) (call := call) (a := 18) (b := 2) (v := 8) (t := 10) (x := wJ W kt + 42) (ls := ls) (As := [vI a0, vI a1]) (st' := []) (L := LW W z f) rfl (gj_t hW hk) rfl
set_option maxRecDepth 100000 in
theorem bn_c2_17_8 (call : QC FA) (x1 : Int32) (x2 : Int32) (x5 : Int32) (o6 : Option PV) (o7 : Option PV) (o8 : Option PV) (s0 : Int32) (L : QH FA) (F : Nat) : xnG call 17 (F + 1) 10 [some (vR (wJ W kt + 42)), some (vI x1), some (vI x2), some (vR 9), some (vR 10), some (vI x5), o6, o7, o8] [vI s0] L = xnG call 17 F 11 [some (vR (wJ W kt + 42)), some (vI x1), some (vI x2), some (vR 9), some (vR 10), some (vI x5), o6, o7, o8] [vI x1, vI s0] L := rfl
set_option maxRecDepth 100000 in
theorem bn_c2_17_9 (call : QC FA) (x y : Int32) (ls : List (Option PV)) (L : QH FA) (F : Nat) : xnG call 17 (F + 1) 11 ls [vI y, vI x] L = bif pcmp 1 x y then xnG call 17 F 44 ls [] L else xnG call 17 F 12 ls [] L := rfl
set_option maxRecDepth 100000 in
theorem bn_c2_17_10 (call : QC FA) (x1 : Int32) (x2 : Int32) (x5 : Int32) (o6 : Option PV) (o7 : Option PV) (o8 : Option PV) (L : QH FA) (F : Nat) : xnG call 17 (F + 1) 44 [some (vR (wJ W kt + 42)), some (vI x1), some (vI x2), some (vR 9), some (vR 10), some (vI x5), o6, o7, o8] [] L = xnG call 17 F 45 [some (vR (wJ W kt + 42)), some (vI x1), some (vI x2), some (vR 9), some (vR 10), some (vI (x5 + 1)), o6, o7, o8] [] L := rfl
set_option maxRecDepth 100000 in
theorem bn_c2_17_11 (call : QC FA) (x1 : Int32) (x2 : Int32) (x5 : Int32) (o6 : Option PV) (o7 : Option PV) (o8 : Option PV) (L : QH FA) (F : Nat) : xnG call 17 (F + 1) 45 [some (vR (wJ W kt + 42)), some (vI x1), some (vI x2), some (vR 9), some (vR 10), some (vI x5), o6, o7, o8] [] L = xnG call 17 F 2 [some (vR (wJ W kt + 42)), some (vI x1), some (vI x2), some (vR 9), some (vR 10), some (vI x5), o6, o7, o8] [] L := rfl
set_option maxRecDepth 100000 in
theorem bn_c2_17_12 (call : QC FA) (x1 : Int32) (x2 : Int32) (x5 : Int32) (o6 : Option PV) (o7 : Option PV) (o8 : Option PV) (L : QH FA) (F : Nat) : xnG call 17 (F + 3) 12 [some (vR (wJ W kt + 42)), some (vI x1), some (vI x2), some (vR 9), some (vR 10), some (vI x5), o6, o7, o8] [] L = xnG call 17 F 15 [some (vR (wJ W kt + 42)), some (vI x1), some (vI x2), some (vR 9), some (vR 10), some (vI x5), o6, o7, o8] [vI 1, vI x5, vR (wJ W kt + 42)] L := rfl
set_option maxRecDepth 100000 in
theorem bn_c2_17_13 (hW : WTX W) (hk : kt < 4) (call : QC FA) (a0 : Int32) (a1 : Int32) (ls : List (Option PV)) (z : Nat → Int32) (f : Nat → FA) (F : Nat) : xnG call 17 (F + 1) 15 ls [vI a1, vI a0, vR (wJ W kt + 42)] (LW W z f) = cbd (call 18 [vR (wJ W kt + 42), vI a0, vI a1] (LW W z f)) (fun r L' => xnG call 17 F 16 ls (r.toList ++ []) L') := pcY (ih := xnG call 17 F) (call := call) (a := 18) (b := 2) (v := 8) (t := 16) (x := wJ W kt + 42) (ls := ls) (As := [vI a0, vI a1]) (st' := []) (L := LW W z f) rfl (gj_t hW hk) rfl
set_option maxRecDepth 100000 in
theorem bn_c2_17_14 (call : QC FA) (x1 : Int32) (x2 : Int32) (x5 : Int32) (o6 : Option PV) (o7 : Option PV) (o8 : Option PV) (s0 : Int32) (L : QH FA) (F : Nat) : xnG call 17 (F + 4) 16 [some (vR (wJ W kt + 42)), some (vI x1), some (vI x2), some (vR 9), some (vR 10), some (vI x5), o6, o7, o8] [vI s0] L = xnG call 17 F 20 [some (vR (wJ W kt + 42)), some (vI x1), some (vI x2), some (vR 9), some (vR 10), some (vI x5), some (vI s0), o7, o8] [vI 2, vI x5, vR (wJ W kt + 42)] L := rfl
set_option maxRecDepth 100000 in
theorem bn_c2_17_15 (hW : WTX W) (hk : kt < 4) (call : QC FA) (a0 : Int32) (a1 : Int32) (ls : List (Option PV)) (z : Nat → Int32) (f : Nat → FA) (F : Nat) : xnG call 17 (F + 1) 20 ls [vI a1, vI a0, vR (wJ W kt + 42)] (LW W z f) = cbd (call 18 [vR (wJ W kt + 42), vI a0, vI a1] (LW W z f)) (fun r L' => xnG call 17 F 21 ls (r.toList ++ []) L') := pcY (ih := xnG call 17 F) (call := call) (a := 18) (b := 2) (v := 8) (t := 21) (x := wJ W kt + 42) (ls := ls) (As := [vI a0, vI a1]) (st' := []) (L := LW W z f) rfl (gj_t hW hk) rfl
set_option maxRecDepth 100000 in
theorem bn_c2_17_16 (call : QC FA) (x1 : Int32) (x2 : Int32) (x5 : Int32) (x6 : Int32) (o7 : Option PV) (o8 : Option PV) (s0 : Int32) (L : QH FA) (F : Nat) : xnG call 17 (F + 4) 21 [some (vR (wJ W kt + 42)), some (vI x1), some (vI x2), some (vR 9), some (vR 10), some (vI x5), some (vI x6), o7, o8] [vI s0] L = xnG call 17 F 25 [some (vR (wJ W kt + 42)), some (vI x1), some (vI x2), some (vR 9), some (vR 10), some (vI x5), some (vI x6), some (vI s0), o8] [vI 3, vI x5, vR (wJ W kt + 42)] L := rfl
set_option maxRecDepth 100000 in
theorem bn_c2_17_17 (hW : WTX W) (hk : kt < 4) (call : QC FA) (a0 : Int32) (a1 : Int32) (ls : List (Option PV)) (z : Nat → Int32) (f : Nat → FA) (F : Nat) : xnG call 17 (F + 1) 25 ls [vI a1, vI a0, vR (wJ W kt + 42)] (LW W z f) = cbd (call 18 [vR (wJ W kt + 42), vI a0, vI a1] (LW W z f)) (fun r L' => xnG call 17 F 26 ls (r.toList ++ []) L') := pcY (ih := xnG call 17 F) (call := call) (a := 18) (b := 2) (v := 8) (t := 26) (x := wJ W kt + 42) (ls := ls) (As := [vI a0, vI a1]) (st' := []) (L := LW W z f) rfl (gj_t hW hk) rfl
set_option maxRecDepth 100000 in
theorem bn_c2_17_18 (call : QC FA) (x1 : Int32) (x2 : Int32) (x5 : Int32) (x6 : Int32) (x7 : Int32) (o8 : Option PV) (s0 : Int32) (L : QH FA) (F : Nat) : xnG call 17 (F + 3) 26 [some (vR (wJ W kt + 42)), some (vI x1), some (vI x2), some (vR 9), some (vR 10), some (vI x5), some (vI x6), some (vI x7), o8] [vI s0] L = xnG call 17 F 29 [some (vR (wJ W kt + 42)), some (vI x1), some (vI x2), some (vR 9), some (vR 10), some (vI x5), some (vI x6), some (vI x7), some (vI s0)] [vI s0, vI x7] L := rfl
set_option maxRecDepth 100000 in
theorem bn_c2_17_19 (call : QC FA) (x y : Int32) (ls : List (Option PV)) (L : QH FA) (F : Nat) : xnG call 17 (F + 1) 29 ls [vI y, vI x] L = bif pcmp 0 x y then xnG call 17 F 37 ls [] L else xnG call 17 F 30 ls [] L := rfl
set_option maxRecDepth 100000 in
theorem bn_c2_17_20 (call : QC FA) (x1 : Int32) (x2 : Int32) (x5 : Int32) (x6 : Int32) (x7 : Int32) (x8 : Int32) (L : QH FA) (F : Nat) : xnG call 17 (F + 5) 37 [some (vR (wJ W kt + 42)), some (vI x1), some (vI x2), some (vR 9), some (vR 10), some (vI x5), some (vI x6), some (vI x7), some (vI x8)] [] L = xnG call 17 F 42 [some (vR (wJ W kt + 42)), some (vI x1), some (vI x2), some (vR 9), some (vR 10), some (vI x5), some (vI x6), some (vI x7), some (vI x8)] [vR 10, vR 9, vI x7, vI x6, vR (wJ W kt + 42)] L := rfl
set_option maxRecDepth 100000 in
theorem bn_c2_17_21 (hW : WTX W) (hk : kt < 4) (call : QC FA) (a0 : Int32) (a1 : Int32) (ls : List (Option PV)) (z : Nat → Int32) (f : Nat → FA) (F : Nat) : xnG call 17 (F + 1) 42 ls [vR 10, vR 9, vI a1, vI a0, vR (wJ W kt + 42)] (LW W z f) = cbd (call 19 [vR (wJ W kt + 42), vI a0, vI a1, vR 9, vR 10] (LW W z f)) (fun r L' => xnG call 17 F 43 ls (r.toList ++ []) L') := pcY (ih := xnG call 17 F) (call := call) (a := 19) (b := 4) (v := 8) (t := 43) (x := wJ W kt + 42) (ls := ls) (As := [vI a0, vI a1, vR 9, vR 10]) (st' := []) (L := LW W z f) rfl (gj_t hW hk) rfl
set_option maxRecDepth 100000 in
theorem bn_c2_17_22 (call : QC FA) (x : Int32) (ls : List (Option PV)) (L : QH FA) (F : Nat) : xnG call 17 (F + 1) 43 ls [vI x] L = some (some (vI x), L) := rfl
set_option maxRecDepth 100000 in
theorem bn_c2_17_23 (call : QC FA) (x1 : Int32) (x2 : Int32) (x5 : Int32) (x6 : Int32) (x7 : Int32) (x8 : Int32) (L : QH FA) (F : Nat) : xnG call 17 (F + 5) 30 [some (vR (wJ W kt + 42)), some (vI x1), some (vI x2), some (vR 9), some (vR 10), some (vI x5), some (vI x6), some (vI x7), some (vI x8)] [] L = xnG call 17 F 35 [some (vR (wJ W kt + 42)), some (vI x1), some (vI x2), some (vR 9), some (vR 10), some (vI x5), some (vI x6), some (vI x7), some (vI x8)] [vR 10, vR 9, vI x8, vI x7, vR (wJ W kt + 42)] L := rfl
set_option maxRecDepth 100000 in
theorem bn_c2_17_24 (hW : WTX W) (hk : kt < 4) (call : QC FA) (a0 : Int32) (a1 : Int32) (ls : List (Option PV)) (z : Nat → Int32) (f : Nat → FA) (F : Nat) : xnG call 17 (F + 1) 35 ls [vR 10, vR 9, vI a1, vI a0, vR (wJ W kt + 42)] (LW W z f) = cbd (call 19 [vR (wJ W kt + 42), vI a0, vI a1, vR 9, vR 10] (LW W z f)) (fun r L' => xnG call 17 F 36 ls (r.toList ++ []) L') := pcY (ih := xnG call 17 F) (call := call) (a := 19) (b := 4) (v := 8) (t := 36) (x := wJ W kt + 42) (ls := ls) (As := [vI a0, vI a1, vR 9, vR 10]) (st' := []) (L := LW W z f) rfl (gj_t hW hk) rfl
set_option maxRecDepth 100000 in
theorem bn_c2_17_25 (call : QC FA) (x : Int32) (ls : List (Option PV)) (L : QH FA) (F : Nat) : xnG call 17 (F + 1) 36 ls [vI x] L = bif pcmp 0 x 0 then xnG call 17 F 44 ls [] L else xnG call 17 F 37 ls [] L := rfl
set_option maxRecDepth 100000 in
theorem bn_c2_17_26 (call : QC FA) (x1 : Int32) (x2 : Int32) (x5 : Int32) (x6 : Int32) (x7 : Int32) (x8 : Int32) (L : QH FA) (F : Nat) : xnG call 17 (F + 1) 44 [some (vR (wJ W kt + 42)), some (vI x1), some (vI x2), some (vR 9), some (vR 10), some (vI x5), some (vI x6), some (vI x7), some (vI x8)] [] L = xnG call 17 F 45 [some (vR (wJ W kt + 42)), some (vI x1), some (vI x2), some (vR 9), some (vR 10), some (vI (x5 + 1)), some (vI x6), some (vI x7), some (vI x8)] [] L := rfl
set_option maxRecDepth 100000 in
theorem bn_c2_17_27 (call : QC FA) (x1 : Int32) (x2 : Int32) (x5 : Int32) (x6 : Int32) (x7 : Int32) (x8 : Int32) (L : QH FA) (F : Nat) : xnG call 17 (F + 1) 45 [some (vR (wJ W kt + 42)), some (vI x1), some (vI x2), some (vR 9), some (vR 10), some (vI x5), some (vI x6), some (vI x7), some (vI x8)] [] L = xnG call 17 F 2 [some (vR (wJ W kt + 42)), some (vI x1), some (vI x2), some (vR 9), some (vR 10), some (vI x5), some (vI x6), some (vI x7), some (vI x8)] [] L := rfl
theorem vcn_c2_17_2 (hW : WTX W) (hk : kt < 4) (call : QC FA) (x1 : Int32) (x2 : Int32) (x5 : Int32) (o6 : Option PV) (o7 : Option PV) (o8 : Option PV) (z : Nat → Int32) (f : Nat → FA) (res : Option PV × QH FA) (H : ((I (wn W kt) ≤ I x5 → res = (some (vI x2), LW W z f)) ∧ (I x5 < I (wn W kt) → (∃ (r1 : Int32) (z1 : Nat → Int32) (f1 : Nat → FA), call 18 [vR (wJ W kt + 42), vI x5, vI 0] (LW W z f) = some (some (vI r1), LW W z1 f1) ∧ ((¬ r1 = x1 → XC call (mP 17) 2 [some (vR (wJ W kt + 42)), some (vI x1), some (vI x2), some (vR 9), some (vR 10), some (vI (x5 + 1)), o6, o7, o8] [] (LW W z1 f1) res) ∧ (r1 = x1 → (∃ (r2 : Int32) (z2 : Nat → Int32) (f2 : Nat → FA), call 18 [vR (wJ W kt + 42), vI x5, vI 1] (LW W z1 f1) = some (some (vI r2), LW W z2 f2) ∧ (∃ (r3 : Int32) (z3 : Nat → Int32) (f3 : Nat → FA), call 18 [vR (wJ W kt + 42), vI x5, vI 2] (LW W z2 f2) = some (some (vI r3), LW W z3 f3) ∧ (∃ (r4 : Int32) (z4 : Nat → Int32) (f4 : Nat → FA), call 18 [vR (wJ W kt + 42), vI x5, vI 3] (LW W z3 f3) = some (some (vI r4), LW W z4 f4) ∧ ((r3 = r4 → (∃ (r5 : Int32) (z5 : Nat → Int32) (f5 : Nat → FA), call 19 [vR (wJ W kt + 42), vI r2, vI r3, vR 9, vR 10] (LW W z4 f4) = some (some (vI r5), LW W z5 f5) ∧ res = (some (vI r5), LW W z5 f5))) ∧ (¬ r3 = r4 → (∃ (r6 : Int32) (z6 : Nat → Int32) (f6 : Nat → FA), call 19 [vR (wJ W kt + 42), vI r3, vI r4, vR 9, vR 10] (LW W z4 f4) = some (some (vI r6), LW W z6 f6) ∧ ((r6 = 0 → XC call (mP 17) 2 [some (vR (wJ W kt + 42)), some (vI x1), some (vI x2), some (vR 9), some (vR 10), some (vI (x5 + 1)), some (vI r2), some (vI r3), some (vI r4)] [] (LW W z6 f6) res) ∧ (¬ r6 = 0 → (∃ (r7 : Int32) (z7 : Nat → Int32) (f7 : Nat → FA), call 19 [vR (wJ W kt + 42), vI r2, vI r3, vR 9, vR 10] (LW W z6 f6) = some (some (vI r7), LW W z7 f7) ∧ res = (some (vI r7), LW W z7 f7)))))))))))))))) : XC call (mP 17) 2 [some (vR (wJ W kt + 42)), some (vI x1), some (vI x2), some (vR 9), some (vR 10), some (vI x5), o6, o7, o8] [] (LW W z f) res := by
  refine xc_b (i' := 4) (ls' := [some (vR (wJ W kt + 42)), some (vI x1), some (vI x2), some (vR 9), some (vR 10), some (vI x5), o6, o7, o8]) (st' := [vR (wJ W kt + 42), vI x5]) (L' := LW W z f) 2 (bn_c2_17_1 call x1 x2 x5 o6 o7 o8 _) ?_
  refine xc_b (i' := 5) (ls' := [some (vR (wJ W kt + 42)), some (vI x1), some (vI x2), some (vR 9), some (vR 10), some (vI x5), o6, o7, o8]) (st' := [vI (wn W kt), vI x5]) (L' := LW W z f) 1 (bn_c2_17_2 hW hk call x5 _ z f) ?_
  refine xc_if (it := 46) (ie := 6) (ls' := [some (vR (wJ W kt + 42)), some (vI x1), some (vI x2), some (vR 9), some (vR 10), some (vI x5), o6, o7, o8]) (st' := []) (bn_c2_17_3 call x5 (wn W kt) _ _) (fun q1 => ?_) (fun q1 => ?_)
  · have H := H.1 (cI3t q1 rfl rfl)
    refine xc_b (i' := 47) (ls' := [some (vR (wJ W kt + 42)), some (vI x1), some (vI x2), some (vR 9), some (vR 10), some (vI x5), o6, o7, o8]) (st' := [vI x2]) (L' := LW W z f) 1 (bn_c2_17_4 call x1 x2 x5 o6 o7 o8 _) ?_
    subst H
    exact xc_ret (bn_c2_17_5 call _ _ _)
  · have H := H.2 (cI3f q1 rfl rfl)
    refine xc_b (i' := 9) (ls' := [some (vR (wJ W kt + 42)), some (vI x1), some (vI x2), some (vR 9), some (vR 10), some (vI x5), o6, o7, o8]) (st' := [vI 0, vI x5, vR (wJ W kt + 42)]) (L' := LW W z f) 3 (bn_c2_17_6 call x1 x2 x5 o6 o7 o8 _) ?_
    obtain ⟨r1, z1, f1, hc, H⟩ := H
    refine xc_call (t := 10) (ls' := [some (vR (wJ W kt + 42)), some (vI x1), some (vI x2), some (vR 9), some (vR 10), some (vI x5), o6, o7, o8]) (st' := []) (bn_c2_17_7 hW hk call x5 0 _ z f) hc ?_
    show XC call (mP 17) 10 [some (vR (wJ W kt + 42)), some (vI x1), some (vI x2), some (vR 9), some (vR 10), some (vI x5), o6, o7, o8] [vI r1] (LW W z1 f1) res
    refine xc_b (i' := 11) (ls' := [some (vR (wJ W kt + 42)), some (vI x1), some (vI x2), some (vR 9), some (vR 10), some (vI x5), o6, o7, o8]) (st' := [vI x1, vI r1]) (L' := LW W z1 f1) 1 (bn_c2_17_8 call x1 x2 x5 o6 o7 o8 r1 _) ?_
    refine xc_if (it := 44) (ie := 12) (ls' := [some (vR (wJ W kt + 42)), some (vI x1), some (vI x2), some (vR 9), some (vR 10), some (vI x5), o6, o7, o8]) (st' := []) (bn_c2_17_9 call r1 x1 _ _) (fun q2 => ?_) (fun q2 => ?_)
    · have H := H.1 (cI1t q2)
      refine xc_b (i' := 45) (ls' := [some (vR (wJ W kt + 42)), some (vI x1), some (vI x2), some (vR 9), some (vR 10), some (vI (x5 + 1)), o6, o7, o8]) (st' := []) (L' := LW W z1 f1) 1 (bn_c2_17_10 call x1 x2 x5 o6 o7 o8 _) ?_
      refine xc_b (i' := 2) (ls' := [some (vR (wJ W kt + 42)), some (vI x1), some (vI x2), some (vR 9), some (vR 10), some (vI (x5 + 1)), o6, o7, o8]) (st' := []) (L' := LW W z1 f1) 1 (bn_c2_17_11 call x1 x2 (x5 + 1) o6 o7 o8 _) ?_
      exact H
    · have H := H.2 (cI1f q2)
      refine xc_b (i' := 15) (ls' := [some (vR (wJ W kt + 42)), some (vI x1), some (vI x2), some (vR 9), some (vR 10), some (vI x5), o6, o7, o8]) (st' := [vI 1, vI x5, vR (wJ W kt + 42)]) (L' := LW W z1 f1) 3 (bn_c2_17_12 call x1 x2 x5 o6 o7 o8 _) ?_
      obtain ⟨r2, z2, f2, hc, H⟩ := H
      refine xc_call (t := 16) (ls' := [some (vR (wJ W kt + 42)), some (vI x1), some (vI x2), some (vR 9), some (vR 10), some (vI x5), o6, o7, o8]) (st' := []) (bn_c2_17_13 hW hk call x5 1 _ z1 f1) hc ?_
      show XC call (mP 17) 16 [some (vR (wJ W kt + 42)), some (vI x1), some (vI x2), some (vR 9), some (vR 10), some (vI x5), o6, o7, o8] [vI r2] (LW W z2 f2) res
      refine xc_b (i' := 20) (ls' := [some (vR (wJ W kt + 42)), some (vI x1), some (vI x2), some (vR 9), some (vR 10), some (vI x5), some (vI r2), o7, o8]) (st' := [vI 2, vI x5, vR (wJ W kt + 42)]) (L' := LW W z2 f2) 4 (bn_c2_17_14 call x1 x2 x5 o6 o7 o8 r2 _) ?_
      obtain ⟨r3, z3, f3, hc, H⟩ := H
      refine xc_call (t := 21) (ls' := [some (vR (wJ W kt + 42)), some (vI x1), some (vI x2), some (vR 9), some (vR 10), some (vI x5), some (vI r2), o7, o8]) (st' := []) (bn_c2_17_15 hW hk call x5 2 _ z2 f2) hc ?_
      show XC call (mP 17) 21 [some (vR (wJ W kt + 42)), some (vI x1), some (vI x2), some (vR 9), some (vR 10), some (vI x5), some (vI r2), o7, o8] [vI r3] (LW W z3 f3) res
      refine xc_b (i' := 25) (ls' := [some (vR (wJ W kt + 42)), some (vI x1), some (vI x2), some (vR 9), some (vR 10), some (vI x5), some (vI r2), some (vI r3), o8]) (st' := [vI 3, vI x5, vR (wJ W kt + 42)]) (L' := LW W z3 f3) 4 (bn_c2_17_16 call x1 x2 x5 r2 o7 o8 r3 _) ?_
      obtain ⟨r4, z4, f4, hc, H⟩ := H
      refine xc_call (t := 26) (ls' := [some (vR (wJ W kt + 42)), some (vI x1), some (vI x2), some (vR 9), some (vR 10), some (vI x5), some (vI r2), some (vI r3), o8]) (st' := []) (bn_c2_17_17 hW hk call x5 3 _ z3 f3) hc ?_
      show XC call (mP 17) 26 [some (vR (wJ W kt + 42)), some (vI x1), some (vI x2), some (vR 9), some (vR 10), some (vI x5), some (vI r2), some (vI r3), o8] [vI r4] (LW W z4 f4) res
      refine xc_b (i' := 29) (ls' := [some (vR (wJ W kt + 42)), some (vI x1), some (vI x2), some (vR 9), some (vR 10), some (vI x5), some (vI r2), some (vI r3), some (vI r4)]) (st' := [vI r4, vI r3]) (L' := LW W z4 f4) 3 (bn_c2_17_18 call x1 x2 x5 r2 r3 o8 r4 _) ?_
      refine xc_if (it := 37) (ie := 30) (ls' := [some (vR (wJ W kt + 42)), some (vI x1), some (vI x2), some (vR 9), some (vR 10), some (vI x5), some (vI r2), some (vI r3), some (vI r4)]) (st' := []) (bn_c2_17_19 call r3 r4 _ _) (fun q3 => ?_) (fun q3 => ?_)
      · have H := H.1 (cI0t q3)
        refine xc_b (i' := 42) (ls' := [some (vR (wJ W kt + 42)), some (vI x1), some (vI x2), some (vR 9), some (vR 10), some (vI x5), some (vI r2), some (vI r3), some (vI r4)]) (st' := [vR 10, vR 9, vI r3, vI r2, vR (wJ W kt + 42)]) (L' := LW W z4 f4) 5 (bn_c2_17_20 call x1 x2 x5 r2 r3 r4 _) ?_
        obtain ⟨r5, z5, f5, hc, H⟩ := H
        refine xc_call (t := 43) (ls' := [some (vR (wJ W kt + 42)), some (vI x1), some (vI x2), some (vR 9), some (vR 10), some (vI x5), some (vI r2), some (vI r3), some (vI r4)]) (st' := []) (bn_c2_17_21 hW hk call r2 r3 _ z4 f4) hc ?_
        show XC call (mP 17) 43 [some (vR (wJ W kt + 42)), some (vI x1), some (vI x2), some (vR 9), some (vR 10), some (vI x5), some (vI r2), some (vI r3), some (vI r4)] [vI r5] (LW W z5 f5) res
        subst H
        exact xc_ret (bn_c2_17_22 call _ _ _)
      · have H := H.2 (cI0f q3)
        refine xc_b (i' := 35) (ls' := [some (vR (wJ W kt + 42)), some (vI x1), some (vI x2), some (vR 9), some (vR 10), some (vI x5), some (vI r2), some (vI r3), some (vI r4)]) (st' := [vR 10, vR 9, vI r4, vI r3, vR (wJ W kt + 42)]) (L' := LW W z4 f4) 5 (bn_c2_17_23 call x1 x2 x5 r2 r3 r4 _) ?_
        obtain ⟨r6, z6, f6, hc, H⟩ := H
        refine xc_call (t := 36) (ls' := [some (vR (wJ W kt + 42)), some (vI x1), some (vI x2), some (vR 9), some (vR 10), some (vI x5), some (vI r2), some (vI r3), some (vI r4)]) (st' := []) (bn_c2_17_24 hW hk call r3 r4 _ z4 f4) hc ?_
        show XC call (mP 17) 36 [some (vR (wJ W kt + 42)), some (vI x1), some (vI x2), some (vR 9), some (vR 10), some (vI x5), some (vI r2), some (vI r3), some (vI r4)] [vI r6] (LW W z6 f6) res
        refine xc_if (it := 44) (ie := 37) (ls' := [some (vR (wJ W kt + 42)), some (vI x1), some (vI x2), some (vR 9), some (vR 10), some (vI x5), some (vI r2), some (vI r3), some (vI r4)]) (st' := []) (bn_c2_17_25 call r6 _ _) (fun q4 => ?_) (fun q4 => ?_)
        · have H := H.1 (cI0t q4)
          refine xc_b (i' := 45) (ls' := [some (vR (wJ W kt + 42)), some (vI x1), some (vI x2), some (vR 9), some (vR 10), some (vI (x5 + 1)), some (vI r2), some (vI r3), some (vI r4)]) (st' := []) (L' := LW W z6 f6) 1 (bn_c2_17_26 call x1 x2 x5 r2 r3 r4 _) ?_
          refine xc_b (i' := 2) (ls' := [some (vR (wJ W kt + 42)), some (vI x1), some (vI x2), some (vR 9), some (vR 10), some (vI (x5 + 1)), some (vI r2), some (vI r3), some (vI r4)]) (st' := []) (L' := LW W z6 f6) 1 (bn_c2_17_27 call x1 x2 (x5 + 1) r2 r3 r4 _) ?_
          exact H
        · have H := H.2 (cI0f q4)
          refine xc_b (i' := 42) (ls' := [some (vR (wJ W kt + 42)), some (vI x1), some (vI x2), some (vR 9), some (vR 10), some (vI x5), some (vI r2), some (vI r3), some (vI r4)]) (st' := [vR 10, vR 9, vI r3, vI r2, vR (wJ W kt + 42)]) (L' := LW W z6 f6) 5 (bn_c2_17_20 call x1 x2 x5 r2 r3 r4 _) ?_
          obtain ⟨r7, z7, f7, hc, H⟩ := H
          refine xc_call (t := 43) (ls' := [some (vR (wJ W kt + 42)), some (vI x1), some (vI x2), some (vR 9), some (vR 10), some (vI x5), some (vI r2), some (vI r3), some (vI r4)]) (st' := []) (bn_c2_17_21 hW hk call r2 r3 _ z6 f6) hc ?_
          show XC call (mP 17) 43 [some (vR (wJ W kt + 42)), some (vI x1), some (vI x2), some (vR 9), some (vR 10), some (vI x5), some (vI r2), some (vI r3), some (vI r4)] [vI r7] (LW W z7 f7) res
          subst H
          exact xc_ret (bn_c2_17_22 call _ _ _)
set_option maxRecDepth 100000 in
theorem bn_12_1 (call : QC FA) (x1 : Int32) (x2 : Int32) (o3 : Option PV) (L : QH FA) (F : Nat) : xnG call 12 (F + 2) 0 [some (vR 8), some (vI x1), some (vI x2), o3] [] L = xnG call 12 F 2 [some (vR 8), some (vI x1), some (vI x2), o3] [vI ((-1)), vI x2] L := rfl
set_option maxRecDepth 100000 in
theorem bn_12_2 (call : QC FA) (x y : Int32) (ls : List (Option PV)) (L : QH FA) (F : Nat) : xnG call 12 (F + 1) 2 ls [vI y, vI x] L = bif pcmp 0 x y then xnG call 12 F 5 ls [] L else xnG call 12 F 3 ls [] L := rfl
set_option maxRecDepth 100000 in
theorem bn_12_3 (call : QC FA) (x1 : Int32) (x2 : Int32) (o3 : Option PV) (z : Nat → Int32) (f : Nat → FA) (F : Nat) : xnG call 12 (F + 6) 5 [some (vR 8), some (vI x1), some (vI x2), o3] [] (LW W z f) = xnG call 12 F 11 [some (vR 8), some (vI x1), some (vI x2), some (vI 0)] [vI 0, vI 0, vR 9] (LW W z f) := rfl
set_option maxRecDepth 100000 in
theorem bn_12_4 (call : QC FA) (x : Int32) (s0 : Int32) (ls : List (Option PV)) (L : QH FA) (F : Nat) : xnG call 12 (F + 1) 11 ls [vI x, vI s0, vR 9] L = bif pcmp 0 x 0 then xnG call 12 F 17 ls [vI s0, vR 9] L else xnG call 12 F 12 ls [vI s0, vR 9] L := rfl
set_option maxRecDepth 100000 in
theorem bn_12_5 (call : QC FA) (x1 : Int32) (x2 : Int32) (x3 : Int32) (s0 : Int32) (z : Nat → Int32) (f : Nat → FA) (F : Nat) : xnG call 12 (F + 4) 17 [some (vR 8), some (vI x1), some (vI x2), some (vI x3)] [vI s0, vR 9] (LW W z f) = xnG call 12 F 21 [some (vR 8), some (vI x1), some (vI x2), some (vI x3)] [vI 1, vI x1, vR 2, vI s0, vR 9] (LW W z f) := rfl
set_option maxRecDepth 100000 in
theorem bn_12_6 (call : QC FA) (a0 : Int32) (a1 : Int32) (s0 : Int32) (ls : List (Option PV)) (z : Nat → Int32) (f : Nat → FA) (F : Nat) : xnG call 12 (F + 1) 21 ls [vI a1, vI a0, vR 2, vI s0, vR 9] (LW W z f) = cbd (call 13 [vR 2, vI a0, vI a1] (LW W z f)) (fun r L' => xnG call 12 F 22 ls (r.toList ++ [vI s0, vR 9]) L') := pcY (ih := xnG call 12 F) (call := call) (a := 13) (b := 2) (v := 0) (t := 22) (x := 2) (ls := ls) (As := [vI a0, vI a1]) (st' := [vI s0, vR 9]) (L := LW W z f) rfl rfl rfl
set_option maxRecDepth 100000 in
theorem bn_12_7 (call : QC FA) (x y : Int32) (ls : List (Option PV)) (z : Nat → Int32) (f : Nat → FA) (F : Nat) : xnG call 12 (F + 1) 22 ls [vI y, vI x, vR 9] (LW W z f) = bif (Nat.beq 0 0 && pin x 10) then xnG call 12 F 23 ls [] (LW W z (uA f 9 (upd (f 9) (ix x) y))) else none := rfl
set_option maxRecDepth 100000 in
theorem bn_12_8 (call : QC FA) (x1 : Int32) (x2 : Int32) (x3 : Int32) (z : Nat → Int32) (f : Nat → FA) (F : Nat) : xnG call 12 (F + 7) 23 [some (vR 8), some (vI x1), some (vI x2), some (vI x3)] [] (LW W z f) = xnG call 12 F 30 [some (vR 8), some (vI x1), some (vI x2), some (vI x3)] [vI 3, vI x1, vR 2, vI 1, vR 9] (LW W z f) := rfl
set_option maxRecDepth 100000 in
theorem bn_12_9 (call : QC FA) (a0 : Int32) (a1 : Int32) (s0 : Int32) (ls : List (Option PV)) (z : Nat → Int32) (f : Nat → FA) (F : Nat) : xnG call 12 (F + 1) 30 ls [vI a1, vI a0, vR 2, vI s0, vR 9] (LW W z f) = cbd (call 13 [vR 2, vI a0, vI a1] (LW W z f)) (fun r L' => xnG call 12 F 31 ls (r.toList ++ [vI s0, vR 9]) L') := pcY (ih := xnG call 12 F) (call := call) (a := 13) (b := 2) (v := 0) (t := 31) (x := 2) (ls := ls) (As := [vI a0, vI a1]) (st' := [vI s0, vR 9]) (L := LW W z f) rfl rfl rfl
set_option maxRecDepth 100000 in
theorem bn_12_10 (call : QC FA) (x y : Int32) (ls : List (Option PV)) (z : Nat → Int32) (f : Nat → FA) (F : Nat) : xnG call 12 (F + 1) 31 ls [vI y, vI x, vR 9] (LW W z f) = bif (Nat.beq 0 0 && pin x 10) then xnG call 12 F 32 ls [] (LW W z (uA f 9 (upd (f 9) (ix x) y))) else none := rfl
set_option maxRecDepth 100000 in
theorem bn_12_11 (call : QC FA) (x1 : Int32) (x2 : Int32) (x3 : Int32) (z : Nat → Int32) (f : Nat → FA) (F : Nat) : xnG call 12 (F + 7) 32 [some (vR 8), some (vI x1), some (vI x2), some (vI x3)] [] (LW W z f) = xnG call 12 F 39 [some (vR 8), some (vI x1), some (vI x2), some (vI x3)] [vI 2, vI x1, vR 2, vI 2, vR 9] (LW W z f) := rfl
set_option maxRecDepth 100000 in
theorem bn_12_12 (call : QC FA) (a0 : Int32) (a1 : Int32) (s0 : Int32) (ls : List (Option PV)) (z : Nat → Int32) (f : Nat → FA) (F : Nat) : xnG call 12 (F + 1) 39 ls [vI a1, vI a0, vR 2, vI s0, vR 9] (LW W z f) = cbd (call 13 [vR 2, vI a0, vI a1] (LW W z f)) (fun r L' => xnG call 12 F 40 ls (r.toList ++ [vI s0, vR 9]) L') := pcY (ih := xnG call 12 F) (call := call) (a := 13) (b := 2) (v := 0) (t := 40) (x := 2) (ls := ls) (As := [vI a0, vI a1]) (st' := [vI s0, vR 9]) (L := LW W z f) rfl rfl rfl
set_option maxRecDepth 100000 in
theorem bn_12_13 (call : QC FA) (x y : Int32) (ls : List (Option PV)) (z : Nat → Int32) (f : Nat → FA) (F : Nat) : xnG call 12 (F + 1) 40 ls [vI y, vI x, vR 9] (LW W z f) = bif (Nat.beq 0 0 && pin x 10) then xnG call 12 F 41 ls [] (LW W z (uA f 9 (upd (f 9) (ix x) y))) else none := rfl
set_option maxRecDepth 100000 in
theorem bn_12_14 (call : QC FA) (x1 : Int32) (x2 : Int32) (x3 : Int32) (z : Nat → Int32) (f : Nat → FA) (F : Nat) : xnG call 12 (F + 4) 41 [some (vR 8), some (vI x1), some (vI x2), some (vI x3)] [] (LW W z f) = xnG call 12 F 45 [some (vR 8), some (vI x1), some (vI x2), some (vI x3)] [vI x3, vI 3, vR 9] (LW W z f) := rfl
set_option maxRecDepth 100000 in
theorem bn_12_15 (call : QC FA) (x : Int32) (s0 : Int32) (ls : List (Option PV)) (L : QH FA) (F : Nat) : xnG call 12 (F + 1) 45 ls [vI x, vI s0, vR 9] L = bif pcmp 0 x 0 then xnG call 12 F 51 ls [vI s0, vR 9] L else xnG call 12 F 46 ls [vI s0, vR 9] L := rfl
set_option maxRecDepth 100000 in
theorem bn_12_16 (call : QC FA) (x1 : Int32) (x2 : Int32) (x3 : Int32) (s0 : Int32) (L : QH FA) (F : Nat) : xnG call 12 (F + 1) 51 [some (vR 8), some (vI x1), some (vI x2), some (vI x3)] [vI s0, vR 9] L = xnG call 12 F 52 [some (vR 8), some (vI x1), some (vI x2), some (vI x3)] [vI 0, vI s0, vR 9] L := rfl
set_option maxRecDepth 100000 in
theorem bn_12_17 (call : QC FA) (x y : Int32) (ls : List (Option PV)) (z : Nat → Int32) (f : Nat → FA) (F : Nat) : xnG call 12 (F + 1) 52 ls [vI y, vI x, vR 9] (LW W z f) = bif (Nat.beq 0 0 && pin x 10) then xnG call 12 F 53 ls [] (LW W z (uA f 9 (upd (f 9) (ix x) y))) else none := rfl
set_option maxRecDepth 100000 in
theorem bn_12_18 (call : QC FA) (x1 : Int32) (x2 : Int32) (x3 : Int32) (z : Nat → Int32) (f : Nat → FA) (F : Nat) : xnG call 12 (F + 6) 53 [some (vR 8), some (vI x1), some (vI x2), some (vI x3)] [] (LW W z f) = xnG call 12 F 59 [some (vR 8), some (vI x1), some (vI x2), some (vI x3)] [vI (z 23), vI 4, vR 9] (LW W z f) := rfl
set_option maxRecDepth 100000 in
theorem bn_12_19 (call : QC FA) (x y : Int32) (ls : List (Option PV)) (z : Nat → Int32) (f : Nat → FA) (F : Nat) : xnG call 12 (F + 1) 59 ls [vI y, vI x, vR 9] (LW W z f) = bif (Nat.beq 0 0 && pin x 10) then xnG call 12 F 60 ls [] (LW W z (uA f 9 (upd (f 9) (ix x) y))) else none := rfl
set_option maxRecDepth 100000 in
theorem bn_12_20 (call : QC FA) (x1 : Int32) (x2 : Int32) (x3 : Int32) (z : Nat → Int32) (f : Nat → FA) (F : Nat) : xnG call 12 (F + 6) 60 [some (vR 8), some (vI x1), some (vI x2), some (vI x3)] [] (LW W z f) = xnG call 12 F 66 [some (vR 8), some (vI x1), some (vI x2), some (vI x3)] [vI (z 24), vI 5, vR 9] (LW W z f) := rfl
set_option maxRecDepth 100000 in
theorem bn_12_21 (call : QC FA) (x y : Int32) (ls : List (Option PV)) (z : Nat → Int32) (f : Nat → FA) (F : Nat) : xnG call 12 (F + 1) 66 ls [vI y, vI x, vR 9] (LW W z f) = bif (Nat.beq 0 0 && pin x 10) then xnG call 12 F 67 ls [] (LW W z (uA f 9 (upd (f 9) (ix x) y))) else none := rfl
set_option maxRecDepth 100000 in
theorem bn_12_22 (call : QC FA) (x1 : Int32) (x2 : Int32) (x3 : Int32) (z : Nat → Int32) (f : Nat → FA) (F : Nat) : xnG call 12 (F + 4) 67 [some (vR 8), some (vI x1), some (vI x2), some (vI x3)] [] (LW W z f) = xnG call 12 F 71 [some (vR 8), some (vI x1), some (vI x2), some (vI x3)] [vI x3, vI 6, vR 9] (LW W z f) := rfl
set_option maxRecDepth 100000 in
theorem bn_12_23 (call : QC FA) (x : Int32) (s0 : Int32) (ls : List (Option PV)) (L : QH FA) (F : Nat) : xnG call 12 (F + 1) 71 ls [vI x, vI s0, vR 9] L = bif pcmp 0 x 0 then xnG call 12 F 76 ls [vI s0, vR 9] L else xnG call 12 F 72 ls [vI s0, vR 9] L := rfl
set_option maxRecDepth 100000 in
theorem bn_12_24 (call : QC FA) (x1 : Int32) (x2 : Int32) (x3 : Int32) (s0 : Int32) (L : QH FA) (F : Nat) : xnG call 12 (F + 1) 76 [some (vR 8), some (vI x1), some (vI x2), some (vI x3)] [vI s0, vR 9] L = xnG call 12 F 77 [some (vR 8), some (vI x1), some (vI x2), some (vI x3)] [vI 0, vI s0, vR 9] L := rfl
set_option maxRecDepth 100000 in
theorem bn_12_25 (call : QC FA) (x y : Int32) (ls : List (Option PV)) (z : Nat → Int32) (f : Nat → FA) (F : Nat) : xnG call 12 (F + 1) 77 ls [vI y, vI x, vR 9] (LW W z f) = bif (Nat.beq 0 0 && pin x 10) then xnG call 12 F 78 ls [] (LW W z (uA f 9 (upd (f 9) (ix x) y))) else none := rfl
set_option maxRecDepth 100000 in
theorem bn_12_26 (call : QC FA) (x1 : Int32) (x2 : Int32) (x3 : Int32) (z : Nat → Int32) (f : Nat → FA) (F : Nat) : xnG call 12 (F + 4) 78 [some (vR 8), some (vI x1), some (vI x2), some (vI x3)] [] (LW W z f) = xnG call 12 F 82 [some (vR 8), some (vI x1), some (vI x2), some (vI x3)] [vI x3, vI 7, vR 9] (LW W z f) := rfl
set_option maxRecDepth 100000 in
theorem bn_12_27 (call : QC FA) (x : Int32) (s0 : Int32) (ls : List (Option PV)) (L : QH FA) (F : Nat) : xnG call 12 (F + 1) 82 ls [vI x, vI s0, vR 9] L = bif pcmp 0 x 0 then xnG call 12 F 88 ls [vI s0, vR 9] L else xnG call 12 F 83 ls [vI s0, vR 9] L := rfl
set_option maxRecDepth 100000 in
theorem bn_12_28 (call : QC FA) (x1 : Int32) (x2 : Int32) (x3 : Int32) (s0 : Int32) (L : QH FA) (F : Nat) : xnG call 12 (F + 1) 88 [some (vR 8), some (vI x1), some (vI x2), some (vI x3)] [vI s0, vR 9] L = xnG call 12 F 89 [some (vR 8), some (vI x1), some (vI x2), some (vI x3)] [vI 0, vI s0, vR 9] L := rfl
set_option maxRecDepth 100000 in
theorem bn_12_29 (call : QC FA) (x y : Int32) (ls : List (Option PV)) (z : Nat → Int32) (f : Nat → FA) (F : Nat) : xnG call 12 (F + 1) 89 ls [vI y, vI x, vR 9] (LW W z f) = bif (Nat.beq 0 0 && pin x 10) then xnG call 12 F 90 ls [] (LW W z (uA f 9 (upd (f 9) (ix x) y))) else none := rfl
set_option maxRecDepth 100000 in
theorem bn_12_30 (call : QC FA) (x1 : Int32) (x2 : Int32) (x3 : Int32) (z : Nat → Int32) (f : Nat → FA) (F : Nat) : xnG call 12 (F + 7) 90 [some (vR 8), some (vI x1), some (vI x2), some (vI x3)] [] (LW W z f) = xnG call 12 F 97 [some (vR 8), some (vI x1), some (vI x2), some (vI x3)] [vI 5, vI x1, vR 2, vI 8, vR 9] (LW W z f) := rfl
set_option maxRecDepth 100000 in
theorem bn_12_31 (call : QC FA) (a0 : Int32) (a1 : Int32) (s0 : Int32) (ls : List (Option PV)) (z : Nat → Int32) (f : Nat → FA) (F : Nat) : xnG call 12 (F + 1) 97 ls [vI a1, vI a0, vR 2, vI s0, vR 9] (LW W z f) = cbd (call 13 [vR 2, vI a0, vI a1] (LW W z f)) (fun r L' => xnG call 12 F 98 ls (r.toList ++ [vI s0, vR 9]) L') := pcY (ih := xnG call 12 F) (call := call) (a := 13) (b := 2) (v := 0) (t := 98) (x := 2) (ls := ls) (As := [vI a0, vI a1]) (st' := [vI s0, vR 9]) (L := LW W z f) rfl rfl rfl
set_option maxRecDepth 100000 in
theorem bn_12_32 (call : QC FA) (x y : Int32) (ls : List (Option PV)) (z : Nat → Int32) (f : Nat → FA) (F : Nat) : xnG call 12 (F + 1) 98 ls [vI y, vI x, vR 9] (LW W z f) = bif (Nat.beq 0 0 && pin x 10) then xnG call 12 F 99 ls [] (LW W z (uA f 9 (upd (f 9) (ix x) y))) else none := rfl
set_option maxRecDepth 100000 in
theorem bn_12_33 (call : QC FA) (x1 : Int32) (x2 : Int32) (x3 : Int32) (z : Nat → Int32) (f : Nat → FA) (F : Nat) : xnG call 12 (F + 6) 99 [some (vR 8), some (vI x1), some (vI x2), some (vI x3)] [] (LW W z f) = xnG call 12 F 105 [some (vR 8), some (vI x1), some (vI x2), some (vI x3)] [vI (z 25), vI 9, vR 9] (LW W z f) := rfl
set_option maxRecDepth 100000 in
theorem bn_12_34 (call : QC FA) (x y : Int32) (ls : List (Option PV)) (z : Nat → Int32) (f : Nat → FA) (F : Nat) : xnG call 12 (F + 1) 105 ls [vI y, vI x, vR 9] (LW W z f) = bif (Nat.beq 0 0 && pin x 10) then xnG call 12 F 106 ls [] (LW W z (uA f 9 (upd (f 9) (ix x) y))) else none := rfl
set_option maxRecDepth 100000 in
theorem bn_12_35 (call : QC FA) (ls : List (Option PV)) (L : QH FA) (F : Nat) : xnG call 12 (F + 1) 106 ls [] L = some (none, L) := rfl
set_option maxRecDepth 100000 in
theorem bn_12_36 (call : QC FA) (x1 : Int32) (x2 : Int32) (o3 : Option PV) (z : Nat → Int32) (f : Nat → FA) (F : Nat) : xnG call 12 (F + 7) 3 [some (vR 8), some (vI x1), some (vI x2), o3] [] (LW W z f) = xnG call 12 F 11 [some (vR 8), some (vI x1), some (vI x2), some (vI 1)] [vI 1, vI 0, vR 9] (LW W z f) := rfl
set_option maxRecDepth 100000 in
theorem bn_12_37 (call : QC FA) (x1 : Int32) (x2 : Int32) (x3 : Int32) (s0 : Int32) (z : Nat → Int32) (f : Nat → FA) (F : Nat) : xnG call 12 (F + 3) 12 [some (vR 8), some (vI x1), some (vI x2), some (vI x3)] [vI s0, vR 9] (LW W z f) = xnG call 12 F 15 [some (vR 8), some (vI x1), some (vI x2), some (vI x3)] [vI x2, vR 2, vI s0, vR 9] (LW W z f) := rfl
set_option maxRecDepth 100000 in
theorem bn_12_38 (call : QC FA) (a0 : Int32) (s0 : Int32) (ls : List (Option PV)) (z : Nat → Int32) (f : Nat → FA) (F : Nat) : xnG call 12 (F + 1) 15 ls [vI a0, vR 2, vI s0, vR 9] (LW W z f) = cbd (call 7 [vR 2, vI a0] (LW W z f)) (fun r L' => xnG call 12 F 16 ls (r.toList ++ [vI s0, vR 9]) L') := pcY (ih := xnG call 12 F) (call := call) (a := 7) (b := 1) (v := 0) (t := 16) (x := 2) (ls := ls) (As := [vI a0]) (st' := [vI s0, vR 9]) (L := LW W z f) rfl rfl rfl
set_option maxRecDepth 100000 in
theorem bn_12_39 (call : QC FA) (x1 : Int32) (x2 : Int32) (x3 : Int32) (s0 : Int32) (s1 : Int32) (L : QH FA) (F : Nat) : xnG call 12 (F + 1) 16 [some (vR 8), some (vI x1), some (vI x2), some (vI x3)] [vI s0, vI s1, vR 9] L = xnG call 12 F 22 [some (vR 8), some (vI x1), some (vI x2), some (vI x3)] [vI s0, vI s1, vR 9] L := rfl
set_option maxRecDepth 100000 in
theorem bn_12_40 (call : QC FA) (x1 : Int32) (x2 : Int32) (x3 : Int32) (s0 : Int32) (z : Nat → Int32) (f : Nat → FA) (F : Nat) : xnG call 12 (F + 3) 46 [some (vR 8), some (vI x1), some (vI x2), some (vI x3)] [vI s0, vR 9] (LW W z f) = xnG call 12 F 49 [some (vR 8), some (vI x1), some (vI x2), some (vI x3)] [vI x2, vR 2, vI s0, vR 9] (LW W z f) := rfl
set_option maxRecDepth 100000 in
theorem bn_12_41 (call : QC FA) (a0 : Int32) (s0 : Int32) (ls : List (Option PV)) (z : Nat → Int32) (f : Nat → FA) (F : Nat) : xnG call 12 (F + 1) 49 ls [vI a0, vR 2, vI s0, vR 9] (LW W z f) = cbd (call 15 [vR 2, vI a0] (LW W z f)) (fun r L' => xnG call 12 F 50 ls (r.toList ++ [vI s0, vR 9]) L') := pcY (ih := xnG call 12 F) (call := call) (a := 15) (b := 1) (v := 0) (t := 50) (x := 2) (ls := ls) (As := [vI a0]) (st' := [vI s0, vR 9]) (L := LW W z f) rfl rfl rfl
set_option maxRecDepth 100000 in
theorem bn_12_42 (call : QC FA) (x1 : Int32) (x2 : Int32) (x3 : Int32) (s0 : Int32) (s1 : Int32) (L : QH FA) (F : Nat) : xnG call 12 (F + 1) 50 [some (vR 8), some (vI x1), some (vI x2), some (vI x3)] [vI s0, vI s1, vR 9] L = xnG call 12 F 52 [some (vR 8), some (vI x1), some (vI x2), some (vI x3)] [vI s0, vI s1, vR 9] L := rfl
set_option maxRecDepth 100000 in
theorem bn_12_43 (call : QC FA) (x1 : Int32) (x2 : Int32) (x3 : Int32) (s0 : Int32) (L : QH FA) (F : Nat) : xnG call 12 (F + 2) 72 [some (vR 8), some (vI x1), some (vI x2), some (vI x3)] [vI s0, vR 9] L = xnG call 12 F 74 [some (vR 8), some (vI x1), some (vI x2), some (vI x3)] [vI 12, vI x2, vI s0, vR 9] L := rfl
set_option maxRecDepth 100000 in
theorem bn_12_44 (call : QC FA) (x y : Int32) (s0 : Int32) (ls : List (Option PV)) (L : QH FA) (F : Nat) : xnG call 12 (F + 1) 74 ls [vI y, vI x, vI s0, vR 9] L = bif pcmp 1 y 0 then xnG call 12 F 75 ls [vI (x / y), vI s0, vR 9] L else none := rfl
set_option maxRecDepth 100000 in
theorem bn_12_45 (call : QC FA) (x1 : Int32) (x2 : Int32) (x3 : Int32) (s0 : Int32) (s1 : Int32) (L : QH FA) (F : Nat) : xnG call 12 (F + 1) 75 [some (vR 8), some (vI x1), some (vI x2), some (vI x3)] [vI s0, vI s1, vR 9] L = xnG call 12 F 77 [some (vR 8), some (vI x1), some (vI x2), some (vI x3)] [vI s0, vI s1, vR 9] L := rfl
set_option maxRecDepth 100000 in
theorem bn_12_46 (call : QC FA) (x1 : Int32) (x2 : Int32) (x3 : Int32) (s0 : Int32) (z : Nat → Int32) (f : Nat → FA) (F : Nat) : xnG call 12 (F + 3) 83 [some (vR 8), some (vI x1), some (vI x2), some (vI x3)] [vI s0, vR 9] (LW W z f) = xnG call 12 F 86 [some (vR 8), some (vI x1), some (vI x2), some (vI x3)] [vI x2, vR 2, vI s0, vR 9] (LW W z f) := rfl
set_option maxRecDepth 100000 in
theorem bn_12_47 (call : QC FA) (a0 : Int32) (s0 : Int32) (ls : List (Option PV)) (z : Nat → Int32) (f : Nat → FA) (F : Nat) : xnG call 12 (F + 1) 86 ls [vI a0, vR 2, vI s0, vR 9] (LW W z f) = cbd (call 16 [vR 2, vI a0] (LW W z f)) (fun r L' => xnG call 12 F 87 ls (r.toList ++ [vI s0, vR 9]) L') := pcY (ih := xnG call 12 F) (call := call) (a := 16) (b := 1) (v := 0) (t := 87) (x := 2) (ls := ls) (As := [vI a0]) (st' := [vI s0, vR 9]) (L := LW W z f) rfl rfl rfl
set_option maxRecDepth 100000 in
theorem bn_12_48 (call : QC FA) (x1 : Int32) (x2 : Int32) (x3 : Int32) (s0 : Int32) (s1 : Int32) (L : QH FA) (F : Nat) : xnG call 12 (F + 1) 87 [some (vR 8), some (vI x1), some (vI x2), some (vI x3)] [vI s0, vI s1, vR 9] L = xnG call 12 F 89 [some (vR 8), some (vI x1), some (vI x2), some (vI x3)] [vI s0, vI s1, vR 9] L := rfl
theorem vcn_12_0 (call : QC FA) (x1 : Int32) (x2 : Int32) (o3 : Option PV) (z : Nat → Int32) (f : Nat → FA) (res : Option PV × QH FA) (H : ((x2 = (-1) → (∃ (r1 : Int32) (z1 : Nat → Int32) (f1 : Nat → FA), call 13 [vR 2, vI x1, vI 1] (LW W z f) = some (some (vI r1), LW W z1 f1) ∧ (pin 0 10 = true ∧ (∃ (r2 : Int32) (z2 : Nat → Int32) (f2 : Nat → FA), call 13 [vR 2, vI x1, vI 3] (LW W z1 (uA f1 9 (upd (f1 9) (ix 0) r1))) = some (some (vI r2), LW W z2 f2) ∧ (pin 1 10 = true ∧ (∃ (r3 : Int32) (z3 : Nat → Int32) (f3 : Nat → FA), call 13 [vR 2, vI x1, vI 2] (LW W z2 (uA f2 9 (upd (f2 9) (ix 1) r2))) = some (some (vI r3), LW W z3 f3) ∧ (pin 2 10 = true ∧ (pin 3 10 = true ∧ (pin 4 10 = true ∧ (pin 5 10 = true ∧ (pin 6 10 = true ∧ (pin 7 10 = true ∧ (∃ (r4 : Int32) (z4 : Nat → Int32) (f4 : Nat → FA), call 13 [vR 2, vI x1, vI 5] (LW W z3 (uA (uA (uA (uA (uA (uA f3 9 (upd (f3 9) (ix 2) r3)) 9 (upd (upd (f3 9) (ix 2) r3) (ix 3) 0)) 9 (upd (upd (upd (f3 9) (ix 2) r3) (ix 3) 0) (ix 4) (z3 23))) 9 (upd (upd (upd (upd (f3 9) (ix 2) r3) (ix 3) 0) (ix 4) (z3 23)) (ix 5) (z3 24))) 9 (upd (upd (upd (upd (upd (f3 9) (ix 2) r3) (ix 3) 0) (ix 4) (z3 23)) (ix 5) (z3 24)) (ix 6) 0)) 9 (upd (upd (upd (upd (upd (upd (f3 9) (ix 2) r3) (ix 3) 0) (ix 4) (z3 23)) (ix 5) (z3 24)) (ix 6) 0) (ix 7) 0))) = some (some (vI r4), LW W z4 f4) ∧ (pin 8 10 = true ∧ (pin 9 10 = true ∧ res = (none, LW W z4 (uA (uA f4 9 (upd (f4 9) (ix 8) r4)) 9 (upd (upd (f4 9) (ix 8) r4) (ix 9) (z4 25))))))))))))))))))) ∧ (¬ x2 = (-1) → (∃ (r5 : Int32) (z5 : Nat → Int32) (f5 : Nat → FA), call 7 [vR 2, vI x2] (LW W z f) = some (some (vI r5), LW W z5 f5) ∧ (pin 0 10 = true ∧ (∃ (r6 : Int32) (z6 : Nat → Int32) (f6 : Nat → FA), call 13 [vR 2, vI x1, vI 3] (LW W z5 (uA f5 9 (upd (f5 9) (ix 0) r5))) = some (some (vI r6), LW W z6 f6) ∧ (pin 1 10 = true ∧ (∃ (r7 : Int32) (z7 : Nat → Int32) (f7 : Nat → FA), call 13 [vR 2, vI x1, vI 2] (LW W z6 (uA f6 9 (upd (f6 9) (ix 1) r6))) = some (some (vI r7), LW W z7 f7) ∧ (pin 2 10 = true ∧ (∃ (r8 : Int32) (z8 : Nat → Int32) (f8 : Nat → FA), call 15 [vR 2, vI x2] (LW W z7 (uA f7 9 (upd (f7 9) (ix 2) r7))) = some (some (vI r8), LW W z8 f8) ∧ (pin 3 10 = true ∧ (pin 4 10 = true ∧ (pin 5 10 = true ∧ (¬ (12 : Int32) = 0 ∧ (pin 6 10 = true ∧ (∃ (r9 : Int32) (z9 : Nat → Int32) (f9 : Nat → FA), call 16 [vR 2, vI x2] (LW W z8 (uA (uA (uA (uA f8 9 (upd (f8 9) (ix 3) r8)) 9 (upd (upd (f8 9) (ix 3) r8) (ix 4) (z8 23))) 9 (upd (upd (upd (f8 9) (ix 3) r8) (ix 4) (z8 23)) (ix 5) (z8 24))) 9 (upd (upd (upd (upd (f8 9) (ix 3) r8) (ix 4) (z8 23)) (ix 5) (z8 24)) (ix 6) (x2 / 12)))) = some (some (vI r9), LW W z9 f9) ∧ (pin 7 10 = true ∧ (∃ (r10 : Int32) (z10 : Nat → Int32) (f10 : Nat → FA), call 13 [vR 2, vI x1, vI 5] (LW W z9 (uA f9 9 (upd (f9 9) (ix 7) r9))) = some (some (vI r10), LW W z10 f10) ∧ (pin 8 10 = true ∧ (pin 9 10 = true ∧ res = (none, LW W z10 (uA (uA f10 9 (upd (f10 9) (ix 8) r10)) 9 (upd (upd (f10 9) (ix 8) r10) (ix 9) (z10 25)))))))))))))))))))))))) : XC call (mP 12) 0 [some (vR 8), some (vI x1), some (vI x2), o3] [] (LW W z f) res := by
  refine xc_b (i' := 2) (ls' := [some (vR 8), some (vI x1), some (vI x2), o3]) (st' := [vI ((-1)), vI x2]) (L' := LW W z f) 2 (bn_12_1 call x1 x2 o3 _) ?_
  refine xc_if (it := 5) (ie := 3) (ls' := [some (vR 8), some (vI x1), some (vI x2), o3]) (st' := []) (bn_12_2 call x2 ((-1)) _ _) (fun q1 => ?_) (fun q1 => ?_)
  · have H := H.1 (cI0t q1)
    refine xc_b (i' := 11) (ls' := [some (vR 8), some (vI x1), some (vI x2), some (vI 0)]) (st' := [vI 0, vI 0, vR 9]) (L' := LW W z f) 6 (bn_12_3 call x1 x2 o3 z f) ?_
    refine xc_t (it := 17) (ie := 12) (ls' := [some (vR 8), some (vI x1), some (vI x2), some (vI 0)]) (st' := [vI 0, vR 9]) (bn_12_4 call 0 0 _ _) (by decide) ?_
    refine xc_b (i' := 21) (ls' := [some (vR 8), some (vI x1), some (vI x2), some (vI 0)]) (st' := [vI 1, vI x1, vR 2, vI 0, vR 9]) (L' := LW W z f) 4 (bn_12_5 call x1 x2 0 0 z f) ?_
    obtain ⟨r1, z1, f1, hc, H⟩ := H
    refine xc_call (t := 22) (ls' := [some (vR 8), some (vI x1), some (vI x2), some (vI 0)]) (st' := [vI 0, vR 9]) (bn_12_6 call x1 1 0 _ z f) hc ?_
    show XC call (mP 12) 22 [some (vR 8), some (vI x1), some (vI x2), some (vI 0)] [vI r1, vI 0, vR 9] (LW W z1 f1) res
    obtain ⟨g1, H⟩ := H
    refine xc_g (i' := 23) (ls' := [some (vR 8), some (vI x1), some (vI x2), some (vI 0)]) (st' := []) (L' := LW W z1 (uA f1 9 (upd (f1 9) (ix 0) r1))) (bn_12_7 call 0 r1 _ z1 f1) (pinG g1) ?_
    refine xc_b (i' := 30) (ls' := [some (vR 8), some (vI x1), some (vI x2), some (vI 0)]) (st' := [vI 3, vI x1, vR 2, vI 1, vR 9]) (L' := LW W z1 (uA f1 9 (upd (f1 9) (ix 0) r1))) 7 (bn_12_8 call x1 x2 0 z1 (uA f1 9 (upd (f1 9) (ix 0) r1))) ?_
    obtain ⟨r2, z2, f2, hc, H⟩ := H
    refine xc_call (t := 31) (ls' := [some (vR 8), some (vI x1), some (vI x2), some (vI 0)]) (st' := [vI 1, vR 9]) (bn_12_9 call x1 3 1 _ z1 (uA f1 9 (upd (f1 9) (ix 0) r1))) hc ?_
    show XC call (mP 12) 31 [some (vR 8), some (vI x1), some (vI x2), some (vI 0)] [vI r2, vI 1, vR 9] (LW W z2 f2) res
    obtain ⟨g1, H⟩ := H
    refine xc_g (i' := 32) (ls' := [some (vR 8), some (vI x1), some (vI x2), some (vI 0)]) (st' := []) (L' := LW W z2 (uA f2 9 (upd (f2 9) (ix 1) r2))) (bn_12_10 call 1 r2 _ z2 f2) (pinG g1) ?_
    refine xc_b (i' := 39) (ls' := [some (vR 8), some (vI x1), some (vI x2), some (vI 0)]) (st' := [vI 2, vI x1, vR 2, vI 2, vR 9]) (L' := LW W z2 (uA f2 9 (upd (f2 9) (ix 1) r2))) 7 (bn_12_11 call x1 x2 0 z2 (uA f2 9 (upd (f2 9) (ix 1) r2))) ?_
    obtain ⟨r3, z3, f3, hc, H⟩ := H
    refine xc_call (t := 40) (ls' := [some (vR 8), some (vI x1), some (vI x2), some (vI 0)]) (st' := [vI 2, vR 9]) (bn_12_12 call x1 2 2 _ z2 (uA f2 9 (upd (f2 9) (ix 1) r2))) hc ?_
    show XC call (mP 12) 40 [some (vR 8), some (vI x1), some (vI x2), some (vI 0)] [vI r3, vI 2, vR 9] (LW W z3 f3) res
    obtain ⟨g1, H⟩ := H
    refine xc_g (i' := 41) (ls' := [some (vR 8), some (vI x1), some (vI x2), some (vI 0)]) (st' := []) (L' := LW W z3 (uA f3 9 (upd (f3 9) (ix 2) r3))) (bn_12_13 call 2 r3 _ z3 f3) (pinG g1) ?_
    refine xc_b (i' := 45) (ls' := [some (vR 8), some (vI x1), some (vI x2), some (vI 0)]) (st' := [vI 0, vI 3, vR 9]) (L' := LW W z3 (uA f3 9 (upd (f3 9) (ix 2) r3))) 4 (bn_12_14 call x1 x2 0 z3 (uA f3 9 (upd (f3 9) (ix 2) r3))) ?_
    refine xc_t (it := 51) (ie := 46) (ls' := [some (vR 8), some (vI x1), some (vI x2), some (vI 0)]) (st' := [vI 3, vR 9]) (bn_12_15 call 0 3 _ _) (by decide) ?_
    refine xc_b (i' := 52) (ls' := [some (vR 8), some (vI x1), some (vI x2), some (vI 0)]) (st' := [vI 0, vI 3, vR 9]) (L' := LW W z3 (uA f3 9 (upd (f3 9) (ix 2) r3))) 1 (bn_12_16 call x1 x2 0 3 _) ?_
    obtain ⟨g1, H⟩ := H
    refine xc_g (i' := 53) (ls' := [some (vR 8), some (vI x1), some (vI x2), some (vI 0)]) (st' := []) (L' := LW W z3 (uA (uA f3 9 (upd (f3 9) (ix 2) r3)) 9 (upd (upd (f3 9) (ix 2) r3) (ix 3) 0))) (bn_12_17 call 3 0 _ z3 (uA f3 9 (upd (f3 9) (ix 2) r3))) (pinG g1) ?_
    refine xc_b (i' := 59) (ls' := [some (vR 8), some (vI x1), some (vI x2), some (vI 0)]) (st' := [vI (z3 23), vI 4, vR 9]) (L' := LW W z3 (uA (uA f3 9 (upd (f3 9) (ix 2) r3)) 9 (upd (upd (f3 9) (ix 2) r3) (ix 3) 0))) 6 (bn_12_18 call x1 x2 0 z3 (uA (uA f3 9 (upd (f3 9) (ix 2) r3)) 9 (upd (upd (f3 9) (ix 2) r3) (ix 3) 0))) ?_
    obtain ⟨g1, H⟩ := H
    refine xc_g (i' := 60) (ls' := [some (vR 8), some (vI x1), some (vI x2), some (vI 0)]) (st' := []) (L' := LW W z3 (uA (uA (uA f3 9 (upd (f3 9) (ix 2) r3)) 9 (upd (upd (f3 9) (ix 2) r3) (ix 3) 0)) 9 (upd (upd (upd (f3 9) (ix 2) r3) (ix 3) 0) (ix 4) (z3 23)))) (bn_12_19 call 4 (z3 23) _ z3 (uA (uA f3 9 (upd (f3 9) (ix 2) r3)) 9 (upd (upd (f3 9) (ix 2) r3) (ix 3) 0))) (pinG g1) ?_
    refine xc_b (i' := 66) (ls' := [some (vR 8), some (vI x1), some (vI x2), some (vI 0)]) (st' := [vI (z3 24), vI 5, vR 9]) (L' := LW W z3 (uA (uA (uA f3 9 (upd (f3 9) (ix 2) r3)) 9 (upd (upd (f3 9) (ix 2) r3) (ix 3) 0)) 9 (upd (upd (upd (f3 9) (ix 2) r3) (ix 3) 0) (ix 4) (z3 23)))) 6 (bn_12_20 call x1 x2 0 z3 (uA (uA (uA f3 9 (upd (f3 9) (ix 2) r3)) 9 (upd (upd (f3 9) (ix 2) r3) (ix 3) 0)) 9 (upd (upd (upd (f3 9) (ix 2) r3) (ix 3) 0) (ix 4) (z3 23)))) ?_
    obtain ⟨g1, H⟩ := H
    refine xc_g (i' := 67) (ls' := [some (vR 8), some (vI x1), some (vI x2), some (vI 0)]) (st' := []) (L' := LW W z3 (uA (uA (uA (uA f3 9 (upd (f3 9) (ix 2) r3)) 9 (upd (upd (f3 9) (ix 2) r3) (ix 3) 0)) 9 (upd (upd (upd (f3 9) (ix 2) r3) (ix 3) 0) (ix 4) (z3 23))) 9 (upd (upd (upd (upd (f3 9) (ix 2) r3) (ix 3) 0) (ix 4) (z3 23)) (ix 5) (z3 24)))) (bn_12_21 call 5 (z3 24) _ z3 (uA (uA (uA f3 9 (upd (f3 9) (ix 2) r3)) 9 (upd (upd (f3 9) (ix 2) r3) (ix 3) 0)) 9 (upd (upd (upd (f3 9) (ix 2) r3) (ix 3) 0) (ix 4) (z3 23)))) (pinG g1) ?_
    refine xc_b (i' := 71) (ls' := [some (vR 8), some (vI x1), some (vI x2), some (vI 0)]) (st' := [vI 0, vI 6, vR 9]) (L' := LW W z3 (uA (uA (uA (uA f3 9 (upd (f3 9) (ix 2) r3)) 9 (upd (upd (f3 9) (ix 2) r3) (ix 3) 0)) 9 (upd (upd (upd (f3 9) (ix 2) r3) (ix 3) 0) (ix 4) (z3 23))) 9 (upd (upd (upd (upd (f3 9) (ix 2) r3) (ix 3) 0) (ix 4) (z3 23)) (ix 5) (z3 24)))) 4 (bn_12_22 call x1 x2 0 z3 (uA (uA (uA (uA f3 9 (upd (f3 9) (ix 2) r3)) 9 (upd (upd (f3 9) (ix 2) r3) (ix 3) 0)) 9 (upd (upd (upd (f3 9) (ix 2) r3) (ix 3) 0) (ix 4) (z3 23))) 9 (upd (upd (upd (upd (f3 9) (ix 2) r3) (ix 3) 0) (ix 4) (z3 23)) (ix 5) (z3 24)))) ?_
    refine xc_t (it := 76) (ie := 72) (ls' := [some (vR 8), some (vI x1), some (vI x2), some (vI 0)]) (st' := [vI 6, vR 9]) (bn_12_23 call 0 6 _ _) (by decide) ?_
    refine xc_b (i' := 77) (ls' := [some (vR 8), some (vI x1), some (vI x2), some (vI 0)]) (st' := [vI 0, vI 6, vR 9]) (L' := LW W z3 (uA (uA (uA (uA f3 9 (upd (f3 9) (ix 2) r3)) 9 (upd (upd (f3 9) (ix 2) r3) (ix 3) 0)) 9 (upd (upd (upd (f3 9) (ix 2) r3) (ix 3) 0) (ix 4) (z3 23))) 9 (upd (upd (upd (upd (f3 9) (ix 2) r3) (ix 3) 0) (ix 4) (z3 23)) (ix 5) (z3 24)))) 1 (bn_12_24 call x1 x2 0 6 _) ?_
    obtain ⟨g1, H⟩ := H
    refine xc_g (i' := 78) (ls' := [some (vR 8), some (vI x1), some (vI x2), some (vI 0)]) (st' := []) (L' := LW W z3 (uA (uA (uA (uA (uA f3 9 (upd (f3 9) (ix 2) r3)) 9 (upd (upd (f3 9) (ix 2) r3) (ix 3) 0)) 9 (upd (upd (upd (f3 9) (ix 2) r3) (ix 3) 0) (ix 4) (z3 23))) 9 (upd (upd (upd (upd (f3 9) (ix 2) r3) (ix 3) 0) (ix 4) (z3 23)) (ix 5) (z3 24))) 9 (upd (upd (upd (upd (upd (f3 9) (ix 2) r3) (ix 3) 0) (ix 4) (z3 23)) (ix 5) (z3 24)) (ix 6) 0))) (bn_12_25 call 6 0 _ z3 (uA (uA (uA (uA f3 9 (upd (f3 9) (ix 2) r3)) 9 (upd (upd (f3 9) (ix 2) r3) (ix 3) 0)) 9 (upd (upd (upd (f3 9) (ix 2) r3) (ix 3) 0) (ix 4) (z3 23))) 9 (upd (upd (upd (upd (f3 9) (ix 2) r3) (ix 3) 0) (ix 4) (z3 23)) (ix 5) (z3 24)))) (pinG g1) ?_
    refine xc_b (i' := 82) (ls' := [some (vR 8), some (vI x1), some (vI x2), some (vI 0)]) (st' := [vI 0, vI 7, vR 9]) (L' := LW W z3 (uA (uA (uA (uA (uA f3 9 (upd (f3 9) (ix 2) r3)) 9 (upd (upd (f3 9) (ix 2) r3) (ix 3) 0)) 9 (upd (upd (upd (f3 9) (ix 2) r3) (ix 3) 0) (ix 4) (z3 23))) 9 (upd (upd (upd (upd (f3 9) (ix 2) r3) (ix 3) 0) (ix 4) (z3 23)) (ix 5) (z3 24))) 9 (upd (upd (upd (upd (upd (f3 9) (ix 2) r3) (ix 3) 0) (ix 4) (z3 23)) (ix 5) (z3 24)) (ix 6) 0))) 4 (bn_12_26 call x1 x2 0 z3 (uA (uA (uA (uA (uA f3 9 (upd (f3 9) (ix 2) r3)) 9 (upd (upd (f3 9) (ix 2) r3) (ix 3) 0)) 9 (upd (upd (upd (f3 9) (ix 2) r3) (ix 3) 0) (ix 4) (z3 23))) 9 (upd (upd (upd (upd (f3 9) (ix 2) r3) (ix 3) 0) (ix 4) (z3 23)) (ix 5) (z3 24))) 9 (upd (upd (upd (upd (upd (f3 9) (ix 2) r3) (ix 3) 0) (ix 4) (z3 23)) (ix 5) (z3 24)) (ix 6) 0))) ?_
    refine xc_t (it := 88) (ie := 83) (ls' := [some (vR 8), some (vI x1), some (vI x2), some (vI 0)]) (st' := [vI 7, vR 9]) (bn_12_27 call 0 7 _ _) (by decide) ?_
    refine xc_b (i' := 89) (ls' := [some (vR 8), some (vI x1), some (vI x2), some (vI 0)]) (st' := [vI 0, vI 7, vR 9]) (L' := LW W z3 (uA (uA (uA (uA (uA f3 9 (upd (f3 9) (ix 2) r3)) 9 (upd (upd (f3 9) (ix 2) r3) (ix 3) 0)) 9 (upd (upd (upd (f3 9) (ix 2) r3) (ix 3) 0) (ix 4) (z3 23))) 9 (upd (upd (upd (upd (f3 9) (ix 2) r3) (ix 3) 0) (ix 4) (z3 23)) (ix 5) (z3 24))) 9 (upd (upd (upd (upd (upd (f3 9) (ix 2) r3) (ix 3) 0) (ix 4) (z3 23)) (ix 5) (z3 24)) (ix 6) 0))) 1 (bn_12_28 call x1 x2 0 7 _) ?_
    obtain ⟨g1, H⟩ := H
    refine xc_g (i' := 90) (ls' := [some (vR 8), some (vI x1), some (vI x2), some (vI 0)]) (st' := []) (L' := LW W z3 (uA (uA (uA (uA (uA (uA f3 9 (upd (f3 9) (ix 2) r3)) 9 (upd (upd (f3 9) (ix 2) r3) (ix 3) 0)) 9 (upd (upd (upd (f3 9) (ix 2) r3) (ix 3) 0) (ix 4) (z3 23))) 9 (upd (upd (upd (upd (f3 9) (ix 2) r3) (ix 3) 0) (ix 4) (z3 23)) (ix 5) (z3 24))) 9 (upd (upd (upd (upd (upd (f3 9) (ix 2) r3) (ix 3) 0) (ix 4) (z3 23)) (ix 5) (z3 24)) (ix 6) 0)) 9 (upd (upd (upd (upd (upd (upd (f3 9) (ix 2) r3) (ix 3) 0) (ix 4) (z3 23)) (ix 5) (z3 24)) (ix 6) 0) (ix 7) 0))) (bn_12_29 call 7 0 _ z3 (uA (uA (uA (uA (uA f3 9 (upd (f3 9) (ix 2) r3)) 9 (upd (upd (f3 9) (ix 2) r3) (ix 3) 0)) 9 (upd (upd (upd (f3 9) (ix 2) r3) (ix 3) 0) (ix 4) (z3 23))) 9 (upd (upd (upd (upd (f3 9) (ix 2) r3) (ix 3) 0) (ix 4) (z3 23)) (ix 5) (z3 24))) 9 (upd (upd (upd (upd (upd (f3 9) (ix 2) r3) (ix 3) 0) (ix 4) (z3 23)) (ix 5) (z3 24)) (ix 6) 0))) (pinG g1) ?_
    refine xc_b (i' := 97) (ls' := [some (vR 8), some (vI x1), some (vI x2), some (vI 0)]) (st' := [vI 5, vI x1, vR 2, vI 8, vR 9]) (L' := LW W z3 (uA (uA (uA (uA (uA (uA f3 9 (upd (f3 9) (ix 2) r3)) 9 (upd (upd (f3 9) (ix 2) r3) (ix 3) 0)) 9 (upd (upd (upd (f3 9) (ix 2) r3) (ix 3) 0) (ix 4) (z3 23))) 9 (upd (upd (upd (upd (f3 9) (ix 2) r3) (ix 3) 0) (ix 4) (z3 23)) (ix 5) (z3 24))) 9 (upd (upd (upd (upd (upd (f3 9) (ix 2) r3) (ix 3) 0) (ix 4) (z3 23)) (ix 5) (z3 24)) (ix 6) 0)) 9 (upd (upd (upd (upd (upd (upd (f3 9) (ix 2) r3) (ix 3) 0) (ix 4) (z3 23)) (ix 5) (z3 24)) (ix 6) 0) (ix 7) 0))) 7 (bn_12_30 call x1 x2 0 z3 (uA (uA (uA (uA (uA (uA f3 9 (upd (f3 9) (ix 2) r3)) 9 (upd (upd (f3 9) (ix 2) r3) (ix 3) 0)) 9 (upd (upd (upd (f3 9) (ix 2) r3) (ix 3) 0) (ix 4) (z3 23))) 9 (upd (upd (upd (upd (f3 9) (ix 2) r3) (ix 3) 0) (ix 4) (z3 23)) (ix 5) (z3 24))) 9 (upd (upd (upd (upd (upd (f3 9) (ix 2) r3) (ix 3) 0) (ix 4) (z3 23)) (ix 5) (z3 24)) (ix 6) 0)) 9 (upd (upd (upd (upd (upd (upd (f3 9) (ix 2) r3) (ix 3) 0) (ix 4) (z3 23)) (ix 5) (z3 24)) (ix 6) 0) (ix 7) 0))) ?_
    obtain ⟨r4, z4, f4, hc, H⟩ := H
    refine xc_call (t := 98) (ls' := [some (vR 8), some (vI x1), some (vI x2), some (vI 0)]) (st' := [vI 8, vR 9]) (bn_12_31 call x1 5 8 _ z3 (uA (uA (uA (uA (uA (uA f3 9 (upd (f3 9) (ix 2) r3)) 9 (upd (upd (f3 9) (ix 2) r3) (ix 3) 0)) 9 (upd (upd (upd (f3 9) (ix 2) r3) (ix 3) 0) (ix 4) (z3 23))) 9 (upd (upd (upd (upd (f3 9) (ix 2) r3) (ix 3) 0) (ix 4) (z3 23)) (ix 5) (z3 24))) 9 (upd (upd (upd (upd (upd (f3 9) (ix 2) r3) (ix 3) 0) (ix 4) (z3 23)) (ix 5) (z3 24)) (ix 6) 0)) 9 (upd (upd (upd (upd (upd (upd (f3 9) (ix 2) r3) (ix 3) 0) (ix 4) (z3 23)) (ix 5) (z3 24)) (ix 6) 0) (ix 7) 0))) hc ?_
    show XC call (mP 12) 98 [some (vR 8), some (vI x1), some (vI x2), some (vI 0)] [vI r4, vI 8, vR 9] (LW W z4 f4) res
    obtain ⟨g1, H⟩ := H
    refine xc_g (i' := 99) (ls' := [some (vR 8), some (vI x1), some (vI x2), some (vI 0)]) (st' := []) (L' := LW W z4 (uA f4 9 (upd (f4 9) (ix 8) r4))) (bn_12_32 call 8 r4 _ z4 f4) (pinG g1) ?_
    refine xc_b (i' := 105) (ls' := [some (vR 8), some (vI x1), some (vI x2), some (vI 0)]) (st' := [vI (z4 25), vI 9, vR 9]) (L' := LW W z4 (uA f4 9 (upd (f4 9) (ix 8) r4))) 6 (bn_12_33 call x1 x2 0 z4 (uA f4 9 (upd (f4 9) (ix 8) r4))) ?_
    obtain ⟨g1, H⟩ := H
    refine xc_g (i' := 106) (ls' := [some (vR 8), some (vI x1), some (vI x2), some (vI 0)]) (st' := []) (L' := LW W z4 (uA (uA f4 9 (upd (f4 9) (ix 8) r4)) 9 (upd (upd (f4 9) (ix 8) r4) (ix 9) (z4 25)))) (bn_12_34 call 9 (z4 25) _ z4 (uA f4 9 (upd (f4 9) (ix 8) r4))) (pinG g1) ?_
    subst H
    exact xc_ret (bn_12_35 call _ _)
  · have H := H.2 (cI0f q1)
    refine xc_b (i' := 11) (ls' := [some (vR 8), some (vI x1), some (vI x2), some (vI 1)]) (st' := [vI 1, vI 0, vR 9]) (L' := LW W z f) 7 (bn_12_36 call x1 x2 o3 z f) ?_
    refine xc_f (it := 17) (ie := 12) (ls' := [some (vR 8), some (vI x1), some (vI x2), some (vI 1)]) (st' := [vI 0, vR 9]) (bn_12_4 call 1 0 _ _) (by decide) ?_
    refine xc_b (i' := 15) (ls' := [some (vR 8), some (vI x1), some (vI x2), some (vI 1)]) (st' := [vI x2, vR 2, vI 0, vR 9]) (L' := LW W z f) 3 (bn_12_37 call x1 x2 1 0 z f) ?_
    obtain ⟨r5, z5, f5, hc, H⟩ := H
    refine xc_call (t := 16) (ls' := [some (vR 8), some (vI x1), some (vI x2), some (vI 1)]) (st' := [vI 0, vR 9]) (bn_12_38 call x2 0 _ z f) hc ?_
    show XC call (mP 12) 16 [some (vR 8), some (vI x1), some (vI x2), some (vI 1)] [vI r5, vI 0, vR 9] (LW W z5 f5) res
    refine xc_b (i' := 22) (ls' := [some (vR 8), some (vI x1), some (vI x2), some (vI 1)]) (st' := [vI r5, vI 0, vR 9]) (L' := LW W z5 f5) 1 (bn_12_39 call x1 x2 1 r5 0 _) ?_
    obtain ⟨g1, H⟩ := H
    refine xc_g (i' := 23) (ls' := [some (vR 8), some (vI x1), some (vI x2), some (vI 1)]) (st' := []) (L' := LW W z5 (uA f5 9 (upd (f5 9) (ix 0) r5))) (bn_12_7 call 0 r5 _ z5 f5) (pinG g1) ?_
    refine xc_b (i' := 30) (ls' := [some (vR 8), some (vI x1), some (vI x2), some (vI 1)]) (st' := [vI 3, vI x1, vR 2, vI 1, vR 9]) (L' := LW W z5 (uA f5 9 (upd (f5 9) (ix 0) r5))) 7 (bn_12_8 call x1 x2 1 z5 (uA f5 9 (upd (f5 9) (ix 0) r5))) ?_
    obtain ⟨r6, z6, f6, hc, H⟩ := H
    refine xc_call (t := 31) (ls' := [some (vR 8), some (vI x1), some (vI x2), some (vI 1)]) (st' := [vI 1, vR 9]) (bn_12_9 call x1 3 1 _ z5 (uA f5 9 (upd (f5 9) (ix 0) r5))) hc ?_
    show XC call (mP 12) 31 [some (vR 8), some (vI x1), some (vI x2), some (vI 1)] [vI r6, vI 1, vR 9] (LW W z6 f6) res
    obtain ⟨g1, H⟩ := H
    refine xc_g (i' := 32) (ls' := [some (vR 8), some (vI x1), some (vI x2), some (vI 1)]) (st' := []) (L' := LW W z6 (uA f6 9 (upd (f6 9) (ix 1) r6))) (bn_12_10 call 1 r6 _ z6 f6) (pinG g1) ?_
    refine xc_b (i' := 39) (ls' := [some (vR 8), some (vI x1), some (vI x2), some (vI 1)]) (st' := [vI 2, vI x1, vR 2, vI 2, vR 9]) (L' := LW W z6 (uA f6 9 (upd (f6 9) (ix 1) r6))) 7 (bn_12_11 call x1 x2 1 z6 (uA f6 9 (upd (f6 9) (ix 1) r6))) ?_
    obtain ⟨r7, z7, f7, hc, H⟩ := H
    refine xc_call (t := 40) (ls' := [some (vR 8), some (vI x1), some (vI x2), some (vI 1)]) (st' := [vI 2, vR 9]) (bn_12_12 call x1 2 2 _ z6 (uA f6 9 (upd (f6 9) (ix 1) r6))) hc ?_
    show XC call (mP 12) 40 [some (vR 8), some (vI x1), some (vI x2), some (vI 1)] [vI r7, vI 2, vR 9] (LW W z7 f7) res
    obtain ⟨g1, H⟩ := H
    refine xc_g (i' := 41) (ls' := [some (vR 8), some (vI x1), some (vI x2), some (vI 1)]) (st' := []) (L' := LW W z7 (uA f7 9 (upd (f7 9) (ix 2) r7))) (bn_12_13 call 2 r7 _ z7 f7) (pinG g1) ?_
    refine xc_b (i' := 45) (ls' := [some (vR 8), some (vI x1), some (vI x2), some (vI 1)]) (st' := [vI 1, vI 3, vR 9]) (L' := LW W z7 (uA f7 9 (upd (f7 9) (ix 2) r7))) 4 (bn_12_14 call x1 x2 1 z7 (uA f7 9 (upd (f7 9) (ix 2) r7))) ?_
    refine xc_f (it := 51) (ie := 46) (ls' := [some (vR 8), some (vI x1), some (vI x2), some (vI 1)]) (st' := [vI 3, vR 9]) (bn_12_15 call 1 3 _ _) (by decide) ?_
    refine xc_b (i' := 49) (ls' := [some (vR 8), some (vI x1), some (vI x2), some (vI 1)]) (st' := [vI x2, vR 2, vI 3, vR 9]) (L' := LW W z7 (uA f7 9 (upd (f7 9) (ix 2) r7))) 3 (bn_12_40 call x1 x2 1 3 z7 (uA f7 9 (upd (f7 9) (ix 2) r7))) ?_
    obtain ⟨r8, z8, f8, hc, H⟩ := H
    refine xc_call (t := 50) (ls' := [some (vR 8), some (vI x1), some (vI x2), some (vI 1)]) (st' := [vI 3, vR 9]) (bn_12_41 call x2 3 _ z7 (uA f7 9 (upd (f7 9) (ix 2) r7))) hc ?_
    show XC call (mP 12) 50 [some (vR 8), some (vI x1), some (vI x2), some (vI 1)] [vI r8, vI 3, vR 9] (LW W z8 f8) res
    refine xc_b (i' := 52) (ls' := [some (vR 8), some (vI x1), some (vI x2), some (vI 1)]) (st' := [vI r8, vI 3, vR 9]) (L' := LW W z8 f8) 1 (bn_12_42 call x1 x2 1 r8 3 _) ?_
    obtain ⟨g1, H⟩ := H
    refine xc_g (i' := 53) (ls' := [some (vR 8), some (vI x1), some (vI x2), some (vI 1)]) (st' := []) (L' := LW W z8 (uA f8 9 (upd (f8 9) (ix 3) r8))) (bn_12_17 call 3 r8 _ z8 f8) (pinG g1) ?_
    refine xc_b (i' := 59) (ls' := [some (vR 8), some (vI x1), some (vI x2), some (vI 1)]) (st' := [vI (z8 23), vI 4, vR 9]) (L' := LW W z8 (uA f8 9 (upd (f8 9) (ix 3) r8))) 6 (bn_12_18 call x1 x2 1 z8 (uA f8 9 (upd (f8 9) (ix 3) r8))) ?_
    obtain ⟨g1, H⟩ := H
    refine xc_g (i' := 60) (ls' := [some (vR 8), some (vI x1), some (vI x2), some (vI 1)]) (st' := []) (L' := LW W z8 (uA (uA f8 9 (upd (f8 9) (ix 3) r8)) 9 (upd (upd (f8 9) (ix 3) r8) (ix 4) (z8 23)))) (bn_12_19 call 4 (z8 23) _ z8 (uA f8 9 (upd (f8 9) (ix 3) r8))) (pinG g1) ?_
    refine xc_b (i' := 66) (ls' := [some (vR 8), some (vI x1), some (vI x2), some (vI 1)]) (st' := [vI (z8 24), vI 5, vR 9]) (L' := LW W z8 (uA (uA f8 9 (upd (f8 9) (ix 3) r8)) 9 (upd (upd (f8 9) (ix 3) r8) (ix 4) (z8 23)))) 6 (bn_12_20 call x1 x2 1 z8 (uA (uA f8 9 (upd (f8 9) (ix 3) r8)) 9 (upd (upd (f8 9) (ix 3) r8) (ix 4) (z8 23)))) ?_
    obtain ⟨g1, H⟩ := H
    refine xc_g (i' := 67) (ls' := [some (vR 8), some (vI x1), some (vI x2), some (vI 1)]) (st' := []) (L' := LW W z8 (uA (uA (uA f8 9 (upd (f8 9) (ix 3) r8)) 9 (upd (upd (f8 9) (ix 3) r8) (ix 4) (z8 23))) 9 (upd (upd (upd (f8 9) (ix 3) r8) (ix 4) (z8 23)) (ix 5) (z8 24)))) (bn_12_21 call 5 (z8 24) _ z8 (uA (uA f8 9 (upd (f8 9) (ix 3) r8)) 9 (upd (upd (f8 9) (ix 3) r8) (ix 4) (z8 23)))) (pinG g1) ?_
    refine xc_b (i' := 71) (ls' := [some (vR 8), some (vI x1), some (vI x2), some (vI 1)]) (st' := [vI 1, vI 6, vR 9]) (L' := LW W z8 (uA (uA (uA f8 9 (upd (f8 9) (ix 3) r8)) 9 (upd (upd (f8 9) (ix 3) r8) (ix 4) (z8 23))) 9 (upd (upd (upd (f8 9) (ix 3) r8) (ix 4) (z8 23)) (ix 5) (z8 24)))) 4 (bn_12_22 call x1 x2 1 z8 (uA (uA (uA f8 9 (upd (f8 9) (ix 3) r8)) 9 (upd (upd (f8 9) (ix 3) r8) (ix 4) (z8 23))) 9 (upd (upd (upd (f8 9) (ix 3) r8) (ix 4) (z8 23)) (ix 5) (z8 24)))) ?_
    refine xc_f (it := 76) (ie := 72) (ls' := [some (vR 8), some (vI x1), some (vI x2), some (vI 1)]) (st' := [vI 6, vR 9]) (bn_12_23 call 1 6 _ _) (by decide) ?_
    refine xc_b (i' := 74) (ls' := [some (vR 8), some (vI x1), some (vI x2), some (vI 1)]) (st' := [vI 12, vI x2, vI 6, vR 9]) (L' := LW W z8 (uA (uA (uA f8 9 (upd (f8 9) (ix 3) r8)) 9 (upd (upd (f8 9) (ix 3) r8) (ix 4) (z8 23))) 9 (upd (upd (upd (f8 9) (ix 3) r8) (ix 4) (z8 23)) (ix 5) (z8 24)))) 2 (bn_12_43 call x1 x2 1 6 _) ?_
    obtain ⟨g1, H⟩ := H
    refine xc_g (i' := 75) (ls' := [some (vR 8), some (vI x1), some (vI x2), some (vI 1)]) (st' := [vI (x2 / 12), vI 6, vR 9]) (L' := LW W z8 (uA (uA (uA f8 9 (upd (f8 9) (ix 3) r8)) 9 (upd (upd (f8 9) (ix 3) r8) (ix 4) (z8 23))) 9 (upd (upd (upd (f8 9) (ix 3) r8) (ix 4) (z8 23)) (ix 5) (z8 24)))) (bn_12_44 call x2 12 6 _ _) (cmp_ne.trans (decide_eq_true g1)) ?_
    refine xc_b (i' := 77) (ls' := [some (vR 8), some (vI x1), some (vI x2), some (vI 1)]) (st' := [vI (x2 / 12), vI 6, vR 9]) (L' := LW W z8 (uA (uA (uA f8 9 (upd (f8 9) (ix 3) r8)) 9 (upd (upd (f8 9) (ix 3) r8) (ix 4) (z8 23))) 9 (upd (upd (upd (f8 9) (ix 3) r8) (ix 4) (z8 23)) (ix 5) (z8 24)))) 1 (bn_12_45 call x1 x2 1 (x2 / 12) 6 _) ?_
    obtain ⟨g1, H⟩ := H
    refine xc_g (i' := 78) (ls' := [some (vR 8), some (vI x1), some (vI x2), some (vI 1)]) (st' := []) (L' := LW W z8 (uA (uA (uA (uA f8 9 (upd (f8 9) (ix 3) r8)) 9 (upd (upd (f8 9) (ix 3) r8) (ix 4) (z8 23))) 9 (upd (upd (upd (f8 9) (ix 3) r8) (ix 4) (z8 23)) (ix 5) (z8 24))) 9 (upd (upd (upd (upd (f8 9) (ix 3) r8) (ix 4) (z8 23)) (ix 5) (z8 24)) (ix 6) (x2 / 12)))) (bn_12_25 call 6 (x2 / 12) _ z8 (uA (uA (uA f8 9 (upd (f8 9) (ix 3) r8)) 9 (upd (upd (f8 9) (ix 3) r8) (ix 4) (z8 23))) 9 (upd (upd (upd (f8 9) (ix 3) r8) (ix 4) (z8 23)) (ix 5) (z8 24)))) (pinG g1) ?_
    refine xc_b (i' := 82) (ls' := [some (vR 8), some (vI x1), some (vI x2), some (vI 1)]) (st' := [vI 1, vI 7, vR 9]) (L' := LW W z8 (uA (uA (uA (uA f8 9 (upd (f8 9) (ix 3) r8)) 9 (upd (upd (f8 9) (ix 3) r8) (ix 4) (z8 23))) 9 (upd (upd (upd (f8 9) (ix 3) r8) (ix 4) (z8 23)) (ix 5) (z8 24))) 9 (upd (upd (upd (upd (f8 9) (ix 3) r8) (ix 4) (z8 23)) (ix 5) (z8 24)) (ix 6) (x2 / 12)))) 4 (bn_12_26 call x1 x2 1 z8 (uA (uA (uA (uA f8 9 (upd (f8 9) (ix 3) r8)) 9 (upd (upd (f8 9) (ix 3) r8) (ix 4) (z8 23))) 9 (upd (upd (upd (f8 9) (ix 3) r8) (ix 4) (z8 23)) (ix 5) (z8 24))) 9 (upd (upd (upd (upd (f8 9) (ix 3) r8) (ix 4) (z8 23)) (ix 5) (z8 24)) (ix 6) (x2 / 12)))) ?_
    refine xc_f (it := 88) (ie := 83) (ls' := [some (vR 8), some (vI x1), some (vI x2), some (vI 1)]) (st' := [vI 7, vR 9]) (bn_12_27 call 1 7 _ _) (by decide) ?_
    refine xc_b (i' := 86) (ls' := [some (vR 8), some (vI x1), some (vI x2), some (vI 1)]) (st' := [vI x2, vR 2, vI 7, vR 9]) (L' := LW W z8 (uA (uA (uA (uA f8 9 (upd (f8 9) (ix 3) r8)) 9 (upd (upd (f8 9) (ix 3) r8) (ix 4) (z8 23))) 9 (upd (upd (upd (f8 9) (ix 3) r8) (ix 4) (z8 23)) (ix 5) (z8 24))) 9 (upd (upd (upd (upd (f8 9) (ix 3) r8) (ix 4) (z8 23)) (ix 5) (z8 24)) (ix 6) (x2 / 12)))) 3 (bn_12_46 call x1 x2 1 7 z8 (uA (uA (uA (uA f8 9 (upd (f8 9) (ix 3) r8)) 9 (upd (upd (f8 9) (ix 3) r8) (ix 4) (z8 23))) 9 (upd (upd (upd (f8 9) (ix 3) r8) (ix 4) (z8 23)) (ix 5) (z8 24))) 9 (upd (upd (upd (upd (f8 9) (ix 3) r8) (ix 4) (z8 23)) (ix 5) (z8 24)) (ix 6) (x2 / 12)))) ?_
    obtain ⟨r9, z9, f9, hc, H⟩ := H
    refine xc_call (t := 87) (ls' := [some (vR 8), some (vI x1), some (vI x2), some (vI 1)]) (st' := [vI 7, vR 9]) (bn_12_47 call x2 7 _ z8 (uA (uA (uA (uA f8 9 (upd (f8 9) (ix 3) r8)) 9 (upd (upd (f8 9) (ix 3) r8) (ix 4) (z8 23))) 9 (upd (upd (upd (f8 9) (ix 3) r8) (ix 4) (z8 23)) (ix 5) (z8 24))) 9 (upd (upd (upd (upd (f8 9) (ix 3) r8) (ix 4) (z8 23)) (ix 5) (z8 24)) (ix 6) (x2 / 12)))) hc ?_
    show XC call (mP 12) 87 [some (vR 8), some (vI x1), some (vI x2), some (vI 1)] [vI r9, vI 7, vR 9] (LW W z9 f9) res
    refine xc_b (i' := 89) (ls' := [some (vR 8), some (vI x1), some (vI x2), some (vI 1)]) (st' := [vI r9, vI 7, vR 9]) (L' := LW W z9 f9) 1 (bn_12_48 call x1 x2 1 r9 7 _) ?_
    obtain ⟨g1, H⟩ := H
    refine xc_g (i' := 90) (ls' := [some (vR 8), some (vI x1), some (vI x2), some (vI 1)]) (st' := []) (L' := LW W z9 (uA f9 9 (upd (f9 9) (ix 7) r9))) (bn_12_29 call 7 r9 _ z9 f9) (pinG g1) ?_
    refine xc_b (i' := 97) (ls' := [some (vR 8), some (vI x1), some (vI x2), some (vI 1)]) (st' := [vI 5, vI x1, vR 2, vI 8, vR 9]) (L' := LW W z9 (uA f9 9 (upd (f9 9) (ix 7) r9))) 7 (bn_12_30 call x1 x2 1 z9 (uA f9 9 (upd (f9 9) (ix 7) r9))) ?_
    obtain ⟨r10, z10, f10, hc, H⟩ := H
    refine xc_call (t := 98) (ls' := [some (vR 8), some (vI x1), some (vI x2), some (vI 1)]) (st' := [vI 8, vR 9]) (bn_12_31 call x1 5 8 _ z9 (uA f9 9 (upd (f9 9) (ix 7) r9))) hc ?_
    show XC call (mP 12) 98 [some (vR 8), some (vI x1), some (vI x2), some (vI 1)] [vI r10, vI 8, vR 9] (LW W z10 f10) res
    obtain ⟨g1, H⟩ := H
    refine xc_g (i' := 99) (ls' := [some (vR 8), some (vI x1), some (vI x2), some (vI 1)]) (st' := []) (L' := LW W z10 (uA f10 9 (upd (f10 9) (ix 8) r10))) (bn_12_32 call 8 r10 _ z10 f10) (pinG g1) ?_
    refine xc_b (i' := 105) (ls' := [some (vR 8), some (vI x1), some (vI x2), some (vI 1)]) (st' := [vI (z10 25), vI 9, vR 9]) (L' := LW W z10 (uA f10 9 (upd (f10 9) (ix 8) r10))) 6 (bn_12_33 call x1 x2 1 z10 (uA f10 9 (upd (f10 9) (ix 8) r10))) ?_
    obtain ⟨g1, H⟩ := H
    refine xc_g (i' := 106) (ls' := [some (vR 8), some (vI x1), some (vI x2), some (vI 1)]) (st' := []) (L' := LW W z10 (uA (uA f10 9 (upd (f10 9) (ix 8) r10)) 9 (upd (upd (f10 9) (ix 8) r10) (ix 9) (z10 25)))) (bn_12_34 call 9 (z10 25) _ z10 (uA f10 9 (upd (f10 9) (ix 8) r10))) (pinG g1) ?_
    subst H
    exact xc_ret (bn_12_35 call _ _)
set_option maxRecDepth 100000 in
theorem bn_92_1 (call : QC FA) (x1 : Int32) (o2 : Option PV) (L : QH FA) (F : Nat) : xnG call 92 (F + 3) 0 [some (vR 8), some (vI x1), o2] [] L = xnG call 92 F 3 [some (vR 8), some (vI x1), o2] [vI ((-1)), vI x1, vR 8] L := rfl
set_option maxRecDepth 100000 in
theorem bn_92_2 (call : QC FA) (a0 : Int32) (a1 : Int32) (ls : List (Option PV)) (z : Nat → Int32) (f : Nat → FA) (F : Nat) : xnG call 92 (F + 1) 3 ls [vI a1, vI a0, vR 8] (LW W z f) = cbd (call 12 [vR 8, vI a0, vI a1] (LW W z f)) (fun r L' => xnG call 92 F 4 ls (r.toList ++ []) L') := pcY (ih := xnG call 92 F) (call := call) (a := 12) (b := 2) (v := 1) (t := 4) (x := 8) (ls := ls) (As := [vI a0, vI a1]) (st' := []) (L := LW W z f) rfl rfl rfl
set_option maxRecDepth 100000 in
theorem bn_92_3 (call : QC FA) (x1 : Int32) (o2 : Option PV) (z : Nat → Int32) (f : Nat → FA) (F : Nat) : xnG call 92 (F + 6) 4 [some (vR 8), some (vI x1), o2] [] (LW W z f) = xnG call 92 F 10 [some (vR 8), some (vI x1), o2] [vI 3, vI x1, vR 2, vI 50, vI 500] (LW W z f) := rfl
set_option maxRecDepth 100000 in
theorem bn_92_4 (call : QC FA) (a0 : Int32) (a1 : Int32) (s0 : Int32) (s1 : Int32) (ls : List (Option PV)) (z : Nat → Int32) (f : Nat → FA) (F : Nat) : xnG call 92 (F + 1) 10 ls [vI a1, vI a0, vR 2, vI s0, vI s1] (LW W z f) = cbd (call 13 [vR 2, vI a0, vI a1] (LW W z f)) (fun r L' => xnG call 92 F 11 ls (r.toList ++ [vI s0, vI s1]) L') := pcY (ih := xnG call 92 F) (call := call) (a := 13) (b := 2) (v := 0) (t := 11) (x := 2) (ls := ls) (As := [vI a0, vI a1]) (st' := [vI s0, vI s1]) (L := LW W z f) rfl rfl rfl
set_option maxRecDepth 100000 in
theorem bn_92_5 (call : QC FA) (x1 : Int32) (o2 : Option PV) (s0 : Int32) (s1 : Int32) (s2 : Int32) (z : Nat → Int32) (f : Nat → FA) (F : Nat) : xnG call 92 (F + 6) 11 [some (vR 8), some (vI x1), o2] [vI s0, vI s1, vI s2] (LW W z f) = xnG call 92 F 17 [some (vR 8), some (vI x1), some (vI (s2 + (s1 * s0)))] [vI 0, vR 7] (LW W z f) := rfl
set_option maxRecDepth 100000 in
theorem bn_92_6 (hW : WTX W) (call : QC FA) (hk : 0 < 4) (hp : pin 0 4 = true) (hc : ix 0 = 0) (ls : List (Option PV)) (z : Nat → Int32) (f : Nat → FA) (F : Nat) : xnG call 92 (F + 1) 17 ls [vI 0, vR 7] (LW W z f) = xnG call 92 F 18 ls [vR (wJ W 0 + 42)] (LW W z f) := gx_t (ih := xnG call 92 F) (t := 18) (st := []) hW hk hc hp
set_option maxRecDepth 100000 in
theorem bn_92_7 (call : QC FA) (x1 : Int32) (x2 : Int32) (z : Nat → Int32) (f : Nat → FA) (F : Nat) : xnG call 92 (F + 6) 18 [some (vR 8), some (vI x1), some (vI x2)] [vR (wJ W 0 + 42)] (LW W z f) = xnG call 92 F 24 [some (vR 8), some (vI x1), some (vI x2)] [vR 10, vR 9, vI x2, vI 300, vR (wJ W 0 + 42)] (LW W z f) := rfl
set_option maxRecDepth 100000 in
theorem bn_92_8 (hW : WTX W) (hk : 0 < 4) (call : QC FA) (a0 : Int32) (a1 : Int32) (ls : List (Option PV)) (z : Nat → Int32) (f : Nat → FA) (F : Nat) : xnG call 92 (F + 1) 24 ls [vR 10, vR 9, vI a1, vI a0, vR (wJ W 0 + 42)] (LW W z f) = cbd (call 17 [vR (wJ W 0 + 42), vI a0, vI a1, vR 9, vR 10] (LW W z f)) (fun r L' => xnG call 92 F 25 ls (r.toList ++ []) L') := pcY (ih := xnG call 92 F) (call := call) (a := 17) (b := 4) (v := 8) (t := 25) (x := wJ W 0 + 42) (ls := ls) (As := [vI a0, vI a1, vR 9, vR 10]) (st' := []) (L := LW W z f) rfl (gj_t hW hk) rfl
set_option maxRecDepth 100000 in
theorem bn_92_9 (call : QC FA) (x1 : Int32) (x2 : Int32) (s0 : Int32) (L : QH FA) (F : Nat) : xnG call 92 (F + 1) 25 [some (vR 8), some (vI x1), some (vI x2)] [vI s0] L = xnG call 92 F 26 [some (vR 8), some (vI x1), some (vI x2)] [vI 1000, vI s0] L := rfl
set_option maxRecDepth 100000 in
theorem bn_92_10 (call : QC FA) (a0 : Int32) (a1 : Int32) (ls : List (Option PV)) (z : Nat → Int32) (f : Nat → FA) (F : Nat) : xnG call 92 (F + 1) 26 ls [vI a1, vI a0] (LW W z f) = cbd (call 22 [vI a0, vI a1] (LW W z f)) (fun r L' => xnG call 92 F 27 ls (r.toList ++ []) L') := pcZ (ih := xnG call 92 F) (call := call) (a := 22) (b := 2) (t := 27) (ls := ls) (As := [vI a0, vI a1]) (st' := []) (L := LW W z f) rfl rfl
set_option maxRecDepth 100000 in
theorem bn_92_11 (call : QC FA) (x : Int32) (ls : List (Option PV)) (L : QH FA) (F : Nat) : xnG call 92 (F + 1) 27 ls [vI x] L = some (some (vI x), L) := rfl
theorem vcn_92_0 (hW : WTX W) (call : QC FA) (x1 : Int32) (o2 : Option PV) (z : Nat → Int32) (f : Nat → FA) (res : Option PV × QH FA) (H : (∃ (z1 : Nat → Int32) (f1 : Nat → FA), call 12 [vR 8, vI x1, vI ((-1))] (LW W z f) = some (none, LW W z1 f1) ∧ (∃ (r2 : Int32) (z2 : Nat → Int32) (f2 : Nat → FA), call 13 [vR 2, vI x1, vI 3] (LW W z1 f1) = some (some (vI r2), LW W z2 f2) ∧ (∃ (r3 : Int32) (z3 : Nat → Int32) (f3 : Nat → FA), call 17 [vR (wJ W 0 + 42), vI 300, vI (500 + (50 * r2)), vR 9, vR 10] (LW W z2 f2) = some (some (vI r3), LW W z3 f3) ∧ (∃ (r4 : Int32) (z4 : Nat → Int32) (f4 : Nat → FA), call 22 [vI r3, vI 1000] (LW W z3 f3) = some (some (vI r4), LW W z4 f4) ∧ res = (some (vI r4), LW W z4 f4)))))) : XC call (mP 92) 0 [some (vR 8), some (vI x1), o2] [] (LW W z f) res := by
  refine xc_b (i' := 3) (ls' := [some (vR 8), some (vI x1), o2]) (st' := [vI ((-1)), vI x1, vR 8]) (L' := LW W z f) 3 (bn_92_1 call x1 o2 _) ?_
  obtain ⟨z1, f1, hc, H⟩ := H
  refine xc_call (t := 4) (ls' := [some (vR 8), some (vI x1), o2]) (st' := []) (bn_92_2 call x1 ((-1)) _ z f) hc ?_
  show XC call (mP 92) 4 [some (vR 8), some (vI x1), o2] [] (LW W z1 f1) res
  refine xc_b (i' := 10) (ls' := [some (vR 8), some (vI x1), o2]) (st' := [vI 3, vI x1, vR 2, vI 50, vI 500]) (L' := LW W z1 f1) 6 (bn_92_3 call x1 o2 z1 f1) ?_
  obtain ⟨r2, z2, f2, hc, H⟩ := H
  refine xc_call (t := 11) (ls' := [some (vR 8), some (vI x1), o2]) (st' := [vI 50, vI 500]) (bn_92_4 call x1 3 50 500 _ z1 f1) hc ?_
  show XC call (mP 92) 11 [some (vR 8), some (vI x1), o2] [vI r2, vI 50, vI 500] (LW W z2 f2) res
  refine xc_b (i' := 17) (ls' := [some (vR 8), some (vI x1), some (vI (500 + (50 * r2)))]) (st' := [vI 0, vR 7]) (L' := LW W z2 f2) 6 (bn_92_5 call x1 o2 r2 50 500 z2 f2) ?_
  refine xc_b (i' := 18) (ls' := [some (vR 8), some (vI x1), some (vI (500 + (50 * r2)))]) (st' := [vR (wJ W 0 + 42)]) (L' := LW W z2 f2) 1 (bn_92_6 hW call (by decide) (by decide) (by decide) _ z2 f2) ?_
  refine xc_b (i' := 24) (ls' := [some (vR 8), some (vI x1), some (vI (500 + (50 * r2)))]) (st' := [vR 10, vR 9, vI (500 + (50 * r2)), vI 300, vR (wJ W 0 + 42)]) (L' := LW W z2 f2) 6 (bn_92_7 call x1 (500 + (50 * r2)) z2 f2) ?_
  obtain ⟨r3, z3, f3, hc, H⟩ := H
  refine xc_call (t := 25) (ls' := [some (vR 8), some (vI x1), some (vI (500 + (50 * r2)))]) (st' := []) (bn_92_8 hW (by decide) call 300 (500 + (50 * r2)) _ z2 f2) hc ?_
  show XC call (mP 92) 25 [some (vR 8), some (vI x1), some (vI (500 + (50 * r2)))] [vI r3] (LW W z3 f3) res
  refine xc_b (i' := 26) (ls' := [some (vR 8), some (vI x1), some (vI (500 + (50 * r2)))]) (st' := [vI 1000, vI r3]) (L' := LW W z3 f3) 1 (bn_92_9 call x1 (500 + (50 * r2)) r3 _) ?_
  obtain ⟨r4, z4, f4, hc, H⟩ := H
  refine xc_call (t := 27) (ls' := [some (vR 8), some (vI x1), some (vI (500 + (50 * r2)))]) (st' := []) (bn_92_10 call r3 1000 _ z3 f3) hc ?_
  show XC call (mP 92) 27 [some (vR 8), some (vI x1), some (vI (500 + (50 * r2)))] [vI r4] (LW W z4 f4) res
  subst H
  exact xc_ret (bn_92_11 call _ _ _)
set_option maxRecDepth 100000 in
theorem bn_96_1 (call : QC FA) (x1 : Int32) (o2 : Option PV) (z : Nat → Int32) (f : Nat → FA) (F : Nat) : xnG call 96 (F + 4) 0 [some (vR 8), some (vI x1), o2] [] (LW W z f) = xnG call 96 F 4 [some (vR 8), some (vI x1), o2] [vI x1, vR 2, vR 8] (LW W z f) := rfl
set_option maxRecDepth 100000 in
theorem bn_96_2 (call : QC FA) (a0 : Int32) (ls : List (Option PV)) (z : Nat → Int32) (f : Nat → FA) (F : Nat) : xnG call 96 (F + 1) 4 ls [vI a0, vR 2, vR 8] (LW W z f) = cbd (call 11 [vR 2, vI a0] (LW W z f)) (fun r L' => xnG call 96 F 5 ls (r.toList ++ [vR 8]) L') := pcY (ih := xnG call 96 F) (call := call) (a := 11) (b := 1) (v := 0) (t := 5) (x := 2) (ls := ls) (As := [vI a0]) (st' := [vR 8]) (L := LW W z f) rfl rfl rfl
set_option maxRecDepth 100000 in
theorem bn_96_3 (call : QC FA) (x1 : Int32) (o2 : Option PV) (s0 : Int32) (L : QH FA) (F : Nat) : xnG call 96 (F + 1) 5 [some (vR 8), some (vI x1), o2] [vI s0, vR 8] L = xnG call 96 F 6 [some (vR 8), some (vI x1), o2] [vI x1, vI s0, vR 8] L := rfl
set_option maxRecDepth 100000 in
theorem bn_96_4 (call : QC FA) (a0 : Int32) (a1 : Int32) (ls : List (Option PV)) (z : Nat → Int32) (f : Nat → FA) (F : Nat) : xnG call 96 (F + 1) 6 ls [vI a1, vI a0, vR 8] (LW W z f) = cbd (call 12 [vR 8, vI a0, vI a1] (LW W z f)) (fun r L' => xnG call 96 F 7 ls (r.toList ++ []) L') := pcY (ih := xnG call 96 F) (call := call) (a := 12) (b := 2) (v := 1) (t := 7) (x := 8) (ls := ls) (As := [vI a0, vI a1]) (st' := []) (L := LW W z f) rfl rfl rfl
set_option maxRecDepth 100000 in
theorem bn_96_5 (call : QC FA) (x1 : Int32) (o2 : Option PV) (z : Nat → Int32) (f : Nat → FA) (F : Nat) : xnG call 96 (F + 9) 7 [some (vR 8), some (vI x1), o2] [] (LW W z f) = xnG call 96 F 16 [some (vR 8), some (vI x1), o2] [vI x1, vR 2, vI 50, vI (100 * (z 23))] (LW W z f) := rfl
set_option maxRecDepth 100000 in
theorem bn_96_6 (call : QC FA) (a0 : Int32) (s0 : Int32) (s1 : Int32) (ls : List (Option PV)) (z : Nat → Int32) (f : Nat → FA) (F : Nat) : xnG call 96 (F + 1) 16 ls [vI a0, vR 2, vI s0, vI s1] (LW W z f) = cbd (call 15 [vR 2, vI a0] (LW W z f)) (fun r L' => xnG call 96 F 17 ls (r.toList ++ [vI s0, vI s1]) L') := pcY (ih := xnG call 96 F) (call := call) (a := 15) (b := 1) (v := 0) (t := 17) (x := 2) (ls := ls) (As := [vI a0]) (st' := [vI s0, vI s1]) (L := LW W z f) rfl rfl rfl
set_option maxRecDepth 100000 in
theorem bn_96_7 (call : QC FA) (x1 : Int32) (o2 : Option PV) (s0 : Int32) (s1 : Int32) (s2 : Int32) (z : Nat → Int32) (f : Nat → FA) (F : Nat) : xnG call 96 (F + 6) 17 [some (vR 8), some (vI x1), o2] [vI s0, vI s1, vI s2] (LW W z f) = xnG call 96 F 23 [some (vR 8), some (vI x1), some (vI (s2 - (s1 * s0)))] [vI 0, vR 7] (LW W z f) := rfl
set_option maxRecDepth 100000 in
theorem bn_96_8 (hW : WTX W) (call : QC FA) (hk : 0 < 4) (hp : pin 0 4 = true) (hc : ix 0 = 0) (ls : List (Option PV)) (z : Nat → Int32) (f : Nat → FA) (F : Nat) : xnG call 96 (F + 1) 23 ls [vI 0, vR 7] (LW W z f) = xnG call 96 F 24 ls [vR (wJ W 0 + 42)] (LW W z f) := gx_t (ih := xnG call 96 F) (t := 24) (st := []) hW hk hc hp
set_option maxRecDepth 100000 in
theorem bn_96_9 (call : QC FA) (x1 : Int32) (x2 : Int32) (z : Nat → Int32) (f : Nat → FA) (F : Nat) : xnG call 96 (F + 6) 24 [some (vR 8), some (vI x1), some (vI x2)] [vR (wJ W 0 + 42)] (LW W z f) = xnG call 96 F 30 [some (vR 8), some (vI x1), some (vI x2)] [vR 10, vR 9, vI x2, vI 301, vR (wJ W 0 + 42)] (LW W z f) := rfl
set_option maxRecDepth 100000 in
theorem bn_96_10 (hW : WTX W) (hk : 0 < 4) (call : QC FA) (a0 : Int32) (a1 : Int32) (ls : List (Option PV)) (z : Nat → Int32) (f : Nat → FA) (F : Nat) : xnG call 96 (F + 1) 30 ls [vR 10, vR 9, vI a1, vI a0, vR (wJ W 0 + 42)] (LW W z f) = cbd (call 17 [vR (wJ W 0 + 42), vI a0, vI a1, vR 9, vR 10] (LW W z f)) (fun r L' => xnG call 96 F 31 ls (r.toList ++ []) L') := pcY (ih := xnG call 96 F) (call := call) (a := 17) (b := 4) (v := 8) (t := 31) (x := wJ W 0 + 42) (ls := ls) (As := [vI a0, vI a1, vR 9, vR 10]) (st' := []) (L := LW W z f) rfl (gj_t hW hk) rfl
set_option maxRecDepth 100000 in
theorem bn_96_11 (call : QC FA) (x1 : Int32) (x2 : Int32) (s0 : Int32) (L : QH FA) (F : Nat) : xnG call 96 (F + 1) 31 [some (vR 8), some (vI x1), some (vI x2)] [vI s0] L = xnG call 96 F 32 [some (vR 8), some (vI x1), some (vI x2)] [vI 1000, vI s0] L := rfl
set_option maxRecDepth 100000 in
theorem bn_96_12 (call : QC FA) (a0 : Int32) (a1 : Int32) (ls : List (Option PV)) (z : Nat → Int32) (f : Nat → FA) (F : Nat) : xnG call 96 (F + 1) 32 ls [vI a1, vI a0] (LW W z f) = cbd (call 22 [vI a0, vI a1] (LW W z f)) (fun r L' => xnG call 96 F 33 ls (r.toList ++ []) L') := pcZ (ih := xnG call 96 F) (call := call) (a := 22) (b := 2) (t := 33) (ls := ls) (As := [vI a0, vI a1]) (st' := []) (L := LW W z f) rfl rfl
set_option maxRecDepth 100000 in
theorem bn_96_13 (call : QC FA) (x : Int32) (ls : List (Option PV)) (L : QH FA) (F : Nat) : xnG call 96 (F + 1) 33 ls [vI x] L = some (some (vI x), L) := rfl
theorem vcn_96_0 (hW : WTX W) (call : QC FA) (x1 : Int32) (o2 : Option PV) (z : Nat → Int32) (f : Nat → FA) (res : Option PV × QH FA) (H : (∃ (r1 : Int32) (z1 : Nat → Int32) (f1 : Nat → FA), call 11 [vR 2, vI x1] (LW W z f) = some (some (vI r1), LW W z1 f1) ∧ (∃ (z2 : Nat → Int32) (f2 : Nat → FA), call 12 [vR 8, vI r1, vI x1] (LW W z1 f1) = some (none, LW W z2 f2) ∧ (∃ (r3 : Int32) (z3 : Nat → Int32) (f3 : Nat → FA), call 15 [vR 2, vI x1] (LW W z2 f2) = some (some (vI r3), LW W z3 f3) ∧ (∃ (r4 : Int32) (z4 : Nat → Int32) (f4 : Nat → FA), call 17 [vR (wJ W 0 + 42), vI 301, vI ((100 * (z2 23)) - (50 * r3)), vR 9, vR 10] (LW W z3 f3) = some (some (vI r4), LW W z4 f4) ∧ (∃ (r5 : Int32) (z5 : Nat → Int32) (f5 : Nat → FA), call 22 [vI r4, vI 1000] (LW W z4 f4) = some (some (vI r5), LW W z5 f5) ∧ res = (some (vI r5), LW W z5 f5))))))) : XC call (mP 96) 0 [some (vR 8), some (vI x1), o2] [] (LW W z f) res := by
  refine xc_b (i' := 4) (ls' := [some (vR 8), some (vI x1), o2]) (st' := [vI x1, vR 2, vR 8]) (L' := LW W z f) 4 (bn_96_1 call x1 o2 z f) ?_
  obtain ⟨r1, z1, f1, hc, H⟩ := H
  refine xc_call (t := 5) (ls' := [some (vR 8), some (vI x1), o2]) (st' := [vR 8]) (bn_96_2 call x1 _ z f) hc ?_
  show XC call (mP 96) 5 [some (vR 8), some (vI x1), o2] [vI r1, vR 8] (LW W z1 f1) res
  refine xc_b (i' := 6) (ls' := [some (vR 8), some (vI x1), o2]) (st' := [vI x1, vI r1, vR 8]) (L' := LW W z1 f1) 1 (bn_96_3 call x1 o2 r1 _) ?_
  obtain ⟨z2, f2, hc, H⟩ := H
  refine xc_call (t := 7) (ls' := [some (vR 8), some (vI x1), o2]) (st' := []) (bn_96_4 call r1 x1 _ z1 f1) hc ?_
  show XC call (mP 96) 7 [some (vR 8), some (vI x1), o2] [] (LW W z2 f2) res
  refine xc_b (i' := 16) (ls' := [some (vR 8), some (vI x1), o2]) (st' := [vI x1, vR 2, vI 50, vI (100 * (z2 23))]) (L' := LW W z2 f2) 9 (bn_96_5 call x1 o2 z2 f2) ?_
  obtain ⟨r3, z3, f3, hc, H⟩ := H
  refine xc_call (t := 17) (ls' := [some (vR 8), some (vI x1), o2]) (st' := [vI 50, vI (100 * (z2 23))]) (bn_96_6 call x1 50 (100 * (z2 23)) _ z2 f2) hc ?_
  show XC call (mP 96) 17 [some (vR 8), some (vI x1), o2] [vI r3, vI 50, vI (100 * (z2 23))] (LW W z3 f3) res
  refine xc_b (i' := 23) (ls' := [some (vR 8), some (vI x1), some (vI ((100 * (z2 23)) - (50 * r3)))]) (st' := [vI 0, vR 7]) (L' := LW W z3 f3) 6 (bn_96_7 call x1 o2 r3 50 (100 * (z2 23)) z3 f3) ?_
  refine xc_b (i' := 24) (ls' := [some (vR 8), some (vI x1), some (vI ((100 * (z2 23)) - (50 * r3)))]) (st' := [vR (wJ W 0 + 42)]) (L' := LW W z3 f3) 1 (bn_96_8 hW call (by decide) (by decide) (by decide) _ z3 f3) ?_
  refine xc_b (i' := 30) (ls' := [some (vR 8), some (vI x1), some (vI ((100 * (z2 23)) - (50 * r3)))]) (st' := [vR 10, vR 9, vI ((100 * (z2 23)) - (50 * r3)), vI 301, vR (wJ W 0 + 42)]) (L' := LW W z3 f3) 6 (bn_96_9 call x1 ((100 * (z2 23)) - (50 * r3)) z3 f3) ?_
  obtain ⟨r4, z4, f4, hc, H⟩ := H
  refine xc_call (t := 31) (ls' := [some (vR 8), some (vI x1), some (vI ((100 * (z2 23)) - (50 * r3)))]) (st' := []) (bn_96_10 hW (by decide) call 301 ((100 * (z2 23)) - (50 * r3)) _ z3 f3) hc ?_
  show XC call (mP 96) 31 [some (vR 8), some (vI x1), some (vI ((100 * (z2 23)) - (50 * r3)))] [vI r4] (LW W z4 f4) res
  refine xc_b (i' := 32) (ls' := [some (vR 8), some (vI x1), some (vI ((100 * (z2 23)) - (50 * r3)))]) (st' := [vI 1000, vI r4]) (L' := LW W z4 f4) 1 (bn_96_11 call x1 ((100 * (z2 23)) - (50 * r3)) r4 _) ?_
  obtain ⟨r5, z5, f5, hc, H⟩ := H
  refine xc_call (t := 33) (ls' := [some (vR 8), some (vI x1), some (vI ((100 * (z2 23)) - (50 * r3)))]) (st' := []) (bn_96_12 call r4 1000 _ z4 f4) hc ?_
  show XC call (mP 96) 33 [some (vR 8), some (vI x1), some (vI ((100 * (z2 23)) - (50 * r3)))] [vI r5] (LW W z5 f5) res
  subst H
  exact xc_ret (bn_96_13 call _ _ _)
set_option maxRecDepth 100000 in
theorem bn_10_1 (call : QC FA) (x1 : Int32) (z : Nat → Int32) (f : Nat → FA) (F : Nat) : xnG call 10 (F + 4) 0 [some (vR 8), some (vI x1)] [] (LW W z f) = xnG call 10 F 4 [some (vR 8), some (vI x1)] [vI x1, vR 2, vR 8] (LW W z f) := rfl
set_option maxRecDepth 100000 in
theorem bn_10_2 (call : QC FA) (a0 : Int32) (ls : List (Option PV)) (z : Nat → Int32) (f : Nat → FA) (F : Nat) : xnG call 10 (F + 1) 4 ls [vI a0, vR 2, vR 8] (LW W z f) = cbd (call 11 [vR 2, vI a0] (LW W z f)) (fun r L' => xnG call 10 F 5 ls (r.toList ++ [vR 8]) L') := pcY (ih := xnG call 10 F) (call := call) (a := 11) (b := 1) (v := 0) (t := 5) (x := 2) (ls := ls) (As := [vI a0]) (st' := [vR 8]) (L := LW W z f) rfl rfl rfl
set_option maxRecDepth 100000 in
theorem bn_10_3 (call : QC FA) (x1 : Int32) (s0 : Int32) (L : QH FA) (F : Nat) : xnG call 10 (F + 1) 5 [some (vR 8), some (vI x1)] [vI s0, vR 8] L = xnG call 10 F 6 [some (vR 8), some (vI x1)] [vI x1, vI s0, vR 8] L := rfl
set_option maxRecDepth 100000 in
theorem bn_10_4 (call : QC FA) (a0 : Int32) (a1 : Int32) (ls : List (Option PV)) (z : Nat → Int32) (f : Nat → FA) (F : Nat) : xnG call 10 (F + 1) 6 ls [vI a1, vI a0, vR 8] (LW W z f) = cbd (call 12 [vR 8, vI a0, vI a1] (LW W z f)) (fun r L' => xnG call 10 F 7 ls (r.toList ++ []) L') := pcY (ih := xnG call 10 F) (call := call) (a := 12) (b := 2) (v := 1) (t := 7) (x := 8) (ls := ls) (As := [vI a0, vI a1]) (st' := []) (L := LW W z f) rfl rfl rfl
set_option maxRecDepth 100000 in
theorem bn_10_5 (call : QC FA) (x1 : Int32) (z : Nat → Int32) (f : Nat → FA) (F : Nat) : xnG call 10 (F + 3) 7 [some (vR 8), some (vI x1)] [] (LW W z f) = xnG call 10 F 10 [some (vR 8), some (vI x1)] [vI 0, vR 7] (LW W z f) := rfl
set_option maxRecDepth 100000 in
theorem bn_10_6 (hW : WTX W) (call : QC FA) (hk : 0 < 4) (hp : pin 0 4 = true) (hc : ix 0 = 0) (ls : List (Option PV)) (z : Nat → Int32) (f : Nat → FA) (F : Nat) : xnG call 10 (F + 1) 10 ls [vI 0, vR 7] (LW W z f) = xnG call 10 F 11 ls [vR (wJ W 0 + 42)] (LW W z f) := gx_t (ih := xnG call 10 F) (t := 11) (st := []) hW hk hc hp
set_option maxRecDepth 100000 in
theorem bn_10_7 (call : QC FA) (x1 : Int32) (z : Nat → Int32) (f : Nat → FA) (F : Nat) : xnG call 10 (F + 4) 11 [some (vR 8), some (vI x1)] [vR (wJ W 0 + 42)] (LW W z f) = xnG call 10 F 15 [some (vR 8), some (vI x1)] [vI x1, vR 2, vI 302, vR (wJ W 0 + 42)] (LW W z f) := rfl
set_option maxRecDepth 100000 in
theorem bn_10_8 (call : QC FA) (a0 : Int32) (s0 : Int32) (ls : List (Option PV)) (z : Nat → Int32) (f : Nat → FA) (F : Nat) : xnG call 10 (F + 1) 15 ls [vI a0, vR 2, vI s0, vR (wJ W 0 + 42)] (LW W z f) = cbd (call 15 [vR 2, vI a0] (LW W z f)) (fun r L' => xnG call 10 F 16 ls (r.toList ++ [vI s0, vR (wJ W 0 + 42)]) L') := pcY (ih := xnG call 10 F) (call := call) (a := 15) (b := 1) (v := 0) (t := 16) (x := 2) (ls := ls) (As := [vI a0]) (st' := [vI s0, vR (wJ W 0 + 42)]) (L := LW W z f) rfl rfl rfl
set_option maxRecDepth 100000 in
theorem bn_10_9 (call : QC FA) (x1 : Int32) (s0 : Int32) (s1 : Int32) (z : Nat → Int32) (f : Nat → FA) (F : Nat) : xnG call 10 (F + 4) 16 [some (vR 8), some (vI x1)] [vI s0, vI s1, vR (wJ W 0 + 42)] (LW W z f) = xnG call 10 F 20 [some (vR 8), some (vI x1)] [vR 10, vR 9, vI s0, vI s1, vR (wJ W 0 + 42)] (LW W z f) := rfl
set_option maxRecDepth 100000 in
theorem bn_10_10 (hW : WTX W) (hk : 0 < 4) (call : QC FA) (a0 : Int32) (a1 : Int32) (ls : List (Option PV)) (z : Nat → Int32) (f : Nat → FA) (F : Nat) : xnG call 10 (F + 1) 20 ls [vR 10, vR 9, vI a1, vI a0, vR (wJ W 0 + 42)] (LW W z f) = cbd (call 17 [vR (wJ W 0 + 42), vI a0, vI a1, vR 9, vR 10] (LW W z f)) (fun r L' => xnG call 10 F 21 ls (r.toList ++ []) L') := pcY (ih := xnG call 10 F) (call := call) (a := 17) (b := 4) (v := 8) (t := 21) (x := wJ W 0 + 42) (ls := ls) (As := [vI a0, vI a1, vR 9, vR 10]) (st' := []) (L := LW W z f) rfl (gj_t hW hk) rfl
set_option maxRecDepth 100000 in
theorem bn_10_11 (call : QC FA) (x1 : Int32) (s0 : Int32) (L : QH FA) (F : Nat) : xnG call 10 (F + 1) 21 [some (vR 8), some (vI x1)] [vI s0] L = xnG call 10 F 22 [some (vR 8), some (vI x1)] [vI 99, vI s0] L := rfl
set_option maxRecDepth 100000 in
theorem bn_10_12 (call : QC FA) (a0 : Int32) (a1 : Int32) (ls : List (Option PV)) (z : Nat → Int32) (f : Nat → FA) (F : Nat) : xnG call 10 (F + 1) 22 ls [vI a1, vI a0] (LW W z f) = cbd (call 22 [vI a0, vI a1] (LW W z f)) (fun r L' => xnG call 10 F 23 ls (r.toList ++ []) L') := pcZ (ih := xnG call 10 F) (call := call) (a := 22) (b := 2) (t := 23) (ls := ls) (As := [vI a0, vI a1]) (st' := []) (L := LW W z f) rfl rfl
set_option maxRecDepth 100000 in
theorem bn_10_13 (call : QC FA) (x : Int32) (ls : List (Option PV)) (L : QH FA) (F : Nat) : xnG call 10 (F + 1) 23 ls [vI x] L = some (some (vI x), L) := rfl
theorem vcn_10_0 (hW : WTX W) (call : QC FA) (x1 : Int32) (z : Nat → Int32) (f : Nat → FA) (res : Option PV × QH FA) (H : (∃ (r1 : Int32) (z1 : Nat → Int32) (f1 : Nat → FA), call 11 [vR 2, vI x1] (LW W z f) = some (some (vI r1), LW W z1 f1) ∧ (∃ (z2 : Nat → Int32) (f2 : Nat → FA), call 12 [vR 8, vI r1, vI x1] (LW W z1 f1) = some (none, LW W z2 f2) ∧ (∃ (r3 : Int32) (z3 : Nat → Int32) (f3 : Nat → FA), call 15 [vR 2, vI x1] (LW W z2 f2) = some (some (vI r3), LW W z3 f3) ∧ (∃ (r4 : Int32) (z4 : Nat → Int32) (f4 : Nat → FA), call 17 [vR (wJ W 0 + 42), vI 302, vI r3, vR 9, vR 10] (LW W z3 f3) = some (some (vI r4), LW W z4 f4) ∧ (∃ (r5 : Int32) (z5 : Nat → Int32) (f5 : Nat → FA), call 22 [vI r4, vI 99] (LW W z4 f4) = some (some (vI r5), LW W z5 f5) ∧ res = (some (vI r5), LW W z5 f5))))))) : XC call (mP 10) 0 [some (vR 8), some (vI x1)] [] (LW W z f) res := by
  refine xc_b (i' := 4) (ls' := [some (vR 8), some (vI x1)]) (st' := [vI x1, vR 2, vR 8]) (L' := LW W z f) 4 (bn_10_1 call x1 z f) ?_
  obtain ⟨r1, z1, f1, hc, H⟩ := H
  refine xc_call (t := 5) (ls' := [some (vR 8), some (vI x1)]) (st' := [vR 8]) (bn_10_2 call x1 _ z f) hc ?_
  show XC call (mP 10) 5 [some (vR 8), some (vI x1)] [vI r1, vR 8] (LW W z1 f1) res
  refine xc_b (i' := 6) (ls' := [some (vR 8), some (vI x1)]) (st' := [vI x1, vI r1, vR 8]) (L' := LW W z1 f1) 1 (bn_10_3 call x1 r1 _) ?_
  obtain ⟨z2, f2, hc, H⟩ := H
  refine xc_call (t := 7) (ls' := [some (vR 8), some (vI x1)]) (st' := []) (bn_10_4 call r1 x1 _ z1 f1) hc ?_
  show XC call (mP 10) 7 [some (vR 8), some (vI x1)] [] (LW W z2 f2) res
  refine xc_b (i' := 10) (ls' := [some (vR 8), some (vI x1)]) (st' := [vI 0, vR 7]) (L' := LW W z2 f2) 3 (bn_10_5 call x1 z2 f2) ?_
  refine xc_b (i' := 11) (ls' := [some (vR 8), some (vI x1)]) (st' := [vR (wJ W 0 + 42)]) (L' := LW W z2 f2) 1 (bn_10_6 hW call (by decide) (by decide) (by decide) _ z2 f2) ?_
  refine xc_b (i' := 15) (ls' := [some (vR 8), some (vI x1)]) (st' := [vI x1, vR 2, vI 302, vR (wJ W 0 + 42)]) (L' := LW W z2 f2) 4 (bn_10_7 call x1 z2 f2) ?_
  obtain ⟨r3, z3, f3, hc, H⟩ := H
  refine xc_call (t := 16) (ls' := [some (vR 8), some (vI x1)]) (st' := [vI 302, vR (wJ W 0 + 42)]) (bn_10_8 call x1 302 _ z2 f2) hc ?_
  show XC call (mP 10) 16 [some (vR 8), some (vI x1)] [vI r3, vI 302, vR (wJ W 0 + 42)] (LW W z3 f3) res
  refine xc_b (i' := 20) (ls' := [some (vR 8), some (vI x1)]) (st' := [vR 10, vR 9, vI r3, vI 302, vR (wJ W 0 + 42)]) (L' := LW W z3 f3) 4 (bn_10_9 call x1 r3 302 z3 f3) ?_
  obtain ⟨r4, z4, f4, hc, H⟩ := H
  refine xc_call (t := 21) (ls' := [some (vR 8), some (vI x1)]) (st' := []) (bn_10_10 hW (by decide) call 302 r3 _ z3 f3) hc ?_
  show XC call (mP 10) 21 [some (vR 8), some (vI x1)] [vI r4] (LW W z4 f4) res
  refine xc_b (i' := 22) (ls' := [some (vR 8), some (vI x1)]) (st' := [vI 99, vI r4]) (L' := LW W z4 f4) 1 (bn_10_11 call x1 r4 _) ?_
  obtain ⟨r5, z5, f5, hc, H⟩ := H
  refine xc_call (t := 23) (ls' := [some (vR 8), some (vI x1)]) (st' := []) (bn_10_12 call r4 99 _ z4 f4) hc ?_
  show XC call (mP 10) 23 [some (vR 8), some (vI x1)] [vI r5] (LW W z5 f5) res
  subst H
  exact xc_ret (bn_10_13 call _ _ _)
theorem wTellsn (hW : WTX W) (hk : kt < 4) {L : LAW} {n : Nat} (hC : LWC W kt L n) (hL : LOK L n) (d : Nat) {w : Nat} (hw : w < 3) (ow : Int32) {z : Nat → Int32} {f : Nat → FA} : ∃ g, xcall (d + 3) 17 [vR (wJ W kt + 42), vI (nI (300 + w)), vI ow, vR 9, vR 10] (LW W z f) = some (some (vI ((lawG L (f 9) w n 0).getD ow)), LW W z (uA f 10 g)) := by
  have vne : (9 : Nat) ≠ 10 := by decide
  obtain ⟨h16, hn, hN, hM, hl⟩ := hC
  have inn : I (wn W kt) = n := by rw [hn]; exact I_nI (by omega)
  have lp : ∀ t i, i + t = n → ∀ G, ∃ g, ∀ o6 o7 o8, XC (xcall (d + 2)) (mP 17) 2 [some (vR (wJ W kt + 42)), some (vI (nI (300 + w))), some (vI ow), some (vR 9), some (vR 10), some (vI (nI i)), o6, o7, o8] [] (LW W z (uA f 10 G)) (some (vI ((lawG L (f 9) w t i).getD ow)), LW W z (uA f 10 g)) := by
    intro t
    induction t with
    | zero =>
      intro i hi G
      obtain rfl : i = n := by omega
      refine ⟨G, fun o6 o7 o8 => vcn_c2_17_2 hW hk _ _ _ _ _ _ _ _ _ _ ⟨fun _ => rfl, fun q => ?_⟩⟩
      rw [inn, I_nI (n := i) (by omega)] at q
      omega
    | succ t ih =>
      intro i hi G
      obtain ⟨a, a0, a1, a2, a3, a4, a5, a6, a7⟩ := hl i (by omega)
      obtain ⟨p1, p2⟩ := hL i (by omega)
      have e1 : nI i + 1 = nI (i + 1) := nI_add i 1
      have ni : ¬ I (wn W kt) ≤ I (nI i) := by rw [inn, I_nI (n := i) (by omega)]; omega
      have num : ∀ (w : Nat) (G : FA), w < 5 → xcall (d + 2) 18 [vR (wJ W kt + 42), vI (nI i), vI (nI w)] (LW W z (uA f 10 G)) = some (some (vI (wg W kt (5 * i + w))), LW W z (uA f 10 G)) := fun w G hw5 => wNum hW hk (d + 1) hn h16 hN (by omega) hw5
      have n0 := num 0 G (by omega)
      have n1 := num 1 G (by omega)
      have n2 := num 2 G (by omega)
      have n3 := num 3 G (by omega)
      rw [show 5 * i + 0 = 5 * i from rfl, a1] at n0
      rw [a2] at n1
      rw [a3] at n2
      rw [a4] at n3
      by_cases cw : (L i).1 = w
      · have runP : ∀ G, ∃ g, xcall (d + 2) 19 [vR (wJ W kt + 42), vI (nI a), vI (nI (a + (L i).2.1.length)), vR 9, vR 10] (LW W z (uA f 10 G)) = some (some (vI (evV (f 9) (L i).2.1)), LW W z (uA f 10 g)) := fun G => by
          obtain ⟨g, k1, k2⟩ := evV_run p1 (f 9) G
          have k3 := wRunn_c hW hk d (z := z) (f := uA f 10 G) (P := (L i).2.1) (i := a) (g' := g) (by omega) hM a6 (by rw [uA_ne vne, uA_self]; exact k1)
          rw [uA_uA, k2] at k3
          exact ⟨g, k3⟩
        by_cases cq : (L i).2.2 = []
        · obtain ⟨g, k1⟩ := runP G
          have hlw : lawG L (f 9) w (t + 1) i = some (evV (f 9) (L i).2.1) := if_pos ⟨cw, Or.inl cq⟩
          rw [hlw]
          refine ⟨g, fun o6 o7 o8 => vcn_c2_17_2 hW hk _ _ _ _ _ _ _ _ _ _ ⟨fun q => absurd q ni, fun _ => ⟨_, _, _, n0, fun q => ?_, fun _ => ⟨_, _, _, n1, _, _, _, n2, _, _, _, n3, fun _ => ⟨_, _, _, k1, rfl⟩, fun q => ?_⟩⟩⟩⟩
          · exact absurd (by rw [cw]) q
          · exact absurd (by rw [cq]; rfl) q
        · have p2' : okP (L i).2.2 := by
            rcases p2 with p2 | p2
            · exact absurd p2 cq
            · exact p2
          have lq : 1 ≤ (L i).2.2.length := by
            cases hQ : (L i).2.2 with
            | nil => exact absurd hQ cq
            | cons x y => exact Nat.succ_le_succ (Nat.zero_le _)
          have runQ : ∃ g, xcall (d + 2) 19 [vR (wJ W kt + 42), vI (nI (a + (L i).2.1.length)), vI (nI (a + (L i).2.1.length + (L i).2.2.length)), vR 9, vR 10] (LW W z (uA f 10 G)) = some (some (vI (evV (f 9) (L i).2.2)), LW W z (uA f 10 g)) := by
            obtain ⟨g, k1, k2⟩ := evV_run p2' (f 9) G
            have k3 := wRunn_c hW hk d (z := z) (f := uA f 10 G) (P := (L i).2.2) (i := a + (L i).2.1.length) (g' := g) (by omega) hM a7 (by rw [uA_ne vne, uA_self]; exact k1)
            rw [uA_uA, k2] at k3
            exact ⟨g, k3⟩
          obtain ⟨gq, kq⟩ := runQ
          have ne34 : ¬ nI (a + (L i).2.1.length) = nI (a + (L i).2.1.length + (L i).2.2.length) := fun q => by
            have := nI_inj (by omega) (by omega) q
            omega
          by_cases cz : evV (f 9) (L i).2.2 = 0
          · have hlw : lawG L (f 9) w (t + 1) i = lawG L (f 9) w t (i + 1) := if_neg (fun q => q.2.elim cq (fun c => c cz))
            rw [hlw]
            obtain ⟨g, k1⟩ := ih (i + 1) (by omega) gq
            refine ⟨g, fun o6 o7 o8 => vcn_c2_17_2 hW hk _ _ _ _ _ _ _ _ _ _ ⟨fun q => absurd q ni, fun _ => ⟨_, _, _, n0, fun q => ?_, fun _ => ⟨_, _, _, n1, _, _, _, n2, _, _, _, n3, fun q => absurd q ne34, fun _ => ⟨_, _, _, kq, fun _ => ?_, fun q => absurd cz q⟩⟩⟩⟩⟩
            · exact absurd (by rw [cw]) q
            · rw [e1]
              exact k1 _ _ _
          · have hlw : lawG L (f 9) w (t + 1) i = some (evV (f 9) (L i).2.1) := if_pos ⟨cw, Or.inr cz⟩
            rw [hlw]
            obtain ⟨g, k1⟩ := runP gq
            refine ⟨g, fun o6 o7 o8 => vcn_c2_17_2 hW hk _ _ _ _ _ _ _ _ _ _ ⟨fun q => absurd q ni, fun _ => ⟨_, _, _, n0, fun q => ?_, fun _ => ⟨_, _, _, n1, _, _, _, n2, _, _, _, n3, fun q => absurd q ne34, fun _ => ⟨_, _, _, kq, fun q => absurd q cz, fun _ => ⟨_, _, _, k1, rfl⟩⟩⟩⟩⟩⟩
            exact absurd (by rw [cw]) q
      · have hlw : lawG L (f 9) w (t + 1) i = lawG L (f 9) w t (i + 1) := if_neg (fun q => cw q.1)
        rw [hlw]
        obtain ⟨g, k1⟩ := ih (i + 1) (by omega) G
        refine ⟨g, fun o6 o7 o8 => vcn_c2_17_2 hW hk _ _ _ _ _ _ _ _ _ _ ⟨fun q => absurd q ni, fun _ => ⟨_, _, _, n0, fun _ => ?_, fun q => ?_⟩⟩⟩
        · rw [e1]
          exact k1 _ _ _
        · have := nI_inj (by omega) (by omega) q
          omega
  obtain ⟨g, k1⟩ := lp n 0 (by omega) (f 10)
  rw [uA_id rfl] at k1
  exact ⟨g, xcall_i (mq17 (cu := [])).2.2 rfl (vcn_17_0 (xcall (d + 2)) (nI (300 + w)) ow none none none none z f _ (k1 none none none))⟩
theorem wLayVn (d : Nat) {z : Nat → Int32} {f : Nat → FA} {nv v : Nat} (hz : z 22 = nI nv) (hn : nv ≤ 20) (hv : v < nv) : ∃ g, (∀ j, j < 10 → g j = vl10 (f 3 (20 + v)) (f 3 (60 + v)) (f 3 (40 + v)) 0 (z 23) (z 24) 0 0 (f 3 (100 + v)) (z 25) j) ∧ xcall (d + 3) 12 [vR 8, vI (nI v), vI (-1)] (LW W z f) = some (none, LW W z (uA f 9 g)) := by
  have tne : (3 : Nat) ≠ 9 := by decide
  have tr : ∀ (w : Nat) (G : FA), w < 6 → xcall (d + 2) 13 [vR 2, vI (nI v), vI (nI w)] (LW W z (uA f 9 G)) = some (some (vI (f 3 (20 * w + v))), LW W z (uA f 9 G)) := fun w G hw => by
    have h := wTraitn (W := W) d (f := uA f 9 G) hz hn hv hw
    rw [uA_ne tne] at h
    exact h
  have t1 := wTraitn (W := W) d (f := f) (w := 1) hz hn hv (by omega)
  have x0 : ix 0 = 0 := by decide
  have x1 : ix 1 = 1 := by decide
  have x2 : ix 2 = 2 := by decide
  have x3 : ix 3 = 3 := by decide
  have x4 : ix 4 = 4 := by decide
  have x5 : ix 5 = 5 := by decide
  have x6 : ix 6 = 6 := by decide
  have x7 : ix 7 = 7 := by decide
  have x8 : ix 8 = 8 := by decide
  have x9 : ix 9 = 9 := by decide
  refine ⟨(upd (upd (upd (upd (upd (upd (upd (upd (upd (upd (f 9) 0 (f 3 (20 * 1 + v))) 1 (f 3 (20 * 3 + v))) 2 (f 3 (20 * 2 + v))) 3 0) 4 (z 23)) 5 (z 24)) 6 0) 7 0) 8 (f 3 (20 * 5 + v))) 9 (z 25)), ?_, xcall_i (mq12 (cu := [])).2.2 rfl (vcn_12_0 (xcall (d + 2)) (nI v) (-1) none z f _ ⟨fun _ => ⟨_, _, _, t1, by decide, _, _, _, tr 3 _ (by omega), by decide, _, _, _, (by rw [uA_uA]; exact tr 2 _ (by omega)), by decide, by decide, by decide, by decide, by decide, by decide, _, _, _, (by simp only [uA_uA, uA_self]; exact tr 5 _ (by omega)), by decide, by decide, (by simp only [uA_uA, uA_self, x0, x1, x2, x3, x4, x5, x6, x7, x8, x9])⟩, fun q => absurd rfl q⟩)⟩
  exact fun j hj => up10 (G := f 9) j hj
theorem wLayCn (d : Nat) {z : Nat → Int32} {f : Nat → FA} {nv v i : Nat} (hz : z 22 = nI nv) (hn : nv ≤ 20) (hv : v < nv) (hi : i < 144) : ∃ g, (∀ j, j < 10 → g j = vl10 (mkW (f 4 i)) (f 3 (60 + v)) (f 3 (40 + v)) (mkD (f 4 i)) (z 23) (z 24) (nI (i / 12)) (bsd (f 4) (nI i)) (f 3 (100 + v)) (z 25) j) ∧ xcall (d + 3) 12 [vR 8, vI (nI v), vI (nI i)] (LW W z f) = some (none, LW W z (uA f 9 g)) := by
  have tne : (3 : Nat) ≠ 9 := by decide
  have mne : (4 : Nat) ≠ 9 := by decide
  have tr : ∀ (w : Nat) (G : FA), w < 6 → xcall (d + 2) 13 [vR 2, vI (nI v), vI (nI w)] (LW W z (uA f 9 G)) = some (some (vI (f 3 (20 * w + v))), LW W z (uA f 9 G)) := fun w G hw => by
    have h := wTraitn (W := W) d (f := uA f 9 G) hz hn hv hw
    rw [uA_ne tne] at h
    exact h
  have hw := wWayn (W := W) d (z := z) (f := f) hi
  have hd : ∀ G : FA, xcall (d + 2) 15 [vR 2, vI (nI i)] (LW W z (uA f 9 G)) = some (some (vI (mkD (f 4 i))), LW W z (uA f 9 G)) := fun G => by
    have h := wDepn (W := W) d (z := z) (f := uA f 9 G) hi
    rw [uA_ne mne] at h
    exact h
  have hb : ∀ G : FA, xcall (d + 2) 16 [vR 2, vI (nI i)] (LW W z (uA f 9 G)) = some (some (vI (bsd (f 4) (nI i))), LW W z (uA f 9 G)) := fun G => by
    have h := wBesn (W := W) d (nI i) (z := z) (f := uA f 9 G)
    rw [uA_ne mne] at h
    exact h
  have ei : nI i / 12 = nI (i / 12) := ndiv (a := i) (b := 12) rfl (by omega) (by omega) (by omega)
  have im : ¬ nI i = -1 := nI_m1 (by omega)
  have x0 : ix 0 = 0 := by decide
  have x1 : ix 1 = 1 := by decide
  have x2 : ix 2 = 2 := by decide
  have x3 : ix 3 = 3 := by decide
  have x4 : ix 4 = 4 := by decide
  have x5 : ix 5 = 5 := by decide
  have x6 : ix 6 = 6 := by decide
  have x7 : ix 7 = 7 := by decide
  have x8 : ix 8 = 8 := by decide
  have x9 : ix 9 = 9 := by decide
  refine ⟨(upd (upd (upd (upd (upd (upd (upd (upd (upd (upd (f 9) 0 (mkW (f 4 i))) 1 (f 3 (20 * 3 + v))) 2 (f 3 (20 * 2 + v))) 3 (mkD (f 4 i))) 4 (z 23)) 5 (z 24)) 6 (nI i / 12)) 7 (bsd (f 4) (nI i))) 8 (f 3 (20 * 5 + v))) 9 (z 25)), ?_, xcall_i (mq12 (cu := [])).2.2 rfl (vcn_12_0 (xcall (d + 2)) (nI v) (nI i) none z f _ ⟨fun q => absurd q im, fun _ => ⟨_, _, _, hw, by decide, _, _, _, tr 3 _ (by omega), by decide, _, _, _, (by rw [uA_uA]; exact tr 2 _ (by omega)), by decide, _, _, _, (by simp only [uA_uA, uA_self]; exact hd _), by decide, by decide, by decide, by decide, by decide, _, _, _, (by simp only [uA_uA, uA_self]; exact hb _), by decide, _, _, _, (by simp only [uA_uA, uA_self]; exact tr 5 _ (by omega)), by decide, by decide, (by simp only [uA_uA, uA_self, x0, x1, x2, x3, x4, x5, x6, x7, x8, x9])⟩⟩)⟩
  intro j hj
  rw [← ei]
  exact up10 (G := f 9) j hj
/-- how likely voter v comes, what the mark on cell i does, by the law L -/
theorem wComesn (hW : WTX W) {L : LAW} {n : Nat} (hC : LWC W 0 L n) (hL : LOK L n) (d : Nat) {z : Nat → Int32} {f : Nat → FA} {nv v : Nat} (hz : z 22 = nI nv) (hn : nv ≤ 20) (hv : v < nv) : ∃ g h, xcall (d + 4) 92 [vR 8, vI (nI v)] (LW W z f) = some (some (vI (hld ((lawG L (vl10 (f 3 (20 + v)) (f 3 (60 + v)) (f 3 (40 + v)) 0 (z 23) (z 24) 0 0 (f 3 (100 + v)) (z 25)) 0 n 0).getD (500 + 50 * f 3 (60 + v))) 1000)), LW W z (uA (uA f 9 g) 10 h)) := by
  have tne : (3 : Nat) ≠ 9 := by decide
  obtain ⟨g, k1, k2⟩ := wLayVn (W := W) d (f := f) hz hn hv
  have k3 := wTraitn (W := W) (d + 1) (f := uA f 9 g) (w := 3) hz hn hv (by omega)
  rw [uA_ne tne] at k3
  obtain ⟨h, k4⟩ := wTellsn hW (by decide) hC hL d (w := 0) (by omega) (500 + 50 * f 3 (60 + v)) (z := z) (f := uA f 9 g)
  rw [uA_self, lawG_cong hL k1 0 n 0 (by omega)] at k4
  exact ⟨g, h, xcall_i (mq92 (cu := [])).2.2 rfl (vcn_92_0 hW (xcall (d + 3)) (nI v) none z f _ ⟨_, _, k2, _, _, _, k3, _, _, _, k4, _, _, _, wHeld (d + 2) _ 1000 (by decide), rfl⟩)⟩
theorem wMeltsn (hW : WTX W) {L : LAW} {n : Nat} (hC : LWC W 0 L n) (hL : LOK L n) (d : Nat) {z : Nat → Int32} {f : Nat → FA} {nv v i : Nat} (hz : z 22 = nI nv) (hn : nv ≤ 20) (hv : v < nv) (hi : i < 144) (ho : mkO (f 4 i) = nI v) : ∃ g h, xcall (d + 4) 96 [vR 8, vI (nI i)] (LW W z f) = some (some (vI (hld ((lawG L (vl10 (mkW (f 4 i)) (f 3 (60 + v)) (f 3 (40 + v)) (mkD (f 4 i)) (z 23) (z 24) (nI (i / 12)) (bsd (f 4) (nI i)) (f 3 (100 + v)) (z 25)) 1 n 0).getD (100 * z 23 - 50 * mkD (f 4 i))) 1000)), LW W z (uA (uA f 9 g) 10 h)) := by
  have mne : (4 : Nat) ≠ 9 := by decide
  have h0 := wOwnn (W := W) (d + 1) (z := z) (f := f) hi
  rw [ho] at h0
  obtain ⟨g, k1, k2⟩ := wLayCn (W := W) d (f := f) hz hn hv hi
  have k3 := wDepn (W := W) (d + 1) (z := z) (f := uA f 9 g) hi
  rw [uA_ne mne] at k3
  obtain ⟨h, k4⟩ := wTellsn hW (by decide) hC hL d (w := 1) (by omega) (100 * z 23 - 50 * mkD (f 4 i)) (z := z) (f := uA f 9 g)
  rw [uA_self, lawG_cong hL k1 1 n 0 (by omega)] at k4
  exact ⟨g, h, xcall_i (mq96 (cu := [])).2.2 rfl (vcn_96_0 hW (xcall (d + 3)) (nI i) none z f _ ⟨_, _, _, h0, _, _, k2, _, _, _, k3, _, _, _, k4, _, _, _, wHeld (d + 2) _ 1000 (by decide), rfl⟩)⟩
theorem wWeighsn (hW : WTX W) {L : LAW} {n : Nat} (hC : LWC W 0 L n) (hL : LOK L n) (d : Nat) {z : Nat → Int32} {f : Nat → FA} {nv v i : Nat} (hz : z 22 = nI nv) (hn : nv ≤ 20) (hv : v < nv) (hi : i < 144) (ho : mkO (f 4 i) = nI v) : ∃ g h, xcall (d + 4) 10 [vR 8, vI (nI i)] (LW W z f) = some (some (vI (hld ((lawG L (vl10 (mkW (f 4 i)) (f 3 (60 + v)) (f 3 (40 + v)) (mkD (f 4 i)) (z 23) (z 24) (nI (i / 12)) (bsd (f 4) (nI i)) (f 3 (100 + v)) (z 25)) 2 n 0).getD (mkD (f 4 i))) 99)), LW W z (uA (uA f 9 g) 10 h)) := by
  have mne : (4 : Nat) ≠ 9 := by decide
  have h0 := wOwnn (W := W) (d + 1) (z := z) (f := f) hi
  rw [ho] at h0
  obtain ⟨g, k1, k2⟩ := wLayCn (W := W) d (f := f) hz hn hv hi
  have k3 := wDepn (W := W) (d + 1) (z := z) (f := uA f 9 g) hi
  rw [uA_ne mne] at k3
  obtain ⟨h, k4⟩ := wTellsn hW (by decide) hC hL d (w := 2) (by omega) (mkD (f 4 i)) (z := z) (f := uA f 9 g)
  rw [uA_self, lawG_cong hL k1 2 n 0 (by omega)] at k4
  exact ⟨g, h, xcall_i (mq10 (cu := [])).2.2 rfl (vcn_10_0 hW (xcall (d + 3)) (nI i) z f _ ⟨_, _, _, h0, _, _, k2, _, _, _, k3, _, _, _, k4, _, _, _, wHeld (d + 2) _ 99 (by decide), rfl⟩)⟩
end TWs
