/-! what holds between two rounds, with any relation over some cells of both sides -/
def KPT (h h' : PH) (a j : Nat) : Prop := (∀ x, FLD h a j x → FLD h' a j x) ∧ (j = 999 → ∀ N f, h[a]? = some (eI N f) → h'[a]? = some (eI N f))
theorem KPT_frg {lam : Nat → Nat} {W : List (Nat × Nat)} {h h' : PH} {a j : Nat} (hF : FRG lam W h h') (hn : ∀ k, (k, j) ∈ W → lam k ≠ a) : KPT h h' a j := by
  refine ⟨fun x hx => hx.keep hF hn, fun e N f hx => ?_⟩
  obtain ⟨y, hy, hk⟩ := hF.2 _ _ hx
  match y, hy, hk with
  | .inl (.inl (t, N', f')), hy, hk =>
    obtain ⟨k1, k2, k3⟩ := hk
    have k1 : 0 = t := k1
    subst k1
    have k2 : N = N' := k2
    subst k2
    have k3 : f = f' := k3 (fun ⟨k, hm, e1⟩ => hn k (e ▸ hm) e1)
    subst k3
    exact hy
  | .inl (.inr a), _, hk => cases hk
  | .inr a, _, hk => cases hk
theorem KPT_same {h h' : PH} {a j : Nat} (e : h'[a]? = h[a]?) : KPT h h' a j := by
  refine ⟨fun x hx => ?_, fun _ N f hx => e.trans hx⟩
  obtain ⟨c, fs, h1, h2⟩ := hx
  exact ⟨c, fs, e.trans h1, h2⟩
def STB (FC FR : List (Nat × Nat)) (P : Nat → Nat → Nat → PH → Prop) : Prop := ∀ b nc nm h h', P b nc nm h → (∀ q, q ∈ FC → KPT h h' (nc + q.1) q.2) → (∀ q, q ∈ FR → KPT h h' (nm + q.1) q.2) → P b nc nm h'
def LIY (P : Nat → Nat → Nat → PH → Prop) (nc nm : Nat) (h : PH) : Prop := ∃ lam b, LIB lam b nc nm h ∧ P b nc nm h
def okFC (FC W : List (Nat × Nat)) : Bool := FC.all (fun p => wrC p.1 && W.all (fun e => !(e.1 == p.1 && e.2 == p.2)))
def okFR (FR W : List (Nat × Nat)) : Bool := FR.all (fun p => W.all (fun e => !(e.1 == p.1 && e.2 == p.2)))
theorem all_ne {W : List (Nat × Nat)} {p : Nat × Nat} (h : W.all (fun e => !(e.1 == p.1 && e.2 == p.2)) = true) : p ∉ W := by
  intro hm
  have h2 := List.all_eq_true.mp h _ hm
  simp at h2
theorem okFC_ok {FC W : List (Nat × Nat)} (h : okFC FC W = true) {p : Nat × Nat} (hp : p ∈ FC) : wrC p.1 = true ∧ p ∉ W := by
  have h1 := List.all_eq_true.mp h p hp
  rw [Bool.and_eq_true] at h1
  exact ⟨h1.1, all_ne h1.2⟩
theorem okFR_ok {FR W : List (Nat × Nat)} (h : okFR FR W = true) {p : Nat × Nat} (hp : p ∈ FR) : p ∉ W := all_ne (List.all_eq_true.mp h p hp)
/-- cells of the class over a call of the class -/
theorem kc_c {lam : Nat → Nat} {W : List (Nat × Nat)} {nc : Nat} {h h' : PH} (hF : FRG lam W h h') (hl : LAMC lam) (h103 : ∀ k, k < 103 → lam k = nc + k) {q : Nat × Nat} (hq : wrC q.1 = true) (hn : q ∉ W) : KPT h h' (nc + q.1) q.2 := by
  refine KPT_frg hF (fun k hm e => ?_)
  have e1 : lam q.1 = lam k := (h103 q.1 (wrC_lt hq)).trans e.symm
  have := hl q.1 hq k e1
  subst this
  exact hn hm
/-- cells of the reference over a call of the class -/
theorem kr_c {lam : Nat → Nat} {W : List (Nat × Nat)} {nm : Nat} {h h' : PH} (hF : FRG lam W h h') (hd : ∀ k j, j < 43 → lam k ≠ nm + j) {q : Nat × Nat} (hq : q.1 < 43) : KPT h h' (nm + q.1) q.2 := KPT_frg hF (fun k _ => hd k q.1 hq)
/-- cells of the reference over a call of the reference -/
theorem kr_r {W : List (Nat × Nat)} {nm : Nat} {h h' : PH} (hF : FRG (lamM nm) W h h') {q : Nat × Nat} (hn : q ∉ W) : KPT h h' (nm + q.1) q.2 := by
  refine KPT_frg hF (fun k hm e => ?_)
  have e1 : nm + k = nm + q.1 := e
  have e2 : k = q.1 := by omega
  subst e2
  exact hn hm
/-- cells of the class over a call of the reference -/
theorem kc_r {lam : Nat → Nat} {W : List (Nat × Nat)} {nc nm : Nat} {h h' : PH} (hF : FRG (lamM nm) W h h') (h103 : ∀ k, k < 103 → lam k = nc + k) (hd : ∀ k j, j < 43 → lam k ≠ nm + j) (hw : ∀ e, e ∈ W → e.1 < 43) {q : Nat × Nat} (hq : q.1 < 103) : KPT h h' (nc + q.1) q.2 := KPT_frg hF (fun k hm e => hd q.1 k (hw _ hm) ((h103 q.1 hq).trans e.symm))
def bFR (FR : List (Nat × Nat)) : Bool := FR.all (fun q => Nat.blt q.1 43)
def bFC (FC : List (Nat × Nat)) : Bool := FC.all (fun q => Nat.blt q.1 103)
theorem bFR_ok {FR : List (Nat × Nat)} (h : bFR FR = true) {q : Nat × Nat} (hq : q ∈ FR) : q.1 < 43 := Nat.blt_eq.mp (List.all_eq_true.mp h q hq)
theorem bFC_ok {FC : List (Nat × Nat)} (h : bFC FC = true) {q : Nat × Nat} (hq : q ∈ FC) : q.1 < 103 := Nat.blt_eq.mp (List.all_eq_true.mp h q hq)
def CQY (P : Nat → Nat → Nat → PH → Prop) (l : Launch) (G : PG) (nc nm : Nat) (h : PH) (y : MethodName) (bytes : ByteArray) (maxL : Nat) (ret : Option FieldType) (d : Nat) (As : List PV) : Prop := ∃ Φ0, PMet l G y bytes maxL ret d 0 0 As h Φ0 ∧ ∀ r h', Φ0 r h' → (∃ v, r = some (vI v)) ∧ LIY P nc nm h'
theorem cy_c {P : Nat → Nat → Nat → PH → Prop} {FC FR : List (Nat × Nat)} (hP : STB FC FR P) (hb : bFR FR = true) (l : Launch) (G : PG) {nc nm : Nat} {h : PH} (su : SU) (hI : LIY P nc nm h) (hS : ∀ lam, LAMC lam → SUOK lam TCl EXT l G su) (he : (su.2.2.2.2.all (fun e => !(e.1 == 0 && e.2 == 2)) && okFC FC su.2.2.2.2) = true) (hr : su.2.2.2.1.isSome = true) (As : List PV) (hA : ∀ lam : Nat → Nat, lam 0 = nc → R2 (vRel lam []) su.2.2.1 (vR nc :: As)) : CQY P l G nc nm h (mY su.1) (mC su.1) (mN su.1) (mR su.1) su.2.1 (vR nc :: As) := by
  obtain ⟨lam, b, hB, hR⟩ := hI
  rw [Bool.and_eq_true] at he
  obtain ⟨Φ0, hM, hQ⟩ := lib_c l G su hB (hS lam hB.2.1) he.1 As (hA lam (hB.2.2.1 0 (by decide)))
  refine ⟨Φ0, hM, fun r h' q => ?_⟩
  obtain ⟨q1, q2, q3⟩ := hQ r h' q
  exact ⟨RSO_i q1 hr, lam, b, q2, hP b nc nm h h' hR (fun q hq => kc_c q3 hB.2.1 hB.2.2.1 (okFC_ok he.2 hq).1 (okFC_ok he.2 hq).2) (fun q hq => kr_c q3 hB.2.2.2.2.2.2.2 (bFR_ok hb hq))⟩
theorem cy_r {P : Nat → Nat → Nat → PH → Prop} {FC FR : List (Nat × Nat)} (hP : STB FC FR P) (hb : bFC FC = true) (l : Launch) (G : PG) {nc nm : Nat} {h : PH} (su : SU) (hI : LIY P nc nm h) (hS : SUOK (lamM nm) TRf (EXR (lamM nm)) l G su) (he : (su.2.2.2.2.all (fun e => wrR e.1 && !(e.1 == 0 && e.2 == 73)) && okFR FR su.2.2.2.2) = true) (hr : su.2.2.2.1.isSome = true) (As : List PV) (hA : R2 (vRel (lamM nm) []) su.2.2.1 (vR nm :: As)) : CQY P l G nc nm h (mY su.1) (mC su.1) (mN su.1) (mR su.1) su.2.1 (vR nm :: As) := by
  obtain ⟨lam, b, hB, hR⟩ := hI
  rw [Bool.and_eq_true] at he
  obtain ⟨Φ0, hM, hQ⟩ := lib_r l G su hB hS he.1 As hA
  refine ⟨Φ0, hM, fun r h' q => ?_⟩
  obtain ⟨q1, q2, q3⟩ := hQ r h' q
  have hw : ∀ e, e ∈ su.2.2.2.2 → e.1 < 43 := fun e h => by
    have := wrR_lt ((Bool.and_eq_true _ _).mp (List.all_eq_true.mp he.1 e h)).1
    omega
  exact ⟨RSO_i q1 hr, lam, b, q2, hP b nc nm h h' hR (fun q hq => kc_r q3 hB.2.2.1 hB.2.2.2.2.2.2.2 hw (bFC_ok hb hq)) (fun q hq => kr_r q3 (okFR_ok he.2 hq))⟩
/-- a pair of calls: the same answer -/
def PRY (P : Nat → Nat → Nat → PH → Prop) (l : Launch) (G : PG) (nc nm : Nat) (h : PH) (kc dc kr dr : Nat) (As : List PV) : Prop := ∃ Φ0, PMet l G (mY kc) (mC kc) (mN kc) (mR kc) dc 0 0 (vR nc :: As) h Φ0 ∧ ∀ r h', Φ0 r h' → ∃ v, r = some (vI v) ∧ (∃ fs, h'[nm]? = some (eO 12 fs)) ∧ ∃ Φ1, PMet l G (mY kr) (mC kr) (mN kr) (mR kr) dr 0 0 (vR nm :: As) h' Φ1 ∧ ∀ r1 h1, Φ1 r1 h1 → r1 = some (vI v) ∧ LIY P nc nm h1
/-- exact runs of both sides, the class's over some cells of it -/
theorem KPT_repC {lam : Nat → Nat} {N nc : Nat} {mp : Nat → Nat} {L L' : QH FA} {h h' : PH} (hl : LAMC lam) (h103 : ∀ k, k < 103 → lam k = nc + k) (lb : Nat → Nat) (hlb : ∀ k, k < N → lb k = lam (mp k)) (hR1 : Rep rdF h lb N L h') {q : Nat × Nat} (hq : wrC q.1 = true) (hn : ∀ k, k < N → mp k ≠ q.1) : KPT h h' (nc + q.1) q.2 := by
  refine KPT_same (hR1.2.2.2 (nc + q.1) (fun j hj e => ?_))
  rw [hlb j hj, ← h103 q.1 (wrC_lt hq)] at e
  exact hn j hj (hl q.1 hq _ e).symm
theorem LIY.cl {P : Nat → Nat → Nat → PH → Prop} {nc nm : Nat} {h : PH} (hI : LIY P nc nm h) : ∃ fs, h[nc]? = some (eO 11 fs) := by
  obtain ⟨lam, b, hB, -⟩ := hI
  exact LIX.cl (ps := []) (qs := []) ⟨lam, b, hB, (fun p hp => by cases hp), (fun _ p hp => by cases hp)⟩
theorem LIY.md {P : Nat → Nat → Nat → PH → Prop} {nc nm : Nat} {h : PH} (hI : LIY P nc nm h) : ∃ fs, h[nm]? = some (eO 12 fs) := by
  obtain ⟨lam, b, hB, -⟩ := hI
  exact LIX.md (ps := []) (qs := []) ⟨lam, b, hB, (fun p hp => by cases hp), (fun _ p hp => by cases hp)⟩
