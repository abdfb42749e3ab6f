/-! what holds between two rounds, with any relation over some cells of both sides -/
def LIY (P : Nat → Nat → Nat → PH → Prop) (nc nm : Nat) (h : PH) : Prop := ∃ lam b, LIB lam b nc nm h ∧ P b nc nm h
def CQY (P : Nat → Nat → Nat → PH → Prop) (l : Launch) (G : PG) (nc nm : Nat) (h : PH) (y : MethodName) (bytes : ByteArray) (maxL : Nat) (ret : Option FieldType) (d : Nat) (As : List PV) : Prop := ∃ Φ0, PMet l G y bytes maxL ret d 0 0 As h Φ0 ∧ ∀ r h', Φ0 r h' → (∃ v, r = some (vI v)) ∧ LIY P nc nm h'
/-- a pair of calls: the same answer -/
def PRY (P : Nat → Nat → Nat → PH → Prop) (l : Launch) (G : PG) (nc nm : Nat) (h : PH) (kc dc kr dr : Nat) (As : List PV) : Prop := ∃ Φ0, PMet l G (mY kc) (mC kc) (mN kc) (mR kc) dc 0 0 (vR nc :: As) h Φ0 ∧ ∀ r h', Φ0 r h' → ∃ v, r = some (vI v) ∧ (∃ fs, h'[nm]? = some (eO 12 fs)) ∧ ∃ Φ1, PMet l G (mY kr) (mC kr) (mN kr) (mR kr) dr 0 0 (vR nm :: As) h' Φ1 ∧ ∀ r1 h1, Φ1 r1 h1 → r1 = some (vI v) ∧ LIY P nc nm h1
theorem LIY.cl {P : Nat → Nat → Nat → PH → Prop} {nc nm : Nat} {h : PH} (hI : LIY P nc nm h) : ∃ fs, h[nc]? = some (eO 11 fs) := by
  obtain ⟨lam, b, hB, -⟩ := hI
  exact LIX.cl (ps := []) (qs := []) ⟨lam, b, hB, (fun p hp => by cases hp), (fun _ p hp => by cases hp)⟩
theorem LIY.md {P : Nat → Nat → Nat → PH → Prop} {nc nm : Nat} {h : PH} (hI : LIY P nc nm h) : ∃ fs, h[nm]? = some (eO 12 fs) := by
  obtain ⟨lam, b, hB, -⟩ := hI
  exact LIX.md (ps := []) (qs := []) ⟨lam, b, hB, (fun p hp => by cases hp), (fun _ p hp => by cases hp)⟩
