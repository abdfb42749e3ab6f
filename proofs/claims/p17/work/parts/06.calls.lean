def qI (Ψ : Int32 → PH → Prop) : Option PV → PH → Prop := fun r h' => ∃ x, r = some (vI x) ∧ Ψ x h'
def qV (Ψ : PH → Prop) : Option PV → PH → Prop := fun r h' => r = none ∧ Ψ h'
def qA (Ψ : Option Nat → PH → Prop) : Option PV → PH → Prop := fun r h' => ∃ v, r = some (pO v) ∧ Ψ v h'
abbrev bz (P : Prop) [Decidable P] : Int32 := if P then 1 else 0
def chkC (R : Room) (d maxL sl cells slots mc ms : Nat) : Bool := Nat.ble (d + 1) R.frames && (Nat.ble (8 + (maxL + 11) + 64 * d) R.locals && (Nat.ble sl 8 && (Nat.ble (cells + mc) R.cells && Nat.ble (slots + ms) R.slots)))
theorem chkC_ok {R : Room} {d maxL sl cells slots mc ms : Nat} (h : chkC R d maxL sl cells slots mc ms = true) : (d + 1 ≤ R.frames ∧ 8 + (maxL + 11) + 64 * d ≤ R.locals) ∧ sl ≤ 8 ∧ (cells + mc ≤ R.cells ∧ slots + ms ≤ R.slots) := by
  simp only [chkC, Bool.and_eq_true, Nat.ble_eq] at h
  exact ⟨⟨h.1, h.2.1⟩, h.2.2.1, h.2.2.2⟩
section Calls6
variable {p : Program} {l : Launch} {e : Env} {R : Room} {s : State} {m : MethodId} {args : Array Value} {below : List Frame} {meth : Method} {c : Code} {G : PG} {nL : Nat} {Q : State → Prop} {cells slots : Nat} {h : PH} {pc : Nat} {ls : List (Option PV)} {st : List PV} {cc : ByteArray} {own : String}
theorem r_V1i (X : pX p s m args c G nL cc own) {i : Nat} {y : MethodName} {bytes : ByteArray} {maxL d mc ms : Nat} {ret : Option FieldType} {ci N : Nat} {T : u_T} {fs : List PV} {b : Nat} {a1 : PV} {Ψ : Int32 → PH → Prop} (K : lkV own i y bytes maxL ret 1) (hd : decode cc pc = .ok (.invokevirtual i, 3)) (hh : h[b]? = some (eO ci fs)) (hc : vwCl[ci]? = some (y.cls, T, N)) (hM : PMet l G y bytes maxL ret d mc ms [vR b, a1] h (qI Ψ)) (hq : chkC R d maxL st.length cells slots mc ms = true)
    (k : ∀ x h', Ψ x h' → PW p l e R s m args below meth c G nL Q (cells + mc) (slots + ms) h' (pc + 3) ls (vI x :: st)) : PW p l e R s m args below meth c G nL Q cells slots h pc ls (a1 :: vR b :: st) :=
  r_callV X K hd (As := [a1]) rfl rfl hh hc hM (chkC_ok hq).1 (chkC_ok hq).2.1 (chkC_ok hq).2.2 (by rintro r h' ⟨x, rfl, hx⟩; exact k x h' hx)
theorem r_S2i (X : pX p s m args c G nL cc own) {i : Nat} {y : MethodName} {bytes : ByteArray} {maxL d mc ms : Nat} {ret : Option FieldType} {a1 a2 : PV} {Ψ : Int32 → PH → Prop} (K : lkS own i y bytes maxL ret 2) (hd : decode cc pc = .ok (.invokestatic i, 3)) (hM : PMet l G y bytes maxL ret d mc ms [a1, a2] h (qI Ψ)) (hq : chkC R d maxL st.length cells slots mc ms = true)
    (k : ∀ x h', Ψ x h' → PW p l e R s m args below meth c G nL Q (cells + mc) (slots + ms) h' (pc + 3) ls (vI x :: st)) : PW p l e R s m args below meth c G nL Q cells slots h pc ls (a2 :: a1 :: st) :=
  r_callS X K hd (As := [a1, a2]) rfl rfl hM (chkC_ok hq).1 (chkC_ok hq).2.1 (chkC_ok hq).2.2 (by rintro r h' ⟨x, rfl, hx⟩; exact k x h' hx)
theorem r_S2v (X : pX p s m args c G nL cc own) {i : Nat} {y : MethodName} {bytes : ByteArray} {maxL d mc ms : Nat} {ret : Option FieldType} {a1 a2 : PV} {Ψ : PH → Prop} (K : lkS own i y bytes maxL ret 2) (hd : decode cc pc = .ok (.invokestatic i, 3)) (hM : PMet l G y bytes maxL ret d mc ms [a1, a2] h (qV Ψ)) (hq : chkC R d maxL st.length cells slots mc ms = true)
    (k : ∀ h', Ψ h' → PW p l e R s m args below meth c G nL Q (cells + mc) (slots + ms) h' (pc + 3) ls st) : PW p l e R s m args below meth c G nL Q cells slots h pc ls (a2 :: a1 :: st) :=
  r_callS X K hd (As := [a1, a2]) rfl rfl hM (chkC_ok hq).1 (chkC_ok hq).2.1 (chkC_ok hq).2.2 (by rintro r h' ⟨rfl, hx⟩; exact k h' hx)
theorem r_S2a (X : pX p s m args c G nL cc own) {i : Nat} {y : MethodName} {bytes : ByteArray} {maxL d mc ms : Nat} {ret : Option FieldType} {a1 a2 : PV} {Ψ : Option Nat → PH → Prop} (K : lkS own i y bytes maxL ret 2) (hd : decode cc pc = .ok (.invokestatic i, 3)) (hM : PMet l G y bytes maxL ret d mc ms [a1, a2] h (qA Ψ)) (hq : chkC R d maxL st.length cells slots mc ms = true)
    (k : ∀ v h', Ψ v h' → PW p l e R s m args below meth c G nL Q (cells + mc) (slots + ms) h' (pc + 3) ls (pO v :: st)) : PW p l e R s m args below meth c G nL Q cells slots h pc ls (a2 :: a1 :: st) :=
  r_callS X K hd (As := [a1, a2]) rfl rfl hM (chkC_ok hq).1 (chkC_ok hq).2.1 (chkC_ok hq).2.2 (by rintro r h' ⟨x, rfl, hx⟩; exact k x h' hx)
theorem r_S3i (X : pX p s m args c G nL cc own) {i : Nat} {y : MethodName} {bytes : ByteArray} {maxL d mc ms : Nat} {ret : Option FieldType} {a1 a2 a3 : PV} {Ψ : Int32 → PH → Prop} (K : lkS own i y bytes maxL ret 3) (hd : decode cc pc = .ok (.invokestatic i, 3)) (hM : PMet l G y bytes maxL ret d mc ms [a1, a2, a3] h (qI Ψ)) (hq : chkC R d maxL st.length cells slots mc ms = true)
    (k : ∀ x h', Ψ x h' → PW p l e R s m args below meth c G nL Q (cells + mc) (slots + ms) h' (pc + 3) ls (vI x :: st)) : PW p l e R s m args below meth c G nL Q cells slots h pc ls (a3 :: a2 :: a1 :: st) :=
  r_callS X K hd (As := [a1, a2, a3]) rfl rfl hM (chkC_ok hq).1 (chkC_ok hq).2.1 (chkC_ok hq).2.2 (by rintro r h' ⟨x, rfl, hx⟩; exact k x h' hx)
theorem r_I0v (X : pX p s m args c G nL cc own) {i : Nat} {y : MethodName} {bytes : ByteArray} {maxL d mc ms : Nat} {b : Nat} {Ψ : PH → Prop} (K : lkI own i y bytes maxL 0) (hd : decode cc pc = .ok (.invokespecial i, 3)) (hM : PMet l G y bytes maxL none d mc ms [vR b] h (qV Ψ)) (hq : chkC R d maxL st.length cells slots mc ms = true)
    (k : ∀ h', Ψ h' → PW p l e R s m args below meth c G nL Q (cells + mc) (slots + ms) h' (pc + 3) ls st) : PW p l e R s m args below meth c G nL Q cells slots h pc ls (vR b :: st) :=
  r_callI X K hd (As := []) rfl rfl hM (chkC_ok hq).1 (chkC_ok hq).2.1 (chkC_ok hq).2.2 (by rintro r h' ⟨rfl, hx⟩; exact k h' hx)
theorem r_I1v (X : pX p s m args c G nL cc own) {i : Nat} {y : MethodName} {bytes : ByteArray} {maxL d mc ms : Nat} {b : Nat} {a1 : PV} {Ψ : PH → Prop} (K : lkI own i y bytes maxL 1) (hd : decode cc pc = .ok (.invokespecial i, 3)) (hM : PMet l G y bytes maxL none d mc ms [vR b, a1] h (qV Ψ)) (hq : chkC R d maxL st.length cells slots mc ms = true)
    (k : ∀ h', Ψ h' → PW p l e R s m args below meth c G nL Q (cells + mc) (slots + ms) h' (pc + 3) ls st) : PW p l e R s m args below meth c G nL Q cells slots h pc ls (a1 :: vR b :: st) :=
  r_callI X K hd (As := [a1]) rfl rfl hM (chkC_ok hq).1 (chkC_ok hq).2.1 (chkC_ok hq).2.2 (by rintro r h' ⟨rfl, hx⟩; exact k h' hx)
theorem r_I3v (X : pX p s m args c G nL cc own) {i : Nat} {y : MethodName} {bytes : ByteArray} {maxL d mc ms : Nat} {b : Nat} {a1 a2 a3 : PV} {Ψ : PH → Prop} (K : lkI own i y bytes maxL 3) (hd : decode cc pc = .ok (.invokespecial i, 3)) (hM : PMet l G y bytes maxL none d mc ms [vR b, a1, a2, a3] h (qV Ψ)) (hq : chkC R d maxL st.length cells slots mc ms = true)
    (k : ∀ h', Ψ h' → PW p l e R s m args below meth c G nL Q (cells + mc) (slots + ms) h' (pc + 3) ls st) : PW p l e R s m args below meth c G nL Q cells slots h pc ls (a3 :: a2 :: a1 :: vR b :: st) :=
  r_callI X K hd (As := [a1, a2, a3]) rfl rfl hM (chkC_ok hq).1 (chkC_ok hq).2.1 (chkC_ok hq).2.2 (by rintro r h' ⟨rfl, hx⟩; exact k h' hx)
theorem r_IN0v (X : pX p s m args c G nL cc own) {i : Nat} {y : MethodName} {host : String} {bytes : ByteArray} {maxL d mc ms : Nat} {b : Nat} {Ψ : PH → Prop} (K : lkN own i y host bytes maxL none 0) (hin : y.name = "<init>" ∧ Cond.instanceMethod y ∈ lw_ok) (hd : decode cc pc = .ok (.invokespecial i, 3)) (hM : PMet l G y bytes maxL none d mc ms [vR b] h (qV Ψ)) (hq : chkC R d maxL st.length cells slots mc ms = true)
    (k : ∀ h', Ψ h' → PW p l e R s m args below meth c G nL Q (cells + mc) (slots + ms) h' (pc + 3) ls st) : PW p l e R s m args below meth c G nL Q cells slots h pc ls (vR b :: st) :=
  r_callIN X K hin hd (As := []) rfl rfl hM (chkC_ok hq).1 (chkC_ok hq).2.1 (chkC_ok hq).2.2 (by rintro r h' ⟨rfl, hx⟩; exact k h' hx)
theorem r_iaddE (X : pX p s m args c G nL cc own) {x y v : Int32} (hd : decode cc pc = .ok (.iadd, 1)) (hv : x + y = v) (k : PW p l e R s m args below meth c G nL Q cells slots h (pc + 1) ls (vI v :: st)) : PW p l e R s m args below meth c G nL Q cells slots h pc ls (vI y :: vI x :: st) := r_iadd X hd (by rw [hv]; exact k)
theorem r_isubE (X : pX p s m args c G nL cc own) {x y v : Int32} (hd : decode cc pc = .ok (.isub, 1)) (hv : x - y = v) (k : PW p l e R s m args below meth c G nL Q cells slots h (pc + 1) ls (vI v :: st)) : PW p l e R s m args below meth c G nL Q cells slots h pc ls (vI y :: vI x :: st) := r_isub X hd (by rw [hv]; exact k)
theorem r_ialdE (X : pX p s m args c G nL cc own) {a n : Nat} {f : Nat → Int32} {i v : Int32} (hd : decode cc pc = .ok (.iaload, 1)) (hh : h[a]? = some (eI n f)) (hin : vp_in i n) (hv : f i.toNatClampNeg = v) (k : PW p l e R s m args below meth c G nL Q cells slots h (pc + 1) ls (vI v :: st)) : PW p l e R s m args below meth c G nL Q cells slots h pc ls (vI i :: vR a :: st) := r_iald X hd hh hin (by rw [hv]; exact k)
theorem r_saldE (X : pX p s m args c G nL cc own) {j : Nat} {i v : Int32} (hj : j < 3) (hd : decode cc pc = .ok (.iaload, 1)) (hin : vp_in i (sN j)) (hv : sF j i.toNatClampNeg = v) (k : PW p l e R s m args below meth c G nL Q cells slots h (pc + 1) ls (vI v :: st)) : PW p l e R s m args below meth c G nL Q cells slots h pc ls (vI i :: vS j :: st) := r_sald X hj hd hin (by rw [hv]; exact k)
theorem r_aload_nN (X : pX p s m args c G nL cc own) {i : Fin 4} (hd : decode cc pc = .ok (.aload_n i, 1)) (hk : ls[(i : Nat)]? = some (some vN)) (k : PW p l e R s m args below meth c G nL Q cells slots h (pc + 1) ls (vN :: st)) : PW p l e R s m args below meth c G nL Q cells slots h pc ls st := by
  intro H locs lsA hI hl
  exact lv_aload_nN X.1 X.2.1 hd rfl (pl_at hl hk) (k H locs lsA hI hl)
theorem r_aloadN (X : pX p s m args c G nL cc own) {i : Nat} (hd : decode cc pc = .ok (.aload i, 2)) (hk : ls[i]? = some (some vN)) (k : PW p l e R s m args below meth c G nL Q cells slots h (pc + 2) ls (vN :: st)) : PW p l e R s m args below meth c G nL Q cells slots h pc ls st := by
  intro H locs lsA hI hl
  exact lv_aloadN X.1 X.2.1 hd (pl_at hl hk) (k H locs lsA hI hl)
theorem r_astore_nN (X : pX p s m args c G nL cc own) {i : Fin 4} (hd : decode cc pc = .ok (.astore_n i, 1)) (hn : (i : Nat) < nL) (k : PW p l e R s m args below meth c G nL Q cells slots h (pc + 1) (ls.set (i : Nat) (some vN)) st) : PW p l e R s m args below meth c G nL Q cells slots h pc ls (vN :: st) := by
  intro H locs lsA hI hl
  exact lv_astore_nN X.1 X.2.1 hd rfl hl hn rfl (fun ls' h2 => k H locs ls' hI (pl_set (v := vN) h2))
theorem r_astoreN (X : pX p s m args c G nL cc own) {i : Nat} (hd : decode cc pc = .ok (.astore i, 2)) (hn : i < nL) (k : PW p l e R s m args below meth c G nL Q cells slots h (pc + 2) (ls.set i (some vN)) st) : PW p l e R s m args below meth c G nL Q cells slots h pc ls (vN :: st) := by
  intro H locs lsA hI hl
  exact lv_astoreN X.1 X.2.1 hd hl hn rfl (fun ls' h2 => k H locs ls' hI (pl_set (v := vN) h2))
theorem r_max (X : pX p s m args c G nL cc own) {i : Nat} {x y v : Int32} (w1 : Cond.methodLink own i Lib.Math.max.name ∈ lw_ok) (hd : decode cc pc = .ok (.invokestatic i, 3)) (hq : chkC R 0 2 st.length cells slots 0 0 = true) (hv : (if x < y then y else x) = v) (k : PW p l e R s m args below meth c G nL Q cells slots h (pc + 3) ls (vI v :: st)) : PW p l e R s m args below meth c G nL Q cells slots h pc ls (vI y :: vI x :: st) := by
  intro H locs lsA hI hl
  have hts := X.2.2.2.2.1
  have c0 := chkC_ok hq
  refine va_mmax X.1 X.2.1 (by rw [X.2.2.1]; exact hl.1.symm) X.2.2.2.1 (hts _ w1) (hts _ mt_J9_max_7cf53) (hts _ mb_J9_max_7cf53.1) (hts _ mb_J9_max_7cf53.2.1) (by have := c0.1.1; omega) (by rw [pr_sum]; have := c0.1.2; have := c0.2.1; omega) c0.2.2.1 c0.2.2.2 hd ?_
  rw [hv]
  exact k H locs lsA hI hl
theorem r_min (X : pX p s m args c G nL cc own) {i : Nat} {x y v : Int32} (w1 : Cond.methodLink own i Lib.Math.min.name ∈ lw_ok) (hd : decode cc pc = .ok (.invokestatic i, 3)) (hq : chkC R 0 2 st.length cells slots 0 0 = true) (hv : (if y < x then y else x) = v) (k : PW p l e R s m args below meth c G nL Q cells slots h (pc + 3) ls (vI v :: st)) : PW p l e R s m args below meth c G nL Q cells slots h pc ls (vI y :: vI x :: st) := by
  intro H locs lsA hI hl
  have hts := X.2.2.2.2.1
  have c0 := chkC_ok hq
  refine va_mmin X.1 X.2.1 (by rw [X.2.2.1]; exact hl.1.symm) X.2.2.2.1 (hts _ w1) (hts _ mt_J9_min_7cf53) (hts _ mb_J9_min_7cf53.1) (hts _ mb_J9_min_7cf53.2.1) (by have := c0.1.1; omega) (by rw [pr_sum]; have := c0.1.2; have := c0.2.1; omega) c0.2.2.1 c0.2.2.2 hd ?_
  rw [hv]
  exact k H locs lsA hI hl
theorem r_abs (X : pX p s m args c G nL cc own) {i : Nat} {x  v : Int32} (w1 : Cond.methodLink own i Lib.Math.abs.name ∈ lw_ok) (hd : decode cc pc = .ok (.invokestatic i, 3)) (hq : chkC R 0 2 st.length cells slots 0 0 = true) (hv : (if 0 ≤ x then x else 0 - x) = v) (k : PW p l e R s m args below meth c G nL Q cells slots h (pc + 3) ls (vI v :: st)) : PW p l e R s m args below meth c G nL Q cells slots h pc ls (vI x :: st) := by
  intro H locs lsA hI hl
  have hts := X.2.2.2.2.1
  have c0 := chkC_ok hq
  refine va_mabs X.1 X.2.1 (by rw [X.2.2.1]; exact hl.1.symm) X.2.2.2.1 (hts _ w1) (hts _ mt_J9_abs_0f7a4) (hts _ mb_J9_abs_0f7a4.1) (hts _ mb_J9_abs_0f7a4.2.1) (by have := c0.1.1; omega) (by rw [pr_sum]; have := c0.1.2; have := c0.2.1; omega) c0.2.2.1 c0.2.2.2 hd ?_
  rw [hv]
  exact k H locs lsA hI hl
theorem r_ldc_w (X : pX p s m args c G nL cc own) {i : Nat} {v : Int32} (hw : Cond.constant own i v ∈ lw_ok) (hd : decode cc pc = .ok (.ldc_w i, 3)) (k : PW p l e R s m args below meth c G nL Q cells slots h (pc + 3) ls (vI v :: st)) : PW p l e R s m args below meth c G nL Q cells slots h pc ls st := by
  intro H locs lsA hI hl
  exact lv_ldcw X.1 X.2.1 X.2.2.2.1 (X.2.2.2.2.1 _ hw) hd (k H locs lsA hI hl)
theorem r_copy (X : pX p s m args c G nL cc own) {i a0 a n0 n1 : Nat} {f g : Nat → Int32} {sp dp k : Int32} (w1 : Cond.methodLink own i arraycopyName ∈ lw_ok) (w2 : Cond.native arraycopyName ∈ lw_ok) (w3 : Cond.static arraycopyName ∈ lw_ok) (w4 : Cond.initialized "java/lang/System" ∈ lw_ok) (hd : decode cc pc = .ok (.invokestatic i, 3)) (hh0 : h[a0]? = some (eI n0 f)) (hh1 : h[a]? = some (eI n1 g)) (h1 : ¬ sp < 0) (h2 : ¬ dp < 0) (h3 : ¬ k < 0) (h4 : sp.toNatClampNeg + k.toNatClampNeg ≤ n0) (h5 : dp.toNatClampNeg + k.toNatClampNeg ≤ n1) (hf : Nat.ble 1 R.frames = true) (hlo : Nat.ble (st.length + (nativeFrameWords "java/lang/System" "arraycopy" 5 + 11)) R.locals = true)
    (kk : PW p l e R s m args below meth c G nL Q cells slots (h.set a (eI n1 (va_cpy f g sp.toNatClampNeg dp.toNatClampNeg k.toNatClampNeg))) (pc + 3) ls st) : PW p l e R s m args below meth c G nL Q cells slots h pc ls (vI k :: vI dp :: vR a :: vI sp :: vR a0 :: st) := by
  intro H locs lsA hI hl
  have nn : ∀ z : Int32, ¬ z < 0 → z.toInt = (z.toNatClampNeg : Int) := by
    intro z hz
    have hz0 : (0 : Int) ≤ z.toInt := by
      have := Int32.not_lt.mp hz
      simpa using Int32.le_iff_toInt_le.mp this
    show z.toInt = ((z.toInt.toNat : Nat) : Int)
    omega
  have hts := X.2.2.2.2.1
  intro T hT XX
  have hc0 : H[G.2.2.1 + a0]? = some (vp_cell (G.2.1 0) (n0, .inl f)) := hI.2.1 a0 _ (pw_get hh0)
  have hc1 : H[G.2.2.1 + a]? = some (vp_cell (G.2.1 0) (n1, .inl g)) := hI.2.1 a _ (pw_get hh1)
  obtain ⟨-, k0, hk0, cm0, hkk0⟩ := (X.2.2.2.2.2.1.2 0 _ pT0).1 n0 (fun j => .int (f j))
  obtain ⟨-, k1, hk1, cm1, hkk1⟩ := (X.2.2.2.2.2.1.2 0 _ pT0).1 n1 (fun j => .int (g j))
  obtain ⟨vm', X', step⟩ := XX.arraycopy X.1 X.2.2.2.1 (hts _ w1) (hts _ w2) (hts _ w3) (hts _ w4) (src := G.2.2.1 + a0) (dst := G.2.2.1 + a) (cs := vp_cell (G.2.1 0) (n0, .inl f)) (cd := vp_cell (G.2.1 0) (n1, .inl g)) (srcPos := sp) (destPos := dp) (n := k) (by rw [hT]; exact hc0) (by rw [hT]; exact hc1)
    (fun _ h => by cases h) (fun _ h => by cases h) (fun h => by cases h) (fun h => by cases h) hk0 hk1 hkk0 hkk1 (by rfl) h1 h2 h3
    (by rw [nn sp h1, nn k h3]; show ¬ _ > ((arrV (G.2.1 0) n0 (fun j => .int (f j))).slots.size : Int); rw [arrV_size]; omega)
    (by rw [nn dp h2, nn k h3]; show ¬ _ > ((arrV (G.2.1 0) n1 (fun j => .int (g j))).slots.size : Int); rw [arrV_size]; omega)
    (fun vm₁ _ i hi => by
      have e : (vp_cell (G.2.1 0) (n0, .inl f)).slots.getD (sp.toNatClampNeg + i) .null = .int (f (sp.toNatClampNeg + i)) := by
        show (arrV (G.2.1 0) n0 (fun j => .int (f j))).slots.getD _ _ = _
        rw [Array.getD_eq_getD_getElem?, arrV_read _ _ (by omega)]
        rfl
      refine ⟨?_, ?_⟩
      · rw [e]
        rfl
      · rw [e]
        exact trivial)
    (g := F0 m pc lsA ((vI k :: vI dp :: vR a :: vI sp :: vR a0 :: st).map (pr G))) rfl (by rw [X.2.2.1]; exact hl.1) (rest := st.map (pr G)) rfl (by rw [X.2.1]; exact hd) (Nat.le_of_ble_eq_true hf) (by have := Nat.le_of_ble_eq_true hlo; rw [pr_sum]; show 2 * 0 + _ + _ ≤ _; omega)
  have e1 : copied (vp_cell (G.2.1 0) (n0, .inl f)) (vp_cell (G.2.1 0) (n1, .inl g)) sp dp k = vp_cell (G.2.1 0) (n1, .inl (va_cpy f g sp.toNatClampNeg dp.toNatClampNeg k.toNatClampNeg)) := va_copied (fun z => .int z) (G.2.1 0) (G.2.1 0) f g h4
  rw [e1] at X' step
  have hlt : G.2.2.1 + a < H.size := (Array.getElem?_eq_some_iff.mp hc1).1
  have hheap : ((T.setVm vm').setCell (G.2.2.1 + a) (vp_cell (G.2.1 0) (n1, .inl (va_cpy f g sp.toNatClampNeg dp.toNatClampNeg k.toNatClampNeg)))).heap = H.setIfInBounds (G.2.2.1 + a) (vp_cell (G.2.1 0) (n1, .inl (va_cpy f g sp.toNatClampNeg dp.toNatClampNeg k.toNatClampNeg))) := by rw [← hT]; rfl
  have oq : ∀ q : Nat, q ≠ G.2.2.1 + a → (H.setIfInBounds (G.2.2.1 + a) (vp_cell (G.2.1 0) (n1, .inl (va_cpy f g sp.toNatClampNeg dp.toNatClampNeg k.toNatClampNeg))))[q]? = H[q]? := fun q hq => by simp [Array.getElem?_setIfInBounds, Ne.symm hq]
  have hI2 := pI_put (i := 0) (x' := eI n1 (va_cpy f g sp.toNatClampNeg dp.toNatClampNeg k.toNatClampNeg)) hI hh1 (H1 := H.setIfInBounds (G.2.2.1 + a) (vp_cell (G.2.1 0) (n1, .inl (va_cpy f g sp.toNatClampNeg dp.toNatClampNeg k.toNatClampNeg)))) (by simp) oq (show (H.setIfInBounds _ _)[_]? = some _ by simp [Array.getElem?_setIfInBounds, hlt])
  obtain ⟨t, a1, b1⟩ := kk _ _ lsA (⟨hI2.1, hI2.2.1, hI2.2.2.1, hI2.2.2.2.1, fun q hq => by
      rcases List.mem_append.mp hq with z | z
      · exact hI.2.2.2.2 q z
      · obtain ⟨y, -, hy⟩ := List.mem_map.mp z
        rw [← hy]
        exact Nat.le_add_right _ _⟩) hl _ hheap X'
  exact ⟨t, step t a1, b1⟩
end Calls6
/-! heaps that end in a list of ours: h0 ++ L, h0 of length n; the labels are n + k -/
theorem apG {h0 L : PH} {n k : Nat} {x : PE} (hn : h0.length = n) (hk : L[k]? = some x) : (h0 ++ L)[n + k]? = some x := by
  subst hn
  rw [List.getElem?_append_right (by omega)]
  simpa using hk
theorem apS {h0 L : PH} {n k : Nat} {x : PE} (hn : h0.length = n) : (h0 ++ L).set (n + k) x = h0 ++ L.set k x := by
  subst hn
  rw [List.set_append_right _ _ (by omega)]
  simp
section App6
variable {p : Program} {l : Launch} {e : Env} {R : Room} {s : State} {m : MethodId} {args : Array Value} {below : List Frame} {meth : Method} {c : Code} {G : PG} {nL : Nat} {Q : State → Prop} {cells slots : Nat} {h0 L : PH} {n : Nat} {pc : Nat} {ls : List (Option PV)} {st : List PV} {cc : ByteArray} {own : String}
theorem a_get (X : pX p s m args c G nL cc own) (hn : h0.length = n) {i ci k a : Nat} {fs : List PV} {v : PV} (F : fkG own i ci k) (hd : decode cc pc = .ok (.getfield i, 3)) (hh : L[a]? = some (eO ci fs)) (hv : fs[k]? = some v) (kk : PW p l e R s m args below meth c G nL Q cells slots (h0 ++ L) (pc + 3) ls (v :: st)) : PW p l e R s m args below meth c G nL Q cells slots (h0 ++ L) pc ls (vR (n + a) :: st) := r_get X F hd (apG hn hh) hv kk
theorem a_put (X : pX p s m args c G nL cc own) (hn : h0.length = n) {i ci k a : Nat} {fs : List PV} {v : PV} {t : FieldType} (F : fkP own i ci k t) (hd : decode cc pc = .ok (.putfield i, 3)) (hh : L[a]? = some (eO ci fs)) (hl0 : Nat.ble (k + 1) fs.length = true) (hw : narrow t (pr G v) = pr G v) (hf : fits t (pr G v) = true) (kk : PW p l e R s m args below meth c G nL Q cells slots (h0 ++ L.set a (eO ci (fs.set k v))) (pc + 3) ls st) : PW p l e R s m args below meth c G nL Q cells slots (h0 ++ L) pc ls (v :: vR (n + a) :: st) := r_put X F hd (apG hn hh) (Nat.le_of_ble_eq_true hl0) hw hf (by rw [apS hn]; exact kk)
theorem a_putF (X : pX p s m args c G nL cc own) (hn : h0.length = n) {i ci k a : Nat} {fs : List PV} {v : PV} {t : FieldType} (F : fkF own i ci k t) (hin2 : meth.name = "<init>") (hd : decode cc pc = .ok (.putfield i, 3)) (hh : L[a]? = some (eO ci fs)) (hl0 : Nat.ble (k + 1) fs.length = true) (hw : narrow t (pr G v) = pr G v) (hf : fits t (pr G v) = true) (kk : PW p l e R s m args below meth c G nL Q cells slots (h0 ++ L.set a (eO ci (fs.set k v))) (pc + 3) ls st) : PW p l e R s m args below meth c G nL Q cells slots (h0 ++ L) pc ls (v :: vR (n + a) :: st) := r_putF X F hin2 hd (apG hn hh) (Nat.le_of_ble_eq_true hl0) hw hf (by rw [apS hn]; exact kk)
theorem a_iast (X : pX p s m args c G nL cc own) (hn : h0.length = n) {a N : Nat} {f : Nat → Int32} {i x : Int32} (hd : decode cc pc = .ok (.iastore, 1)) (hh : L[a]? = some (eI N f)) (hin : vp_in i N) (kk : PW p l e R s m args below meth c G nL Q cells slots (h0 ++ L.set a (eI N (upd f i.toNatClampNeg x))) (pc + 1) ls st) : PW p l e R s m args below meth c G nL Q cells slots (h0 ++ L) pc ls (vI x :: vI i :: vR (n + a) :: st) := r_iast X hd (apG hn hh) hin (by rw [apS hn]; exact kk)
theorem a_aast (X : pX p s m args c G nL cc own) (hn : h0.length = n) {a b t N ci M : Nat} {T : u_T} {C : String} {vs : List PV} {f : Nat → Option Nat} {i : Int32} (ht : (pT G)[t]? = some (G.2.1 t, .object C)) (hc : vwCl[ci]? = some (C, T, M)) (hd : decode cc pc = .ok (.aastore, 1)) (hh : L[a]? = some (eR t N f)) (hv : L[b]? = some (eO ci vs)) (hin : vp_in i N) (kk : PW p l e R s m args below meth c G nL Q cells slots (h0 ++ L.set a (eR t N (va_up f i.toNatClampNeg (some (n + b))))) (pc + 1) ls st) : PW p l e R s m args below meth c G nL Q cells slots (h0 ++ L) pc ls (vR (n + b) :: vI i :: vR (n + a) :: st) := r_aast X ht hc hd (apG hn hh) (apG hn hv) hin (by rw [apS hn]; exact kk)
theorem a_newi (X : pX p s m args c G nL cc own) (hn : h0.length = n) {x : Int32} {N k : Nat} (hd : decode cc pc = .ok (.newarray .int, 2)) (hx : ¬ x < 0) (hN : x.toNatClampNeg = N) (hb : Nat.ble (N * 4) 536870912 = true) (hc : Nat.ble (cells + 1) R.cells = true) (hs : Nat.ble (slots + N) R.slots = true) (hk : L.length = k) (kk : PW p l e R s m args below meth c G nL Q (cells + 1) (slots + N) (h0 ++ (L ++ [eI N (fun _ => 0)])) (pc + 2) ls (vR (n + k) :: st)) : PW p l e R s m args below meth c G nL Q cells slots (h0 ++ L) pc ls (vI x :: st) := by
  subst hn; subst hk
  refine r_newi X w_ai hd hx hN (Nat.ble_eq.mp hb) (Nat.ble_eq.mp hc) (Nat.ble_eq.mp hs) ?_
  rw [List.append_assoc, List.length_append]
  exact kk
theorem a_newr (X : pX p s m args c G nL cc own) (hn : h0.length = n) {x : Int32} {N k t i : Nat} {C : String} (ht : (pT G)[t]? = some (G.2.1 t, .object C)) (hw : Cond.classLink own i C ∈ lw_ok) (hao : va_AO C s) (hd : decode cc pc = .ok (.anewarray i, 3)) (hx : ¬ x < 0) (hN : x.toNatClampNeg = N) (hb : Nat.ble (N * 4) 536870912 = true) (hc : Nat.ble (cells + 1) R.cells = true) (hs : Nat.ble (slots + N) R.slots = true) (hk : L.length = k) (kk : PW p l e R s m args below meth c G nL Q (cells + 1) (slots + N) (h0 ++ (L ++ [eR t N (fun _ => none)])) (pc + 3) ls (vR (n + k) :: st)) : PW p l e R s m args below meth c G nL Q cells slots (h0 ++ L) pc ls (vI x :: st) := by
  subst hn; subst hk
  refine r_newr X ht hw hao hd hx hN (Nat.ble_eq.mp hb) (Nat.ble_eq.mp hc) (Nat.ble_eq.mp hs) ?_
  rw [List.append_assoc, List.length_append]
  exact kk
theorem a_new (X : pX p s m args c G nL cc own) (hn : h0.length = n) {i ci N k : Nat} {fs : List PV} (K : nk own i ci N fs) (hd : decode cc pc = .ok (.new i, 3)) (hc : Nat.ble (cells + 1) R.cells = true) (hs : Nat.ble (slots + N) R.slots = true) (hk : L.length = k) (kk : PW p l e R s m args below meth c G nL Q (cells + 1) (slots + N) (h0 ++ (L ++ [eO ci fs])) (pc + 3) ls (vR (n + k) :: st)) : PW p l e R s m args below meth c G nL Q cells slots (h0 ++ L) pc ls st := by
  subst hn; subst hk
  refine r_new X K hd (Nat.ble_eq.mp hc) (Nat.ble_eq.mp hs) ?_
  rw [List.append_assoc, List.length_append]
  exact kk
end App6
theorem ndiv {x y : Int32} {a b : Nat} (h1 : x = nI a) (ha : a < 2 ^ 31) (h0 : 0 < b) (hb : b < 2 ^ 31) (h2 : y = nI b := by rfl) : x / y = nI (a / b) := by rw [h1, h2, pk_div ha h0 hb]
theorem nrem {x y : Int32} {a b : Nat} (h1 : x = nI a) (ha : a < 2 ^ 31) (h0 : 0 < b) (hb : b < 2 ^ 31) (h2 : y = nI b := by rfl) : x - x / y * y = nI (a % b) := by rw [h1, h2, pk_rem ha h0 hb]
theorem nsub {x y : Int32} {a c : Nat} (h : x = nI (a + c)) (h2 : y = nI c) : x - y = nI a := by rw [h, h2, pk_sub (by omega)]; congr 1; omega
theorem nmul {x y : Int32} {a b : Nat} (h1 : x = nI a) (h2 : y = nI b) : x * y = nI (a * b) := by rw [h1, h2, pk_mul]
theorem vinT {x : Int32} {N : Nat} (h1 : 0 ≤ x.toInt) (h2 : x.toInt < N) : vp_in x N := vp_in_iff.mpr ⟨h1, h2⟩
theorem inK {i : Int32} {n : Nat} (h : (!(decide (i < 0)) && Nat.ble (i.toNatClampNeg + 1) n) = true) : vp_in i n := by
  simp only [Bool.and_eq_true, Bool.not_eq_true', decide_eq_false_iff_not, Nat.ble_eq] at h
  rintro (q | q)
  · exact h.1 q
  · omega
