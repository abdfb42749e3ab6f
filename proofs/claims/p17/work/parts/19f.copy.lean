/-! Arrays.copyOf over an int array, both ways: a clone if the length is the array's own -/
section Cln
variable {p : Program} {l : Launch} {e : Env} {R : Room} {s : State} {m : MethodId} {args : Array Value} {below : List Frame} {meth : Method} {c : Code} {G : PG} {nL : Nat} {Q : State → Prop} {cells slots : Nat} {h : PH} {pc : Nat} {ls : List (Option PV)} {st : List PV} {cc : ByteArray} {own : String}
theorem r_clone (X : pX p s m args c G nL cc RJ7) {a N : Nat} {f : Nat → Int32} (hd : decode cc pc = .ok (.invokevirtual 316, 3)) (hh : h[a]? = some (eI N f)) (hf : 1 ≤ R.frames) (hlo : st.length + 14 ≤ R.locals) (hc : cells + 1 ≤ R.cells) (hs : slots + N ≤ R.slots)
    (kk : PW p l e R s m args below meth c G nL Q (cells + 1) (slots + N) (h ++ [eI N f]) (pc + 3) ls (vR h.length :: st)) : PW p l e R s m args below meth c G nL Q cells slots h pc ls (vR a :: st) := by
  intro H locs lsA hI hl
  have hts := X.2.2.2.2.1
  have hKt := X.2.2.2.2.2.1.2 0 _ pT0
  have hnm : s.vm.findClass "[I" = some (G.2.1 0) := hKt.2
  have hce : H[G.2.2.1 + a]? = some (vp_cell (G.2.1 0) (N, .inl f)) := hI.2.1 a _ (pw_get hh)
  have hsz : (vp_cell (G.2.1 0) (N, .inl f)).slots.size = N := arrV_size _ _ _
  obtain ⟨c0, t0', f1, f2, f3⟩ := Cond.castable_spec (va_Nw.use (A := args) rfl (X.2.2.2.2.2.2.1 (Cond.castable "[I" "java/lang/Cloneable") (List.mem_of_getElem? (i := 10) rfl)))
  cases hnm.symm.trans f1
  intro T hT XX
  obtain ⟨-, kA, hkA, comp, hkind⟩ := State.isArrayOf_alike XX.warmed.alike (hKt.1 0 (fun _ => .null))
  obtain ⟨-, kS, hkS, compS, hkindS⟩ := hKt.1 0 (fun _ => .null)
  obtain ⟨vm', X', stp⟩ := XX.cloneArray X.1 (own := RJ7) (ad := "[I") (index := 316) X.2.2.2.1 (hts _ (ok_3 225 rfl rfl)) (hts _ (ok_3 226 rfl rfl)) (hts _ (ok_3 227 rfl rfl)) (hts _ (ok_3 228 rfl rfl)) (hts _ (ok_3 229 rfl rfl)) (a := G.2.2.1 + a) (cell := vp_cell (G.2.1 0) (N, .inl f)) (by rw [hT]; exact hce) (fun k h => by cases h) (fun h => by cases h) hnm f2 f3
    (fun i v hv => by
      have hk' : T.vm.classes[G.2.1 0]? = some kA := hkA
      obtain ⟨hi, hv⟩ := Array.getElem?_eq_some_iff.mp hv
      have hv2 : ∃ x, v = Value.int x := ⟨f i, by rw [← hv]; simp [vp_cell, arrV]⟩
      obtain ⟨x, rfl⟩ := hv2
      show T.fitsSlot (G.2.1 0) .none i (.int x) = true
      simp [State.fitsSlot, State.slotType?, hk', hkind, fits])
    (g := F0 m pc lsA ((vR a :: st).map (pr G))) rfl (by rw [X.2.2.1]; exact hl.1) (rest := st.map (pr G)) rfl (by rw [X.2.1]; exact hd) hf (by rw [pr_sum]; show 2 * 0 + st.length + 14 ≤ _; omega) hc (by rw [hsz]; exact hs) (hloader := Vm.clonesLoader_of_array hkS hkindS)
  rw [hsz] at X'
  generalize hH1 : H.push (vp_cell (G.2.1 0) (N, .inl f)) = H1
  have z1 : H1.size = H.size + 1 := by rw [← hH1, Array.size_push]
  have e1 : H1[H.size]? = some (vp_cell (G.2.1 0) (N, .inl f)) := by rw [← hH1, Array.getElem?_push_size]
  have o1 : ∀ q : Nat, q < H.size → H1[q]? = H[q]? := fun q hq => by rw [← hH1, Array.getElem?_push, if_neg (Nat.ne_of_lt hq)]
  obtain ⟨t, b1, b2⟩ := kk H1 locs lsA (pI_new (x := eI N f) X.2.2.2.2.2.2.2.2.2.2.2.1 hI z1 o1 (by rw [← hI.1]; exact e1)) hl ((T.setVm vm').pushCell (vp_cell (G.2.1 0) (N, .inl f))) (by rw [← hH1, ← hT]; rfl) X'
  refine ⟨t, stp t ?_, b2⟩
  have hsz2 : T.heap.size = G.2.2.1 + h.length := by rw [hT]; exact hI.1
  rw [hsz2]
  exact b1
theorem r_castI (X : pX p s m args c G nL cc RJ7) {a N : Nat} {f : Nat → Int32} (hd : decode cc pc = .ok (.checkcast 317, 3)) (hh : h[a]? = some (eI N f))
    (kk : PW p l e R s m args below meth c G nL Q cells slots h (pc + 3) ls (vR a :: st)) : PW p l e R s m args below meth c G nL Q cells slots h pc ls (vR a :: st) := by
  intro H locs lsA hI hl
  exact va_castA (nm := "[I") X.1 X.2.1 X.2.2.2.1 (X.2.2.2.2.1 (Cond.classLink RJ7 317 "[I") (ok_3 231 rfl rfl)) hI.2.1 a (pw_get hh) (X.2.2.2.2.2.1.2 0 _ pT0).2 hd (kk H locs lsA hI hl)
end Cln
/-- what copyOf answers: the first k of the array, zeros behind -/
def cpO (N k : Nat) (f : Nat → Int32) : Nat → Int32 := if k = N then f else va_cpy f (fun _ => 0) 0 0 (Nat.min N k)
theorem cp_ofK {k : Nat} (hk : k ≤ 1000) : (nI k).toInt = (k : Int) ∧ (nI k).toNatClampNeg = k ∧ ¬ nI k < 0 := by
  have h1 : (nI k).toInt = (k : Int) := nI_toInt (by omega)
  refine ⟨h1, by show (nI k).toInt.toNat = k; omega, fun z => ?_⟩
  have := Int32.lt_iff_toInt_lt.mp z
  have h2 : (0 : Int32).toInt = 0 := rfl
  omega
theorem c_copyOf {l : Launch} {G : PG} {h : PH} {a N K M : Nat} {f : Nat → Int32} (hh : h[a]? = some (eI N f)) (hN : N ≤ 1000) (hK : K ≤ 1000) (hM : K ≤ M) : PMet l G yJ7_copyOf_59c91 cJ7_copyOf_59c91 3 (some (.array .int)) 1 1 M [vR a, vI (nI K)] h (qA fun v h' => v = some h.length ∧ h' = h ++ [eI K (cpO N K f)]) := by
  have hal : a < h.length := (List.getElem?_eq_some_iff.mp hh).1
  have kN := cp_ofK hN
  have kK := cp_ofK hK
  have z0 : (0 : Int32).toNatClampNeg = 0 := by decide
  refine PMet.intro rfl (show 2 ≤ 3 by decide) ?_
  intro p e s m args below meth c X hr hlk hnm
  refine r_iload_n X dJ7_copyOf_59c91_0 rfl ?_
  refine r_aload_n X dJ7_copyOf_59c91_1 rfl ?_
  refine r_alen X dJ7_copyOf_59c91_2 hh (v := nI N) rfl ?_
  by_cases hKN : K = N
  · subst hKN
    refine r_icmp_ne_f X dJ7_copyOf_59c91_3 (tgt := 14) rfl rfl ?_
    refine r_aload_n X dJ7_copyOf_59c91_6 rfl ?_
    refine r_clone X dJ7_copyOf_59c91_7 hh (Nat.le_refl 1) (show 0 + 14 ≤ 64 by decide) (Nat.le_refl 1) (show 0 + K ≤ M by omega) ?_
    refine r_castI X dJ7_copyOf_59c91_10 (N := K) (f := f) (by simp) ?_
    exact r_ret_a X hr (Or.inr ⟨_, rfl⟩) hlk (v := some h.length) dJ7_copyOf_59c91_13 (Nat.le_refl 1) (show 0 + K ≤ M by omega) ⟨some h.length, rfl, rfl, by simp [cpO]⟩
  · have hne : ¬ nI K = nI N := fun z => by
      have := congrArg Int32.toInt z
      rw [kN.1, kK.1] at this
      omega
    refine r_icmp_ne_t X dJ7_copyOf_59c91_3 (tgt := 14) rfl hne ?_
    refine r_iload_n X dJ7_copyOf_59c91_14 rfl ?_
    refine r_newi X (ok_1 89 rfl rfl) dJ7_copyOf_59c91_15 (N := K) kK.2.2 kK.2.1 (by omega) (Nat.le_refl 1) (show 0 + K ≤ M by omega) ?_
    have g0 : (h ++ [eI K (fun _ => 0)])[a]? = some (eI N f) := by rw [List.getElem?_append_left hal]; exact hh
    have g1 : (h ++ [eI K (fun _ => 0)])[h.length]? = some (eI K (fun _ => 0)) := by simp
    refine r_astore_n X dJ7_copyOf_59c91_17 (by decide) ?_
    refine r_aload_n X dJ7_copyOf_59c91_18 rfl ?_
    refine r_iconst X dJ7_copyOf_59c91_19 (v := 0) rfl ?_
    refine r_aload_n X dJ7_copyOf_59c91_20 rfl ?_
    refine r_iconst X dJ7_copyOf_59c91_21 (v := 0) rfl ?_
    refine r_aload_n X dJ7_copyOf_59c91_22 rfl ?_
    refine r_alen X dJ7_copyOf_59c91_23 g0 (v := nI N) rfl ?_
    refine r_iload_n X dJ7_copyOf_59c91_24 rfl ?_
    have hmin : (if nI K < nI N then nI K else nI N) = nI (Nat.min N K) := by
      by_cases hlt : K < N
      · rw [if_pos (Int32.lt_iff_toInt_lt.mpr (by rw [kN.1, kK.1]; omega)), show Nat.min N K = K from Nat.min_eq_right (by omega)]
      · rw [if_neg (fun z => by have := Int32.lt_iff_toInt_lt.mp z; rw [kN.1, kK.1] at this; omega), show Nat.min N K = N from Nat.min_eq_left (by omega)]
    have hmn : Nat.min N K ≤ N ∧ Nat.min N K ≤ K := ⟨Nat.min_le_left _ _, Nat.min_le_right _ _⟩
    have kM := cp_ofK (k := Nat.min N K) (by omega)
    refine r_min X ks_J7_304.1.1 dJ7_copyOf_59c91_25 (show chkC (rmD 1 1 M) 0 2 5 (0 + 1) (0 + K) 0 0 = true from ?_) hmin ?_
    · simp only [chkC, rmD, Bool.and_eq_true, Nat.ble_eq]
      omega
    refine r_copy X lc_J7_150 w_acn w_acs w_aci dJ7_copyOf_59c91_28 g0 g1 (by decide) (by decide) kM.2.2 (by rw [z0, kM.2.1]; omega) (by rw [z0, kM.2.1]; omega) rfl rfl ?_
    refine r_aload_n X dJ7_copyOf_59c91_31 rfl ?_
    refine r_ret_a X hr (Or.inr ⟨_, rfl⟩) hlk (v := some h.length) dJ7_copyOf_59c91_32 (Nat.le_refl 1) (show 0 + K ≤ M by omega) ⟨some h.length, rfl, rfl, ?_⟩
    rw [z0, kM.2.1, List.set_append_right _ _ (Nat.le_refl _), Nat.sub_self]
    simp [cpO, hKN]
