/-! THE READER'S WORDS: a String constant of 131 letters (vS 4), its bytes (vS 5), the JDK's length and charAt over it -/
section Str
variable {p : Program} {l : Launch} {e : Env} {R : Room} {s : State} {m : MethodId} {args : Array Value} {below : List Frame} {meth : Method} {c : Code} {G : PG} {nL : Nat} {Q : State → Prop} {cells slots : Nat} {h : PH} {pc : Nat} {ls : List (Option PV)} {st : List PV} {cc : ByteArray} {own : String}
theorem pS_of (X : pX p s m args c G nL cc own) : pStr G s := X.2.2.2.2.2.2.2.2.2.2.2.2
theorem r_ldcS (X : pX p s m args c G nL cc RX5) (hd : decode cc pc = .ok (.ldc 93, 2)) (k : PW p l e R s m args below meth c G nL Q cells slots h (pc + 2) ls (vS 4 :: st)) : PW p l e R s m args below meth c G nL Q cells slots h pc ls st := by
  intro H locs lsA hI hl
  exact va_ldcS X.1 X.2.1 X.2.2.2.1 (pS_of X).1 hd (k H locs lsA hI hl)
theorem r_aloadS (X : pX p s m args c G nL cc own) {i : Fin 4} {j : Nat} (hd : decode cc pc = .ok (.aload_n i, 1)) (hk : ls[(i : Nat)]? = some (some (vS j))) (k : PW p l e R s m args below meth c G nL Q cells slots h (pc + 1) ls (vS j :: st)) : PW p l e R s m args below meth c G nL Q cells slots h pc ls st := by
  intro H locs lsA hI hl
  exact lv_aload_n X.1 X.2.1 hd rfl (pl_at hl hk) (k H locs lsA hI hl)
theorem r_gval (X : pX p s m args c G nL cc RJ0) (hd : decode cc pc = .ok (.getfield 9, 3)) (k : PW p l e R s m args below meth c G nL Q cells slots h (pc + 3) ls (vS 5 :: st)) : PW p l e R s m args below meth c G nL Q cells slots h pc ls (vS 4 :: st) := by
  intro H locs lsA hI hl
  exact vk_getf X.1 X.2.1 ((pS_of X).2.1.1 0 (by decide)).2.2.1 hI.2.2 X.2.2.2.1 (X.2.2.2.2.1 (Cond.fieldLink RJ0 9 "java/lang/String" "value" "[B") (ok_8 172 rfl rfl)) (fun _ z => z) hd (k H locs lsA hI hl)
theorem r_gcod (X : pX p s m args c G nL cc RJ0) (hd : decode cc pc = .ok (.getfield 15, 3)) (k : PW p l e R s m args below meth c G nL Q cells slots h (pc + 3) ls (vI 0 :: st)) : PW p l e R s m args below meth c G nL Q cells slots h pc ls (vS 4 :: st) := by
  intro H locs lsA hI hl
  exact vk_getf X.1 X.2.1 ((pS_of X).2.1.1 0 (by decide)).2.1 hI.2.2 X.2.2.2.1 (X.2.2.2.2.1 (Cond.fieldLink RJ0 15 "java/lang/String" "coder" "B") (ok_8 173 rfl rfl)) (fun _ z => z) hd (k H locs lsA hI hl)
theorem r_gcs (X : pX p s m args c G nL cc RJ0) (hd : decode cc pc = .ok (.getstatic 38, 3)) (k : PW p l e R s m args below meth c G nL Q cells slots h (pc + 3) ls (vI 1 :: st)) : PW p l e R s m args below meth c G nL Q cells slots h pc ls st := by
  intro H locs lsA hI hl
  exact va_gets X.1 X.2.1 (pS_of X).2.2.1 hI.2.2 X.2.2.2.1 (X.2.2.2.2.1 (Cond.fieldLink RJ0 38 "java/lang/String" "COMPACT_STRINGS" "Z") (ok_3 122 rfl rfl)) (fun _ z => z) hd (k H locs lsA hI hl)
theorem r_gfm (X : pX p s m args c G nL cc RJ0) (hd : decode cc pc = .ok (.getstatic 1053, 3)) (k : PW p l e R s m args below meth c G nL Q cells slots h (pc + 3) ls (pFm G :: st)) : PW p l e R s m args below meth c G nL Q cells slots h pc ls st := by
  intro H locs lsA hI hl
  exact va_gets X.1 X.2.1 (pS_of X).2.2.2 hI.2.2 X.2.2.2.1 (X.2.2.2.2.1 (Cond.fieldLink RJ0 1053 "jdk/internal/util/Preconditions" "SIOOBE_FORMATTER" "Ljava/util/function/BiFunction;") (ok_3 138 rfl rfl)) (fun _ z => z) hd (k H locs lsA hI hl)
theorem r_blen (X : pX p s m args c G nL cc own) (hd : decode cc pc = .ok (.arraylength, 1)) (k : PW p l e R s m args below meth c G nL Q cells slots h (pc + 1) ls (vI 131 :: st)) : PW p l e R s m args below meth c G nL Q cells slots h pc ls (vS 5 :: st) := by
  intro H locs lsA hI hl
  exact va_tlen X.1 X.2.1 ((pS_of X).2.1.1 0 (by decide)).2.2.2 hI.2.2 (v := 131) (by decide) hd (k H locs lsA hI hl)
theorem r_bald (X : pX p s m args c G nL cc own) {i v : Int32} (hd : decode cc pc = .ok (.baload, 1)) (hin : vp_in i 131) (hv : sByt.getD i.toNatClampNeg 0 = v) (k : PW p l e R s m args below meth c G nL Q cells slots h (pc + 1) ls (vI v :: st)) : PW p l e R s m args below meth c G nL Q cells slots h pc ls (vI i :: vS 5 :: st) := by
  intro H locs lsA hI hl
  exact va_tb X.1 X.2.1 ((pS_of X).2.1.1 0 (by decide)).2.2.2 hI.2.2 hin (v := .int v) (by rw [← hv]; rfl) hd (k H locs lsA hI hl)
theorem r_i2c (X : pX p s m args c G nL cc own) {x v : Int32} (hd : decode cc pc = .ok (.i2c, 1)) (hv : (x.toUInt32 % 65536).toInt32 = v) (k : PW p l e R s m args below meth c G nL Q cells slots h (pc + 1) ls (vI v :: st)) : PW p l e R s m args below meth c G nL Q cells slots h pc ls (vI x :: st) := by
  intro H locs lsA hI hl
  exact lv_i2c X.1 X.2.1 hd hv (k H locs lsA hI hl)
theorem r_ret_n {Φ : Option PV → PH → Prop} {mc ms : Nat} {ty : FieldType} (X : pX p s m args c G nL cc own) (hr : meth.sig.returnType = some ty) (hlk : meth.locks = false) {v : Int32} (hv : narrow ty (.int v) = .int v) (hd : decode cc pc = .ok (.ireturn, 1)) (hc : cells ≤ mc) (hs : slots ≤ ms) (hΦ : Φ (some (vI v)) h) : PW p l e R s m args below meth c G nL (MQ below (pQ G Φ) args s mc ms (pF G)) cells slots h pc ls [vI v] := by
  intro H locs lsA hI hl
  refine W.widen hc hs ?_
  exact W.zret X.1 X.2.1 hr hv (fun t ht hW => ⟨⟨some (vI v), h, rfl, hΦ, by rw [ht]; exact hI.1, by rw [ht]; exact hI.2.1⟩, hI.2.2.F ht⟩) hI.2.2.2.2 hd hlk
theorem r_callVs (X : pX p s m args c G nL cc own) {i : Nat} {y : MethodName} {bytes : ByteArray} {maxL : Nat} {ret : Option FieldType} {n d mc ms : Nat} {Φ : Option PV → PH → Prop} {As rest stk : List PV} (K : lkV own i y bytes maxL ret n) (hyc : y.cls = RJ0) (hd : decode cc pc = .ok (.invokevirtual i, 3)) (hs : stk = As.reverse ++ vS 4 :: rest) (hn : As.length = n) (hM : PMet l G y bytes maxL ret d mc ms (vS 4 :: As) h Φ) (hR : d + 1 ≤ R.frames ∧ 8 + (maxL + 11) + 64 * d ≤ R.locals) (hw : rest.length ≤ 8) (hcs : cells + mc ≤ R.cells ∧ slots + ms ≤ R.slots)
    (k : ∀ r h', Φ r h' → PW p l e R s m args below meth c G nL Q (cells + mc) (slots + ms) h' (pc + 3) ls (r.toList ++ rest)) : PW p l e R s m args below meth c G nL Q cells slots h pc ls stk := by
  intro H locs lsA hI hl
  subst hs
  obtain ⟨⟨w1, w2, w3, hy⟩, w4, w5⟩ := K
  have hts := X.2.2.2.2.1
  have cb : CallB R s args own i y bytes maxL ret (.code y bytes maxL ret :: lw_ok) (rmD d mc ms) mc ms n := callB_of n hts (ok_goodIn w3) rfl rfl rfl (hts _ w2) (hts _ w1) hy hR
  have hv : ∃ cell : Cell, H[G.2.2.2 4]? = some cell ∧ cell.vm.isStatics = false ∧ s.vm.findClass y.cls = some cell.cls := by
    rw [hyc]
    exact vk_recv (i := 0) (pS_of X).2.1 (by decide) hI.2.2
  refine pw_after (l' := fun _ => True) (rest := rest) (va_runV (Ts := lw_ok) (As := As.map (pr G)) (b := G.2.2.2 4) ⟨X.1, X.2.1, X.2.2.1, X.2.2.2.1, hts⟩ hM ⟨cb, hts _ w4, hts _ w5⟩ ⟨pP_blind, hv, fun U hU hW => pP_at (av := vS 4 :: As) X.2.2.2.2.2 hI hU hW⟩ rfl (by rw [List.length_map]; exact hn) hl.1 ?_ ?_ hd hcs) hI hl k
  · show List.map (pr G) (As.reverse ++ vS 4 :: rest) = _
    rw [List.map_append, List.map_reverse]
    rfl
  · rw [pr_sum]
    show 2 * 0 + rest.length ≤ 8
    omega
theorem r_Vs0i (X : pX p s m args c G nL cc own) {i : Nat} {y : MethodName} {bytes : ByteArray} {maxL d mc ms : Nat} {ret : Option FieldType} {Ψ : Int32 → PH → Prop} (K : lkV own i y bytes maxL ret 0) (hyc : y.cls = RJ0) (hd : decode cc pc = .ok (.invokevirtual i, 3)) (hM : PMet l G y bytes maxL ret d mc ms [vS 4] h (qI Ψ)) (hq : chkC R d maxL st.length cells slots mc ms = true)
    (k : ∀ x h', Ψ x h' → PW p l e R s m args below meth c G nL Q (cells + mc) (slots + ms) h' (pc + 3) ls (vI x :: st)) : PW p l e R s m args below meth c G nL Q cells slots h pc ls (vS 4 :: st) :=
  r_callVs X K hyc hd (As := []) rfl rfl hM (chkC_ok hq).1 (chkC_ok hq).2.1 (chkC_ok hq).2.2 (by rintro r h' ⟨x, rfl, hx⟩; exact k x h' hx)
theorem r_Vs1i (X : pX p s m args c G nL cc own) {i : Nat} {y : MethodName} {bytes : ByteArray} {maxL d mc ms : Nat} {ret : Option FieldType} {a1 : PV} {Ψ : Int32 → PH → Prop} (K : lkV own i y bytes maxL ret 1) (hyc : y.cls = RJ0) (hd : decode cc pc = .ok (.invokevirtual i, 3)) (hM : PMet l G y bytes maxL ret d mc ms [vS 4, a1] h (qI Ψ)) (hq : chkC R d maxL st.length cells slots mc ms = true)
    (k : ∀ x h', Ψ x h' → PW p l e R s m args below meth c G nL Q (cells + mc) (slots + ms) h' (pc + 3) ls (vI x :: st)) : PW p l e R s m args below meth c G nL Q cells slots h pc ls (a1 :: vS 4 :: st) :=
  r_callVs X K hyc hd (As := [a1]) rfl rfl hM (chkC_ok hq).1 (chkC_ok hq).2.1 (chkC_ok hq).2.2 (by rintro r h' ⟨x, rfl, hx⟩; exact k x h' hx)
end Str
theorem sByt_ok {j : Nat} (hj : j < 131) : (((sByt.getD j 0) &&& 255).toUInt32 % 65536).toInt32 = sByt.getD j 0 ∧ narrow .char (.int (sByt.getD j 0)) = .int (sByt.getD j 0) ∧ 32 ≤ (sByt.getD j 0).toInt ∧ (sByt.getD j 0).toInt ≤ 122 := by
  have hA : ∀ x ∈ sByt, ((x &&& 255).toUInt32 % 65536).toInt32 = x ∧ narrow .char (.int x) = .int x ∧ 32 ≤ x.toInt ∧ x.toInt ≤ 122 := by decide +kernel
  have hl : sByt.length = 131 := by decide +kernel
  refine hA _ ?_
  rw [List.getD, List.getElem?_eq_getElem (by omega)]
  exact List.getElem_mem _
theorem c_Jcoder {l : Launch} {G : PG} {h : PH} : PMet l G yJ0_coder_7d493 cJ0_coder_7d493 1 (some .byte) 0 0 0 [vS 4] h (qI fun x h' => x = 0 ∧ h' = h) := by
  refine PMet.intro rfl (Nat.le_refl _) ?_
  intro p e s m args below meth c X hr hlk hnm
  refine r_gcs X dJ0_coder_7d493_0 ?_
  refine r_if_eq_f X dJ0_coder_7d493_3 (tgt := 13) rfl (by decide) ?_
  refine r_aloadS X dJ0_coder_7d493_6 rfl ?_
  refine r_gcod X dJ0_coder_7d493_7 ?_
  refine r_goto X dJ0_coder_7d493_10 (tgt := 14) rfl ?_
  exact r_ret_n X hr hlk (by decide) dJ0_coder_7d493_14 (Nat.le_refl _) (Nat.le_refl _) ⟨0, rfl, rfl, rfl⟩
theorem c_Jlatin {l : Launch} {G : PG} {h : PH} : PMet l G yJ0_isLatin1_aae02 cJ0_isLatin1_aae02 1 (some .boolean) 0 0 0 [vS 4] h (qI fun x h' => x = 1 ∧ h' = h) := by
  refine PMet.intro rfl (Nat.le_refl _) ?_
  intro p e s m args below meth c X hr hlk hnm
  refine r_gcs X dJ0_isLatin1_aae02_0 ?_
  refine r_if_eq_f X dJ0_isLatin1_aae02_3 (tgt := 17) rfl (by decide) ?_
  refine r_aloadS X dJ0_isLatin1_aae02_6 rfl ?_
  refine r_gcod X dJ0_isLatin1_aae02_7 ?_
  refine r_if_ne_f X dJ0_isLatin1_aae02_10 (tgt := 17) rfl rfl ?_
  refine r_iconst X dJ0_isLatin1_aae02_13 (v := 1) rfl ?_
  refine r_goto X dJ0_isLatin1_aae02_14 (tgt := 18) rfl ?_
  exact r_ret_n X hr hlk (by decide) dJ0_isLatin1_aae02_18 (Nat.le_refl _) (Nat.le_refl _) ⟨1, rfl, rfl, rfl⟩
theorem c_Jpre {l : Launch} {G : PG} {h : PH} {i n : Int32} (w : PV) (h0 : ¬ i < 0) (h1 : i < n) : PMet l G yJ3_checkIndex_8e157 cJ3_checkIndex_8e157 3 (some .int) 0 0 0 [vI i, vI n, w] h (qI fun _ h' => h' = h) := by
  refine PMet.intro rfl (Nat.le_refl _) ?_
  intro p e s m args below meth c X hr hlk hnm
  refine r_iload_n X dJ3_checkIndex_8e157_0 rfl ?_
  refine r_if_lt_f X dJ3_checkIndex_8e157_1 (tgt := 9) rfl h0 ?_
  refine r_iload_n X dJ3_checkIndex_8e157_4 rfl ?_
  refine r_iload_n X dJ3_checkIndex_8e157_5 rfl ?_
  refine r_icmp_lt_t X dJ3_checkIndex_8e157_6 (tgt := 16) rfl h1 ?_
  refine r_iload_n X dJ3_checkIndex_8e157_16 rfl ?_
  exact r_ret_i X hr hlk dJ3_checkIndex_8e157_17 (Nat.le_refl _) (Nat.le_refl _) ⟨i, rfl, rfl⟩
theorem c_Jchk {l : Launch} {G : PG} {h : PH} {i n : Int32} (h0 : ¬ i < 0) (h1 : i < n) : PMet l G yJ0_checkIndex_df160 cJ0_checkIndex_df160 2 none 1 0 0 [vI i, vI n] h (qV fun h' => h' = h) := by
  refine PMet.intro rfl (Nat.le_refl _) ?_
  intro p e s m args below meth c X hr hlk hnm
  refine r_iload_n X dJ0_checkIndex_df160_0 rfl ?_
  refine r_iload_n X dJ0_checkIndex_df160_1 rfl ?_
  refine r_gfm X dJ0_checkIndex_df160_2 ?_
  refine r_S3i X ks_J0_1059 dJ0_checkIndex_df160_5 (c_Jpre _ h0 h1) (by decide +kernel) ?_
  intro x h' e
  subst e
  refine r_pop X dJ0_checkIndex_df160_8 ?_
  exact r_ret_v X hr hlk dJ0_checkIndex_df160_9 (Nat.le_refl _) (Nat.le_refl _) ⟨rfl, rfl⟩
theorem c_Jlat {l : Launch} {G : PG} {h : PH} {i : Int32} (hin : vp_in i 131) (h0 : ¬ i < 0) (h1 : i < 131) : PMet l G yJ1_charAt_3b067 cJ1_charAt_3b067 2 (some .char) 2 0 0 [vS 5, vI i] h (qI fun x h' => x = sByt.getD i.toNatClampNeg 0 ∧ h' = h) := by
  have hk : i.toNatClampNeg < 131 := by
    have := Int32.lt_iff_toInt_lt.mp h1
    have h2 : (131 : Int32).toInt = 131 := rfl
    show i.toInt.toNat < 131
    omega
  refine PMet.intro rfl (Nat.le_refl _) ?_
  intro p e s m args below meth c X hr hlk hnm
  refine r_iload_n X dJ1_charAt_3b067_0 rfl ?_
  refine r_aloadS X dJ1_charAt_3b067_1 rfl ?_
  refine r_blen X dJ1_charAt_3b067_2 ?_
  refine r_S2v X ks_J1_9 dJ1_charAt_3b067_3 (c_Jchk h0 h1) (by decide +kernel) ?_
  intro h' e
  subst e
  refine r_aloadS X dJ1_charAt_3b067_6 rfl ?_
  refine r_iload_n X dJ1_charAt_3b067_7 rfl ?_
  refine r_bald X dJ1_charAt_3b067_8 hin rfl ?_
  refine r_sipush X dJ1_charAt_3b067_9 (v := 255) rfl ?_
  refine r_iand X dJ1_charAt_3b067_12 ?_
  refine r_i2c X dJ1_charAt_3b067_13 (sByt_ok hk).1 ?_
  exact r_ret_n X hr hlk (sByt_ok hk).2.1 dJ1_charAt_3b067_14 (Nat.le_refl _) (Nat.le_refl _) ⟨_, rfl, rfl, rfl⟩
theorem c_Jchar {l : Launch} {G : PG} {h : PH} {i : Int32} (hin : vp_in i 131) (h0 : ¬ i < 0) (h1 : i < 131) : PMet l G yJ0_charAt_5068e cJ0_charAt_5068e 2 (some .char) 3 0 0 [vS 4, vI i] h (qI fun x h' => x = sByt.getD i.toNatClampNeg 0 ∧ h' = h) := by
  have hk : i.toNatClampNeg < 131 := by
    have := Int32.lt_iff_toInt_lt.mp h1
    have h2 : (131 : Int32).toInt = 131 := rfl
    show i.toInt.toNat < 131
    omega
  refine PMet.intro rfl (Nat.le_refl _) ?_
  intro p e s m args below meth c X hr hlk hnm
  refine r_aloadS X dJ0_charAt_5068e_0 rfl ?_
  refine r_Vs0i X kv_J0_492 rfl dJ0_charAt_5068e_1 c_Jlatin (by decide +kernel) ?_
  rintro x h' ⟨rfl, rfl⟩
  refine r_if_eq_f X dJ0_charAt_5068e_4 (tgt := 16) rfl (by decide) ?_
  refine r_aloadS X dJ0_charAt_5068e_7 rfl ?_
  refine r_gval X dJ0_charAt_5068e_8 ?_
  refine r_iload_n X dJ0_charAt_5068e_11 rfl ?_
  refine r_S2i X ks_J0_495 dJ0_charAt_5068e_12 (c_Jlat hin h0 h1) (by decide +kernel) ?_
  rintro x h' ⟨rfl, rfl⟩
  exact r_ret_n X hr hlk (sByt_ok hk).2.1 dJ0_charAt_5068e_15 (Nat.le_refl _) (Nat.le_refl _) ⟨_, rfl, rfl, rfl⟩
theorem c_Jlen {l : Launch} {G : PG} {h : PH} : PMet l G yJ0_length_8abf5 cJ0_length_8abf5 1 (some .int) 1 0 0 [vS 4] h (qI fun x h' => x = 131 ∧ h' = h) := by
  refine PMet.intro rfl (Nat.le_refl _) ?_
  intro p e s m args below meth c X hr hlk hnm
  refine r_aloadS X dJ0_length_8abf5_0 rfl ?_
  refine r_gval X dJ0_length_8abf5_1 ?_
  refine r_blen X dJ0_length_8abf5_4 ?_
  refine r_aloadS X dJ0_length_8abf5_5 rfl ?_
  refine r_Vs0i X kv_J0_335 rfl dJ0_length_8abf5_6 c_Jcoder (by decide +kernel) ?_
  rintro x h' ⟨rfl, rfl⟩
  refine r_ishr X dJ0_length_8abf5_9 ?_
  exact r_ret_i X hr hlk dJ0_length_8abf5_10 (Nat.le_refl _) (Nat.le_refl _) ⟨_, rfl, by decide, rfl⟩
