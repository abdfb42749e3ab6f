/-! wordOf of the class: the words are a String constant -/
section WordOf
variable {p : Program} {l : Launch} {e : Env} {s : State} {m : MethodId} {args : Array Value} {below : List Frame} {meth : Method} {c : Code} {G : PG} {h : PH}
theorem wo_loop (X : pX p s m args c G 8 cX5_wordOf RX5) (hr : meth.sig.returnType = some .int) (hlk : meth.locks = false) {b a N : Nat} {fs : List PV} {f : Nat → Int32} {fr to n : Int32} (hb : h[b]? = some (eO 5 fs)) (hs : fs[0]? = some (vR a)) (hc : fs[2]? = some (vI n)) (ha : h[a]? = some (eI N f)) (hn : n.toInt ≤ N) (h0 : 0 ≤ fr.toInt) (h1 : fr.toInt ≤ 400) :
    ∀ (t i : Nat), i + t = 131 → ∀ (x3 x4 x5 : Int32) (w7 : Option PV), 0 ≤ x4.toInt → x4.toInt ≤ 400 + i →
      PW p l e (rmD 8 0 0) s m args below meth c G 8 (MQ below (pQ G (qI fun _ h' => h' = h)) args s 0 0 (pF G)) 0 0 h 13 [some (vR b), some (vI fr), some (vI to), some (vI x3), some (vI x4), some (vI x5), some (vI (nI i)), w7] [] := by
  intro t
  induction t with
  | zero =>
    intro i hi x3 x4 x5 w7 h4 h5
    have e1 : i = 131 := by omega
    subst e1
    refine r_iload X dX5_wordOf_13 rfl ?_
    refine r_ldcS X dX5_wordOf_15 ?_
    refine r_Vs0i X kv_X5_95 rfl dX5_wordOf_17 c_Jlen rfl ?_
    rintro x h' ⟨rfl, rfl⟩
    refine r_icmp_ge_t X dX5_wordOf_20 (tgt := 112) rfl (by decide) ?_
    refine r_iload X dX5_wordOf_112 rfl ?_
    refine r_if_eq X dX5_wordOf_114 (tgt := 127) rfl (fun _ => ?_) (fun _ => ?_)
    · refine r_iconst X dX5_wordOf_127 (v := 3) rfl ?_
      exact r_ret_i X hr hlk dX5_wordOf_128 (Nat.le_refl _) (Nat.le_refl _) ⟨_, rfl, rfl⟩
    · refine r_iload X dX5_wordOf_117 rfl ?_
      refine r_iload_n X dX5_wordOf_119 rfl ?_
      refine r_icmp_ne X dX5_wordOf_120 (tgt := 127) rfl (fun _ => ?_) (fun _ => ?_)
      · refine r_iconst X dX5_wordOf_127 (v := 3) rfl ?_
        exact r_ret_i X hr hlk dX5_wordOf_128 (Nat.le_refl _) (Nat.le_refl _) ⟨_, rfl, rfl⟩
      · refine r_iload_n X dX5_wordOf_123 rfl ?_
        refine r_goto X dX5_wordOf_124 (tgt := 128) rfl ?_
        exact r_ret_i X hr hlk dX5_wordOf_128 (Nat.le_refl _) (Nat.le_refl _) ⟨_, rfl, rfl⟩
  | succ t ih =>
    intro i hi x3 x4 x5 w7 h4 h5
    have hi2 : (nI i).toInt = (i : Int) := nI_toInt (by omega)
    have hlt : nI i < 131 := Int32.lt_iff_toInt_lt.mpr (by rw [hi2]; show (i : Int) < 131; omega)
    have hi0 : ¬ nI i < 0 := fun z => by have := Int32.lt_iff_toInt_lt.mp z; rw [hi2] at this; have h2 : (0 : Int32).toInt = 0 := rfl; omega
    have hin : vp_in (nI i) 131 := vp_in_nI (by omega) (by omega)
    have hinc : nI i + Int32.ofInt 1 = nI (i + 1) := nI_add i 1
    refine r_iload X dX5_wordOf_13 rfl ?_
    refine r_ldcS X dX5_wordOf_15 ?_
    refine r_Vs0i X kv_X5_95 rfl dX5_wordOf_17 c_Jlen rfl ?_
    rintro x h' ⟨rfl, rfl⟩
    refine r_icmp_ge_f X dX5_wordOf_20 (tgt := 112) rfl (Int32.not_le.mpr hlt) ?_
    refine r_ldcS X dX5_wordOf_23 ?_
    refine r_iload X dX5_wordOf_25 rfl ?_
    refine r_Vs1i X kv_X5_100 rfl dX5_wordOf_27 (c_Jchar hin hi0 hlt) rfl ?_
    rintro x h' ⟨hx, rfl⟩
    clear hx
    refine r_istore X dX5_wordOf_30 (by decide) ?_
    refine r_iload X dX5_wordOf_32 rfl ?_
    refine r_bipush X dX5_wordOf_34 (v := 32) rfl ?_
    -- the end of a round
    have next : ∀ (y3 y4 y5 : Int32), 0 ≤ y4.toInt → y4.toInt ≤ 400 + (i + 1 : Nat) → PW p l e (rmD 8 0 0) s m args below meth c G 8 (MQ below (pQ G (qI fun _ h'' => h'' = h')) args s 0 0 (pF G)) 0 0 h' 106 [some (vR b), some (vI fr), some (vI to), some (vI y3), some (vI y4), some (vI y5), some (vI (nI i)), some (vI x)] [] := by
      intro y3 y4 y5 g1 g2
      refine r_iinc X dX5_wordOf_106 rfl hinc (by decide) ?_
      refine r_goto X dX5_wordOf_109 (tgt := 13) rfl ?_
      exact ih (i + 1) (by omega) y3 y4 y5 _ g1 g2
    have four : ∀ (y5 : Int32), PW p l e (rmD 8 0 0) s m args below meth c G 8 (MQ below (pQ G (qI fun _ h'' => h'' = h')) args s 0 0 (pF G)) 0 0 h' 101 [some (vR b), some (vI fr), some (vI to), some (vI x3), some (vI x4), some (vI x5), some (vI (nI i)), some (vI x)] [vI y5] := by
      intro y5
      refine r_istore X dX5_wordOf_101 (by decide) ?_
      refine r_iinc X dX5_wordOf_103 rfl rfl (by decide) ?_
      have e4 : (x4 + Int32.ofInt 1).toInt = x4.toInt + 1 := by
        rw [Int32.toInt_add]
        show (x4.toInt + 1).bmod (2 ^ 32) = _
        rw [Int.bmod_eq_of_le] <;> omega
      exact next x3 _ y5 (by rw [e4]; omega) (by rw [e4]; omega)
    have bare : PW p l e (rmD 8 0 0) s m args below meth c G 8 (MQ below (pQ G (qI fun _ h'' => h'' = h')) args s 0 0 (pF G)) 0 0 h' 100 [some (vR b), some (vI fr), some (vI to), some (vI x3), some (vI x4), some (vI x5), some (vI (nI i)), some (vI x)] [] := by
      refine r_iconst X dX5_wordOf_100 (v := 0) rfl ?_
      exact four 0
    have fresh : PW p l e (rmD 8 0 0) s m args below meth c G 8 (MQ below (pQ G (qI fun _ h'' => h'' = h')) args s 0 0 (pF G)) 0 0 h' 52 [some (vR b), some (vI fr), some (vI to), some (vI x3), some (vI x4), some (vI x5), some (vI (nI i)), some (vI x)] [] := by
      refine r_iinc X dX5_wordOf_52 rfl rfl (by decide) ?_
      refine r_iload_n X dX5_wordOf_55 rfl ?_
      refine r_istore X dX5_wordOf_56 (by decide) ?_
      refine r_iconst X dX5_wordOf_58 (v := 1) rfl ?_
      refine r_istore X dX5_wordOf_59 (by decide) ?_
      refine r_goto X dX5_wordOf_61 (tgt := 106) rfl ?_
      exact next _ fr 1 h0 (by omega)
    refine r_icmp_ne X dX5_wordOf_36 (tgt := 64) rfl (fun _ => ?_) (fun _ => ?_)
    · refine r_iload X dX5_wordOf_64 rfl ?_
      refine r_if_eq X dX5_wordOf_66 (tgt := 100) rfl (fun _ => bare) (fun _ => ?_)
      refine r_iload X dX5_wordOf_69 rfl ?_
      refine r_iload_n X dX5_wordOf_71 rfl ?_
      refine r_icmp_ge X dX5_wordOf_72 (tgt := 100) rfl (fun _ => bare) (fun _ => ?_)
      refine r_iload X dX5_wordOf_75 rfl ?_
      refine r_aload_n X dX5_wordOf_77 rfl ?_
      refine r_get X fg_X5_19 dX5_wordOf_78 hb hc ?_
      refine r_icmp_ge X dX5_wordOf_81 (tgt := 100) rfl (fun _ => bare) (fun q => ?_)
      have q2 : x4.toInt < n.toInt := by have := Int32.lt_iff_toInt_lt.mp (Int32.not_le.mp q); omega
      refine r_aload_n X dX5_wordOf_84 rfl ?_
      refine r_get X fg_X5_9 dX5_wordOf_85 hb hs ?_
      refine r_iload X dX5_wordOf_88 rfl ?_
      refine r_iald X dX5_wordOf_90 ha (vinT h4 (by omega)) ?_
      refine r_iload X dX5_wordOf_91 rfl ?_
      refine r_icmp_ne X dX5_wordOf_93 (tgt := 100) rfl (fun _ => bare) (fun _ => ?_)
      refine r_iconst X dX5_wordOf_96 (v := 1) rfl ?_
      refine r_goto X dX5_wordOf_97 (tgt := 101) rfl ?_
      exact four 1
    · refine r_iload X dX5_wordOf_39 rfl ?_
      refine r_if_eq X dX5_wordOf_41 (tgt := 52) rfl (fun _ => fresh) (fun _ => ?_)
      refine r_iload X dX5_wordOf_44 rfl ?_
      refine r_iload_n X dX5_wordOf_46 rfl ?_
      refine r_icmp_ne X dX5_wordOf_47 (tgt := 52) rfl (fun _ => fresh) (fun _ => ?_)
      refine r_iload_n X dX5_wordOf_50 rfl ?_
      exact r_ret_i X hr hlk dX5_wordOf_51 (Nat.le_refl _) (Nat.le_refl _) ⟨_, rfl, rfl⟩
end WordOf
theorem c_X5_wordOf {l : Launch} {G : PG} {h : PH} {b a N : Nat} {fs : List PV} {f : Nat → Int32} {fr to n : Int32} (hb : h[b]? = some (eO 5 fs)) (hs : fs[0]? = some (vR a)) (hc : fs[2]? = some (vI n)) (ha : h[a]? = some (eI N f)) (hn : n.toInt ≤ N) (h0 : 0 ≤ fr.toInt) (h1 : fr.toInt ≤ 400) : PMet l G yX5_wordOf cX5_wordOf 8 (some .int) 8 0 0 [vR b, vI fr, vI to] h (qI fun _ h' => h' = h) := by
  refine PMet.intro rfl (show 3 ≤ 8 by decide) ?_
  intro p e s m args below meth c X hr hlk hnm
  refine r_sipush X dX5_wordOf_0 (v := 300) rfl ?_
  refine r_istore_n X dX5_wordOf_3 (by decide) ?_
  refine r_iload_n X dX5_wordOf_4 rfl ?_
  refine r_istore X dX5_wordOf_5 (by decide) ?_
  refine r_iconst X dX5_wordOf_7 (v := 1) rfl ?_
  refine r_istore X dX5_wordOf_8 (by decide) ?_
  refine r_iconst X dX5_wordOf_10 (v := 0) rfl ?_
  refine r_istore X dX5_wordOf_11 (by decide) ?_
  exact wo_loop X hr hlk hb hs hc ha hn h0 h1 131 0 rfl _ fr _ _ h0 (by omega)
