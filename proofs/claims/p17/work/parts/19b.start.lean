theorem tb_1 {w : Cond} (i : Nat) (h : tables_1_1[i]? = some w) : w ∈ lw_tbl := by
  have hm := List.mem_of_getElem? h
  exact List.mem_append_right _ (show w ∈ tables_1 from List.mem_append_left _ hm)
theorem tb_2 {w : Cond} (i : Nat) (h : tables_1_2[i]? = some w) : w ∈ lw_tbl := by
  have hm := List.mem_of_getElem? h
  exact List.mem_append_right _ (show w ∈ tables_1 from List.mem_append_right _ (List.mem_append_left _ hm))
theorem tb_3 {w : Cond} (i : Nat) (h : tables_1_3[i]? = some w) : w ∈ lw_tbl := by
  have hm := List.mem_of_getElem? h
  exact List.mem_append_right _ (show w ∈ tables_1 from List.mem_append_right _ (List.mem_append_right _ (List.mem_append_left _ hm)))
theorem tb_4 {w : Cond} (i : Nat) (h : tables_1_4[i]? = some w) : w ∈ lw_tbl := by
  have hm := List.mem_of_getElem? h
  exact List.mem_append_right _ (show w ∈ tables_1 from List.mem_append_right _ (List.mem_append_right _ (List.mem_append_right _ (List.mem_append_left _ hm))))
theorem tb_5 {w : Cond} (i : Nat) (h : tables_1_5[i]? = some w) : w ∈ lw_tbl := by
  have hm := List.mem_of_getElem? h
  exact List.mem_append_right _ (show w ∈ tables_1 from List.mem_append_right _ (List.mem_append_right _ (List.mem_append_right _ (List.mem_append_right _ (List.mem_append_left _ hm)))))
theorem kI_X0 : Cond.instantiable RX0 10 ∈ lw_tbl := tb_1 37 rfl
theorem kI_X1 : Cond.instantiable RX1 6 ∈ lw_tbl := tb_2 45 rfl
theorem kI_X2 : Cond.instantiable RX2 4 ∈ lw_tbl := tb_2 26 rfl
theorem kI_X3 : Cond.instantiable RX3 1 ∈ lw_tbl := tb_1 91 rfl
theorem kI_X4 : Cond.instantiable RX4 2 ∈ lw_tbl := tb_2 13 rfl
theorem kI_X5 : Cond.instantiable RX5 14 ∈ lw_tbl := tb_1 180 rfl
theorem kI_X6 : Cond.instantiable RX6 4 ∈ lw_tbl := tb_1 234 rfl
theorem kI_X7 : Cond.instantiable RX7 3 ∈ lw_tbl := tb_1 160 rfl
theorem kI_X8 : Cond.instantiable RX8 3 ∈ lw_tbl := tb_1 104 rfl
theorem kI_X9 : Cond.instantiable RX9 2 ∈ lw_tbl := tb_1 122 rfl
theorem kI_X10 : Cond.instantiable RX10 4 ∈ lw_tbl := tb_1 31 rfl
theorem kI_X11 : Cond.instantiable RX11 11 ∈ lw_tbl := tb_1 23 rfl
theorem kI_X12 : Cond.instantiable RX12 76 ∈ lw_tbl := tb_5 104 rfl
theorem pNw_in : ∀ w ∈ pNw, w ∈ lw_tbl := by
  intro w hw
  simp only [pNw, List.mem_cons, List.not_mem_nil, or_false] at hw
  rcases hw with rfl | rfl | rfl | rfl | rfl | rfl | rfl | rfl | rfl | rfl | rfl
  · exact tb_1 38 rfl
  · exact tb_1 92 rfl
  · exact tb_1 167 rfl
  · exact tb_1 181 rfl
  · exact tb_1 232 rfl
  · exact tb_1 235 rfl
  · exact tb_2 14 rfl
  · exact tb_2 27 rfl
  · exact tb_4 68 rfl
  · exact tb_1 123 rfl
  · exact tb_3 230 rfl
set_option maxRecDepth 100000 in
set_option maxHeartbeats 4000000 in
theorem st_ROOM {s : State} {b : Nat} (hts : ∀ w ∈ lw_tbl, w.before #[Value.ref b] s = true) (hg : (Jvm.Cond.and given_1 narrow_1).before #[Value.ref b] s = true) : ∃ t : Nat, va_Z RX11 "ROOM" "[I" (.ref t) (fun q => s.heap.size ≤ q) s s.heap ∧ va_T .int t 9 (fun j => .int (sRoom j)) (fun q => s.heap.size ≤ q) s s.heap := by
  have hs := flat_of_before _ hg
  have hA : ∀ a : Nat, a < s.heap.size → ¬ (s.heap.size ≤ a) := fun a h => Nat.not_le.mpr h
  have hel : ∀ j : Nat, j < 9 → (Term.elem (Term.static "ThumbBallot" "ROOM" "[I") (.int (Int32.ofNat j))).eval #[Value.ref b] s none [] s = some (.int (sRoom j)) := by
    intro j hj
    rcases (show j = 0 ∨ j = 1 ∨ j = 2 ∨ j = 3 ∨ j = 4 ∨ j = 5 ∨ j = 6 ∨ j = 7 ∨ j = 8 by omega) with rfl | rfl | rfl | rfl | rfl | rfl | rfl | rfl | rfl
    · exact va_eqt (hs (Cond.eq (.elem (Term.static "ThumbBallot" "ROOM" "[I") (.int 0)) (.int 6)) (by decide +kernel))
    · exact va_eqt (hs (Cond.eq (.elem (Term.static "ThumbBallot" "ROOM" "[I") (.int 1)) (.int 16)) (by decide +kernel))
    · exact va_eqt (hs (Cond.eq (.elem (Term.static "ThumbBallot" "ROOM" "[I") (.int 2)) (.int 15)) (by decide +kernel))
    · exact va_eqt (hs (Cond.eq (.elem (Term.static "ThumbBallot" "ROOM" "[I") (.int 3)) (.int 15)) (by decide +kernel))
    · exact va_eqt (hs (Cond.eq (.elem (Term.static "ThumbBallot" "ROOM" "[I") (.int 4)) (.int 8)) (by decide +kernel))
    · exact va_eqt (hs (Cond.eq (.elem (Term.static "ThumbBallot" "ROOM" "[I") (.int 5)) (.int 8)) (by decide +kernel))
    · exact va_eqt (hs (Cond.eq (.elem (Term.static "ThumbBallot" "ROOM" "[I") (.int 6)) (.int 12)) (by decide +kernel))
    · exact va_eqt (hs (Cond.eq (.elem (Term.static "ThumbBallot" "ROOM" "[I") (.int 7)) (.int 12)) (by decide +kernel))
    · exact va_eqt (hs (Cond.eq (.elem (Term.static "ThumbBallot" "ROOM" "[I") (.int 8)) (.int 12)) (by decide +kernel))
  obtain ⟨t, h1, h2⟩ := va_Tof (tm := (Term.static "ThumbBallot" "ROOM" "[I")) (ty := .int) (N := 9) (f := fun j => .int (sRoom j)) (A := fun q => s.heap.size ≤ q) (by decide) (hs (Cond.arrayOf (Term.static "ThumbBallot" "ROOM" "[I") .int) (by decide +kernel)) (va_eqt (hs (Cond.eq (.length (Term.static "ThumbBallot" "ROOM" "[I")) (.int 9)) (by decide +kernel))) hel hA
  exact ⟨t, va_Zof (hts _ (tb_1 124 rfl)) (hts _ (tb_1 1 rfl)) h1 hA, h2⟩
set_option maxRecDepth 100000 in
set_option maxHeartbeats 4000000 in
theorem st_POWERS {s : State} {b : Nat} (hts : ∀ w ∈ lw_tbl, w.before #[Value.ref b] s = true) (hg : (Jvm.Cond.and given_1 narrow_1).before #[Value.ref b] s = true) : ∃ t : Nat, va_Z RX2 "POWERS" "[I" (.ref t) (fun q => s.heap.size ≤ q) s s.heap ∧ va_T .int t 9 (fun j => .int (sPow j)) (fun q => s.heap.size ≤ q) s s.heap := by
  have hs := flat_of_before _ hg
  have hA : ∀ a : Nat, a < s.heap.size → ¬ (s.heap.size ≤ a) := fun a h => Nat.not_le.mpr h
  have hel : ∀ j : Nat, j < 9 → (Term.elem (Term.static "ThumbBallot$Game" "POWERS" "[I") (.int (Int32.ofNat j))).eval #[Value.ref b] s none [] s = some (.int (sPow j)) := by
    intro j hj
    rcases (show j = 0 ∨ j = 1 ∨ j = 2 ∨ j = 3 ∨ j = 4 ∨ j = 5 ∨ j = 6 ∨ j = 7 ∨ j = 8 by omega) with rfl | rfl | rfl | rfl | rfl | rfl | rfl | rfl | rfl
    · exact va_eqt (hs (Cond.eq (.elem (Term.static "ThumbBallot$Game" "POWERS" "[I") (.int 0)) (.int 6561)) (by decide +kernel))
    · exact va_eqt (hs (Cond.eq (.elem (Term.static "ThumbBallot$Game" "POWERS" "[I") (.int 1)) (.int 2187)) (by decide +kernel))
    · exact va_eqt (hs (Cond.eq (.elem (Term.static "ThumbBallot$Game" "POWERS" "[I") (.int 2)) (.int 729)) (by decide +kernel))
    · exact va_eqt (hs (Cond.eq (.elem (Term.static "ThumbBallot$Game" "POWERS" "[I") (.int 3)) (.int 243)) (by decide +kernel))
    · exact va_eqt (hs (Cond.eq (.elem (Term.static "ThumbBallot$Game" "POWERS" "[I") (.int 4)) (.int 81)) (by decide +kernel))
    · exact va_eqt (hs (Cond.eq (.elem (Term.static "ThumbBallot$Game" "POWERS" "[I") (.int 5)) (.int 27)) (by decide +kernel))
    · exact va_eqt (hs (Cond.eq (.elem (Term.static "ThumbBallot$Game" "POWERS" "[I") (.int 6)) (.int 9)) (by decide +kernel))
    · exact va_eqt (hs (Cond.eq (.elem (Term.static "ThumbBallot$Game" "POWERS" "[I") (.int 7)) (.int 3)) (by decide +kernel))
    · exact va_eqt (hs (Cond.eq (.elem (Term.static "ThumbBallot$Game" "POWERS" "[I") (.int 8)) (.int 1)) (by decide +kernel))
  obtain ⟨t, h1, h2⟩ := va_Tof (tm := (Term.static "ThumbBallot$Game" "POWERS" "[I")) (ty := .int) (N := 9) (f := fun j => .int (sPow j)) (A := fun q => s.heap.size ≤ q) (by decide) (hs (Cond.arrayOf (Term.static "ThumbBallot$Game" "POWERS" "[I") .int) (by decide +kernel)) (va_eqt (hs (Cond.eq (.length (Term.static "ThumbBallot$Game" "POWERS" "[I")) (.int 9)) (by decide +kernel))) hel hA
  exact ⟨t, va_Zof (hts _ (tb_5 32 rfl)) (hts _ (tb_1 12 rfl)) h1 hA, h2⟩
set_option maxRecDepth 100000 in
set_option maxHeartbeats 4000000 in
theorem st_THREES {s : State} {b : Nat} (hts : ∀ w ∈ lw_tbl, w.before #[Value.ref b] s = true) (hg : (Jvm.Cond.and given_1 narrow_1).before #[Value.ref b] s = true) : ∃ t : Nat, va_Z RX2 "THREES" "[I" (.ref t) (fun q => s.heap.size ≤ q) s s.heap ∧ va_T .int t 24 (fun j => .int (sThr j)) (fun q => s.heap.size ≤ q) s s.heap := by
  have hs := flat_of_before _ hg
  have hA : ∀ a : Nat, a < s.heap.size → ¬ (s.heap.size ≤ a) := fun a h => Nat.not_le.mpr h
  have hel : ∀ j : Nat, j < 24 → (Term.elem (Term.static "ThumbBallot$Game" "THREES" "[I") (.int (Int32.ofNat j))).eval #[Value.ref b] s none [] s = some (.int (sThr j)) := by
    intro j hj
    rcases (show j = 0 ∨ j = 1 ∨ j = 2 ∨ j = 3 ∨ j = 4 ∨ j = 5 ∨ j = 6 ∨ j = 7 ∨ j = 8 ∨ j = 9 ∨ j = 10 ∨ j = 11 ∨ j = 12 ∨ j = 13 ∨ j = 14 ∨ j = 15 ∨ j = 16 ∨ j = 17 ∨ j = 18 ∨ j = 19 ∨ j = 20 ∨ j = 21 ∨ j = 22 ∨ j = 23 by omega) with rfl | rfl | rfl | rfl | rfl | rfl | rfl | rfl | rfl | rfl | rfl | rfl | rfl | rfl | rfl | rfl | rfl | rfl | rfl | rfl | rfl | rfl | rfl | rfl
    · exact va_eqt (hs (Cond.eq (.elem (Term.static "ThumbBallot$Game" "THREES" "[I") (.int 0)) (.int 0)) (by decide +kernel))
    · exact va_eqt (hs (Cond.eq (.elem (Term.static "ThumbBallot$Game" "THREES" "[I") (.int 1)) (.int 1)) (by decide +kernel))
    · exact va_eqt (hs (Cond.eq (.elem (Term.static "ThumbBallot$Game" "THREES" "[I") (.int 2)) (.int 2)) (by decide +kernel))
    · exact va_eqt (hs (Cond.eq (.elem (Term.static "ThumbBallot$Game" "THREES" "[I") (.int 3)) (.int 3)) (by decide +kernel))
    · exact va_eqt (hs (Cond.eq (.elem (Term.static "ThumbBallot$Game" "THREES" "[I") (.int 4)) (.int 4)) (by decide +kernel))
    · exact va_eqt (hs (Cond.eq (.elem (Term.static "ThumbBallot$Game" "THREES" "[I") (.int 5)) (.int 5)) (by decide +kernel))
    · exact va_eqt (hs (Cond.eq (.elem (Term.static "ThumbBallot$Game" "THREES" "[I") (.int 6)) (.int 6)) (by decide +kernel))
    · exact va_eqt (hs (Cond.eq (.elem (Term.static "ThumbBallot$Game" "THREES" "[I") (.int 7)) (.int 7)) (by decide +kernel))
    · exact va_eqt (hs (Cond.eq (.elem (Term.static "ThumbBallot$Game" "THREES" "[I") (.int 8)) (.int 8)) (by decide +kernel))
    · exact va_eqt (hs (Cond.eq (.elem (Term.static "ThumbBallot$Game" "THREES" "[I") (.int 9)) (.int 0)) (by decide +kernel))
    · exact va_eqt (hs (Cond.eq (.elem (Term.static "ThumbBallot$Game" "THREES" "[I") (.int 10)) (.int 3)) (by decide +kernel))
    · exact va_eqt (hs (Cond.eq (.elem (Term.static "ThumbBallot$Game" "THREES" "[I") (.int 11)) (.int 6)) (by decide +kernel))
    · exact va_eqt (hs (Cond.eq (.elem (Term.static "ThumbBallot$Game" "THREES" "[I") (.int 12)) (.int 1)) (by decide +kernel))
    · exact va_eqt (hs (Cond.eq (.elem (Term.static "ThumbBallot$Game" "THREES" "[I") (.int 13)) (.int 4)) (by decide +kernel))
    · exact va_eqt (hs (Cond.eq (.elem (Term.static "ThumbBallot$Game" "THREES" "[I") (.int 14)) (.int 7)) (by decide +kernel))
    · exact va_eqt (hs (Cond.eq (.elem (Term.static "ThumbBallot$Game" "THREES" "[I") (.int 15)) (.int 2)) (by decide +kernel))
    · exact va_eqt (hs (Cond.eq (.elem (Term.static "ThumbBallot$Game" "THREES" "[I") (.int 16)) (.int 5)) (by decide +kernel))
    · exact va_eqt (hs (Cond.eq (.elem (Term.static "ThumbBallot$Game" "THREES" "[I") (.int 17)) (.int 8)) (by decide +kernel))
    · exact va_eqt (hs (Cond.eq (.elem (Term.static "ThumbBallot$Game" "THREES" "[I") (.int 18)) (.int 0)) (by decide +kernel))
    · exact va_eqt (hs (Cond.eq (.elem (Term.static "ThumbBallot$Game" "THREES" "[I") (.int 19)) (.int 4)) (by decide +kernel))
    · exact va_eqt (hs (Cond.eq (.elem (Term.static "ThumbBallot$Game" "THREES" "[I") (.int 20)) (.int 8)) (by decide +kernel))
    · exact va_eqt (hs (Cond.eq (.elem (Term.static "ThumbBallot$Game" "THREES" "[I") (.int 21)) (.int 2)) (by decide +kernel))
    · exact va_eqt (hs (Cond.eq (.elem (Term.static "ThumbBallot$Game" "THREES" "[I") (.int 22)) (.int 4)) (by decide +kernel))
    · exact va_eqt (hs (Cond.eq (.elem (Term.static "ThumbBallot$Game" "THREES" "[I") (.int 23)) (.int 6)) (by decide +kernel))
  obtain ⟨t, h1, h2⟩ := va_Tof (tm := (Term.static "ThumbBallot$Game" "THREES" "[I")) (ty := .int) (N := 24) (f := fun j => .int (sThr j)) (A := fun q => s.heap.size ≤ q) (by decide) (hs (Cond.arrayOf (Term.static "ThumbBallot$Game" "THREES" "[I") .int) (by decide +kernel)) (va_eqt (hs (Cond.eq (.length (Term.static "ThumbBallot$Game" "THREES" "[I")) (.int 24)) (by decide +kernel))) hel hA
  exact ⟨t, va_Zof (hts _ (tb_5 38 rfl)) (hts _ (tb_1 12 rfl)) h1 hA, h2⟩
theorem st_key : ∀ j : Nat, j < 131 → (flatC (Jvm.Cond.and given_1 narrow_1))[103 + j]? = some (Cond.eq (.elem (.field (Term.string "ThumbBallot$Reader" 93) "java/lang/String" "value" "[B") (.int (Int32.ofNat j))) (.int (sByt.getD j 0))) := by decide +kernel
set_option maxRecDepth 100000 in
set_option maxHeartbeats 4000000 in
theorem st_STR {s : State} {b : Nat} (hts : ∀ w ∈ lw_tbl, w.before #[Value.ref b] s = true) (hg : (Jvm.Cond.and given_1 narrow_1).before #[Value.ref b] s = true) : ∃ (a v : Nat) (z : Value), (z = .null ∨ ∃ f, z = .ref f) ∧ vk_R "ThumbBallot$Reader" 93 sWords a s ∧ vk_S 1 [131] [sByt] (fun _ => a) (fun _ => v) (fun q => s.heap.size ≤ q) s s.heap ∧ va_Z "java/lang/String" "COMPACT_STRINGS" "Z" (.int 1) (fun q => s.heap.size ≤ q) s s.heap ∧ va_Z "jdk/internal/util/Preconditions" "SIOOBE_FORMATTER" "Ljava/util/function/BiFunction;" z (fun q => s.heap.size ≤ q) s s.heap := by
  have hs := flat_of_before _ hg
  have hA : ∀ a : Nat, a < s.heap.size → ¬ (s.heap.size ≤ a) := fun a h => Nat.not_le.mpr h
  have hm : ∀ j : Nat, j < 131 → (Cond.eq (.elem (.field (Term.string "ThumbBallot$Reader" 93) "java/lang/String" "value" "[B") (.int (Int32.ofNat j))) (.int (sByt.getD j 0))) ∈ flatC (Jvm.Cond.and given_1 narrow_1) := fun j hj => List.mem_of_getElem? (st_key j hj)
  have i0 : ∀ i : Nat, i < 1 → i = 0 := fun i h => by omega
  obtain ⟨adK, adV, h1, h2⟩ := vk_Sof (args := #[Value.ref b]) (s := s) (N := 1) (tm := fun _ => Term.string "ThumbBallot$Reader" 93) (len := [131]) (byt := [sByt]) (A := fun q => s.heap.size ≤ q)
    (fun i hi => by rw [i0 i hi]; decide)
    (fun _ _ => hs (Cond.exactly (Term.string "ThumbBallot$Reader" 93) "java/lang/String") (by decide +kernel))
    (fun _ _ => hs (Cond.eq (.field (Term.string "ThumbBallot$Reader" 93) "java/lang/String" "coder" "B") (.int 0)) (by decide +kernel))
    (fun _ _ => hs (Cond.arrayOf (.field (Term.string "ThumbBallot$Reader" 93) "java/lang/String" "value" "[B") .byte) (by decide +kernel))
    (fun i hi => by rw [i0 i hi]; exact hs (Cond.eq (.length (.field (Term.string "ThumbBallot$Reader" 93) "java/lang/String" "value" "[B")) (.int 131)) (by decide +kernel))
    (fun i hi j hj => by rw [i0 i hi] at hj ⊢; exact hs _ (hm j hj))
    (fun i j hi hj hn => absurd ((i0 i hi).trans (i0 j hj).symm) hn) hA
  obtain ⟨z, hz, hzr⟩ := Cond.isRef_spec (hs (Cond.isRef (Term.static "jdk/internal/util/Preconditions" "SIOOBE_FORMATTER" "Ljava/util/function/BiFunction;")) (by decide +kernel))
  refine ⟨adK 0, adV 0, z, ?_, vk_R.of (hts _ (tb_3 113 rfl)) (h2 0 (by decide)), ⟨fun i hi => ?_, fun i j hi hj _ => (i0 i hi).trans (i0 j hj).symm⟩, va_Zof (hts _ (tb_3 123 rfl)) (hts _ (tb_1 18 rfl)) (va_eqt (hs (Cond.eq (Term.static "java/lang/String" "COMPACT_STRINGS" "Z") (.int 1)) (by decide +kernel))) hA, va_Zof (hts _ (tb_3 139 rfl)) (hts _ (tb_1 20 rfl)) hz hA⟩
  · cases z <;> first | exact Or.inl rfl | exact Or.inr ⟨_, rfl⟩ | cases hzr
  · rw [i0 i hi]
    exact h1.1 0 (by decide)
theorem st_AO {s : State} {C : String} (h : va_AO C s) : ∃ cA : ClassId, ArrOfT s cA (.object C) ∧ va_RA s cA (.object C) := by
  obtain ⟨comp, cA, kA, f1, -, f2, f3, f4⟩ := Cond.arrayOver_spec h
  exact ⟨cA, fun N z => ⟨(fun k h => by cases h), kA, f2, comp, f3⟩, kA, comp, f2, f3, f1, f4⟩
theorem st_AI {s : State} {args : Array Value} (h : (Cond.arrayClass .int).before args s = true) : ∃ cA : ClassId, ArrOfT s cA .int ∧ va_RA s cA .int := by
  obtain ⟨cA, kA, comp, f1, f2, f3⟩ := Cond.arrayClass_spec h
  exact ⟨cA, fun N z => ⟨(fun k h => by cases h), kA, f2, comp, f3⟩, f1⟩
set_option maxRecDepth 100000 in
set_option maxHeartbeats 4000000 in
/-- the ghost of a run: class numbers and slots, array classes, where the heap ended, the static arrays, the script -/
theorem st_G {s : State} {b : Nat} (hts : ∀ w ∈ lw_tbl, w.before #[Value.ref b] s = true) (hg : (Jvm.Cond.and given_1 narrow_1).before #[Value.ref b] s = true) : ∃ G : PG, G.2.2.1 = s.heap.size ∧ G.2.2.2 3 = b ∧ pK G s := by
  have hok : ∀ w ∈ lw_ok, w.before #[Value.ref b] s = true := fun w h => hts w (ok_tbl h)
  obtain ⟨c0, i0, k0⟩ := u_known hok ck_X0.2.1 (hts _ kI_X0)
  obtain ⟨c1, i1, k1⟩ := u_known hok ck_X1.2.1 (hts _ kI_X1)
  obtain ⟨c2, i2, k2⟩ := u_known hok ck_X2.2.1 (hts _ kI_X2)
  obtain ⟨c3, i3, k3⟩ := u_known hok ck_X3.2.1 (hts _ kI_X3)
  obtain ⟨c4, i4, k4⟩ := u_known hok ck_X4.2.1 (hts _ kI_X4)
  obtain ⟨c5, i5, k5⟩ := u_known hok ck_X5.2.1 (hts _ kI_X5)
  obtain ⟨c6, i6, k6⟩ := u_known hok ck_X6.2.1 (hts _ kI_X6)
  obtain ⟨c7, i7, k7⟩ := u_known hok ck_X7.2.1 (hts _ kI_X7)
  obtain ⟨c8, i8, k8⟩ := u_known hok ck_X8.2.1 (hts _ kI_X8)
  obtain ⟨c9, i9, k9⟩ := u_known hok ck_X9.2.1 (hts _ kI_X9)
  obtain ⟨c10, i10, k10⟩ := u_known hok ck_X10.2.1 (hts _ kI_X10)
  obtain ⟨c11, i11, k11⟩ := u_known hok ck_X11.2.1 (hts _ kI_X11)
  obtain ⟨c12, i12, k12⟩ := u_known hok ck_X12.2.1 (hts _ kI_X12)
  obtain ⟨a0, ha0, hr0⟩ := st_AI (hts _ (tb_1 89 rfl))
  have o1 : va_AO RX0 s := va_AO.of (hts _ (tb_1 166 rfl))
  obtain ⟨a1, ha1, hr1⟩ := st_AO o1
  have o2 : va_AO RX8 s := va_AO.of (hts _ (tb_1 101 rfl))
  obtain ⟨a2, ha2, hr2⟩ := st_AO o2
  have o3 : va_AO RX9 s := va_AO.of (hts _ (tb_1 103 rfl))
  obtain ⟨a3, ha3, hr3⟩ := st_AO o3
  obtain ⟨t0, z0, y0⟩ := st_ROOM hts hg
  obtain ⟨t1, z1, y1⟩ := st_POWERS hts hg
  obtain ⟨t2, z2, y2⟩ := st_THREES hts hg
  obtain ⟨t4, t5, z6, hz6, x1, x2, x3, x4⟩ := st_STR hts hg
  obtain ⟨t6, t7, hz7⟩ : ∃ f g : Nat, z6 = if g = 0 then Value.null else Value.ref f := by
    rcases hz6 with rfl | ⟨f, rfl⟩
    · exact ⟨0, 0, rfl⟩
    · exact ⟨f, 1, rfl⟩
  let dC : Nat → ClassId := fun q => match q with
    | 0 => c0
    | 1 => c1
    | 2 => c2
    | 3 => c3
    | 4 => c4
    | 5 => c5
    | 6 => c6
    | 7 => c7
    | 8 => c8
    | 9 => c9
    | 10 => c10
    | 11 => c11
    | _ => c12
  let dI : Nat → Nat → Nat := fun q => match q with
    | 0 => i0
    | 1 => i1
    | 2 => i2
    | 3 => i3
    | 4 => i4
    | 5 => i5
    | 6 => i6
    | 7 => i7
    | 8 => i8
    | 9 => i9
    | 10 => i10
    | 11 => i11
    | _ => i12
  let cA : Nat → ClassId := fun q => match q with
    | 0 => a0
    | 1 => a1
    | 2 => a2
    | _ => a3
  let sa : Nat → Nat := fun q => match q with
    | 0 => t0
    | 1 => t1
    | 2 => t2
    | 3 => b
    | 4 => t4
    | 5 => t5
    | 6 => t6
    | _ => t7
  refine ⟨((dC, dI), cA, s.heap.size, sa), rfl, rfl, ⟨fun q r hq => ?_, fun q r hq => ?_⟩, fun w hw => va_Nw.of (pNw_all (P := fun w => w.onTables = true) (fun _ _ _ _ => rfl) (fun _ _ _ _ _ _ => rfl) (fun _ _ => rfl) w hw) (hts w (pNw_in w hw)), ⟨o1, o2, o3⟩, ⟨z0, y0⟩, ⟨z1, y1⟩, ⟨z2, y2⟩, Nat.le_refl _, x1, x2, x3, ?_⟩
  · have hl : q < 13 := (List.getElem?_eq_some_iff.mp hq).1
    rcases (show q = 0 ∨ q = 1 ∨ q = 2 ∨ q = 3 ∨ q = 4 ∨ q = 5 ∨ q = 6 ∨ q = 7 ∨ q = 8 ∨ q = 9 ∨ q = 10 ∨ q = 11 ∨ q = 12 by omega) with rfl | rfl | rfl | rfl | rfl | rfl | rfl | rfl | rfl | rfl | rfl | rfl | rfl
    · cases hq; exact k0
    · cases hq; exact k1
    · cases hq; exact k2
    · cases hq; exact k3
    · cases hq; exact k4
    · cases hq; exact k5
    · cases hq; exact k6
    · cases hq; exact k7
    · cases hq; exact k8
    · cases hq; exact k9
    · cases hq; exact k10
    · cases hq; exact k11
    · cases hq; exact k12
  · have hl : q < 4 := (List.getElem?_eq_some_iff.mp hq).1
    rcases (show q = 0 ∨ q = 1 ∨ q = 2 ∨ q = 3 by omega) with rfl | rfl | rfl | rfl
    · cases hq; exact ⟨ha0, hr0⟩
    · cases hq; exact ⟨ha1, hr1⟩
    · cases hq; exact ⟨ha2, hr2⟩
    · cases hq; exact ⟨ha3, hr3⟩
  · have e6 : pr ((dC, dI), cA, s.heap.size, sa) (pFm ((dC, dI), cA, s.heap.size, sa)) = z6 := by
      rw [hz7]
      show pr _ (if t7 = 0 then vN else vS 6) = _
      by_cases h0 : t7 = 0
      · rw [if_pos h0, if_pos h0]
        rfl
      · rw [if_neg h0, if_neg h0]
        rfl
    rw [e6]
    exact x4
