/-! the tape: both sides have the same length -/
abbrev pS : List (Nat × Nat × Nat) := [(79, 1, 12)]
abbrev qS : List (Nat × Nat × Nat) := []
/-- the methods, with the loop of take walked through -/
noncomputable def MT2 : MTb := match nth MT 136 with
  | some (nL, co, _) => stl MT (nL, co, []) 136
  | none => MT
theorem MT2_ok : MTOK MT2 := by
  intro k nL co cu hk
  unfold MT2 at hk
  split at hk
  · rename_i nL' co' cu' h0
    by_cases e : k = 136
    · subst e
      rw [nth_eq, stl_eq, List.getElem?_set] at hk
      simp only [if_true] at hk
      split at hk
      · have hk := Option.some.inj hk
        injection hk with e1 e2
        injection e2 with e2 e3
        subst e1
        subst e2
        exact MT_ok _ _ _ _ h0
      · cases hk
    · rw [nth_eq, stl_eq, List.getElem?_set_ne (fun z => e z.symm), ← nth_eq] at hk
      exact MT_ok _ _ _ _ hk
  · exact MT_ok _ _ _ _ hk
theorem ff_1 : chkG 1 [(2147483648, 2147484028, 9, 0, 0)] [] (fixF TCl 79 1 (.inl 4294967296)) TCl [] MT2 20000 160 2 [.inr (.inl (some 0)), .inr (.inr (.inr (0, 4294967295))), .inr (.inr (.inr (0, 4294967295))), .inr (.inr (.inr (0, 4294967295))), .inr (.inr (.inr (0, 4294967295))), .inr (.inr (.inr (0, 4294967295)))] [(79, 1), (80, 999)] (tstA TCl 79 1 20) = true := by decide +kernel
theorem ff_2 : chkE (fixF TCl 79 1 (.inr (.inr (.inr (2147484029, 2147484048))))) TCl TCl [] MT 20000 (160, 2, [.inr (.inl (some 0)), .inr (.inr (.inr (0, 4294967295))), .inr (.inr (.inr (0, 4294967295))), .inr (.inr (.inr (0, 4294967295))), .inr (.inr (.inr (0, 4294967295))), .inr (.inr (.inr (0, 4294967295)))], some (2147483647, 2147483647), []) = true := by decide +kernel
theorem fr_1 : chkG 1 [(2147483648, 2147484028, 9, 0, 0)] [] (fixF TRf 0 12 (.inl 4294967296)) TRf [] MT 20000 211 2 [.inr (.inl (some 0)), .inr (.inr (.inr (0, 4294967295))), .inr (.inr (.inr (0, 4294967295))), .inr (.inr (.inr (0, 4294967295))), .inr (.inr (.inr (0, 4294967295))), .inr (.inr (.inr (0, 4294967295)))] [(0, 0), (0, 12), (8, 999)] (tstA TRf 0 12 20) = true := by decide +kernel
theorem fr_2 : chkE (fixF TRf 0 12 (.inr (.inr (.inr (2147484029, 2147484048))))) TRf TRf [] MT 20000 (211, 2, [.inr (.inl (some 0)), .inr (.inr (.inr (0, 4294967295))), .inr (.inr (.inr (0, 4294967295))), .inr (.inr (.inr (0, 4294967295))), .inr (.inr (.inr (0, 4294967295))), .inr (.inr (.inr (0, 4294967295)))], some (2147483647, 2147483647), [(0, 0)]) = true := by decide +kernel
theorem ee_1 : chkG 2 [(2147483648, 2147484048, 9, 0, 0), (2147483648, 2147484048, 9, 0, 0)] [] (fixF TCl 79 1 (.inl 4294967296)) TCl [] MT 20000 158 1 [.inr (.inl (some 0)), .inl 4294967297] [(79, 1)] (tstE TCl 79 1) = true := by decide +kernel
theorem ee_3 : chkE TCl TCl TCl [] MT 20000 (158, 1, [.inr (.inl (some 0)), .inr (.inr (.inr (0, 2147483647)))], some (2147483648, 2147483648), []) = true := by decide +kernel
theorem ee_4 : chkE TCl TCl TCl [] MT 20000 (158, 1, [.inr (.inl (some 0)), .inr (.inr (.inr (2147484049, 4294967295)))], some (2147483648, 2147483648), []) = true := by decide +kernel
theorem er_1 : chkG 2 [(2147483648, 2147484048, 9, 0, 0), (2147483648, 2147484048, 9, 0, 0)] [] (fixF TRf 0 12 (.inl 4294967296)) TRf [] MT 20000 206 2 [.inr (.inl (some 0)), .inl 4294967297] [(0, 0), (0, 12)] (tstE TRf 0 12) = true := by decide +kernel
theorem er_3 : chkE TRf TRf TRf [] MT 20000 (206, 2, [.inr (.inl (some 0)), .inr (.inr (.inr (0, 2147483647)))], some (2147483648, 2147483648), [(0, 0)]) = true := by decide +kernel
theorem er_4 : chkE TRf TRf TRf [] MT 20000 (206, 2, [.inr (.inl (some 0)), .inr (.inr (.inr (2147484049, 4294967295)))], some (2147483648, 2147483648), [(0, 0)]) = true := by decide +kernel
theorem isF_C : isF TCl 79 1 = true := by decide +kernel
theorem isF_R : isF TRf 0 12 = true := by decide +kernel
