variable {bb : Int32}
def sp_game (a b : Int32) : Int32 := if (¬ b < 0 ∧ ¬ 1 < b) ∧ (¬ a < 0 ∧ a ≤ 222222222) ∧ gok a.toNatClampNeg = true then (if b = 0 then Vc (cd a.toNatClampNeg) else fst9 (cd a.toNatClampNeg)) else -10
theorem gm_all {K g : FA} {s0 l0 : Int32} (hK : KI K) (a b : Int32) : ∃ K' f' s' l', KI K' ∧ MC 24 34 [vR 3, vI a, vI b] (gL bb K g s0 l0) (some (vI (sp_game a b)), gL bb K' f' s' l') := by
  by_cases hb0 : b < 0
  · refine ⟨K, g, s0, l0, hK, ?_⟩
    rw [sp_game, if_neg (fun q => q.1.1 hb0)]
    exact gm_b1 (D := 23) hb0
  · by_cases hb1 : 1 < b
    · refine ⟨K, g, s0, l0, hK, ?_⟩
      rw [sp_game, if_neg (fun q => q.1.2 hb1)]
      exact gm_b2 (D := 23) hb0 hb1
    · by_cases ha0 : a < 0
      · refine ⟨K, g, s0, l0, hK, ?_⟩
        rw [sp_game, if_neg (fun q => q.2.1.1 ha0)]
        exact gm_no (D := 22) hb0 hb1 (lay_lo ha0)
      · by_cases ha1 : a ≤ 222222222
        · obtain ⟨A, hA, rfl⟩ : ∃ j : Nat, j ≤ 222222222 ∧ a = nI j := nI_of2 (M := 222222222) (by decide) ha0 ha1
          have e : (nI A).toNatClampNeg = A := nI_clamp (by omega)
          cases hg : gok A with
          | true =>
            have hall : ∀ t, t < 9 → A / 10 ^ t % 10 ≤ 2 := by
              simp only [gok, Bool.and_eq_true, ok9, decide_eq_true_eq] at hg
              exact hg.1
            have hL := lay_ok (bb := bb) (D := 21) (K := K) (g := g) (s0 := s0) (l := l0) hA hg
            by_cases hz : b = 0
            · obtain ⟨K', hK', hV⟩ := gval_at (bb := bb) (D := 2) (s := nI (cd A)) (l := nI (fl (cd A))) (cd_lt hall) (lF_Bd (g := g) hall) hK
              refine ⟨K', lF g A 9, nI (cd A), nI (fl (cd A)), hK', ?_⟩
              rw [sp_game, e, if_pos ⟨⟨hb0, hb1⟩, ⟨ha0, ha1⟩, hg⟩, if_pos hz]
              exact gm_v (D := 22) hb0 hb1 hz hL (g_vfn (D := 21) hV)
            · obtain ⟨K', hK', hV⟩ := first_at (bb := bb) (D := 1) (cd_lt hall) (lF_Bd (g := g) hall) hK
              refine ⟨K', lF g A 9, nI (cd A), nI (fl (cd A)), hK', ?_⟩
              rw [sp_game, e, if_pos ⟨⟨hb0, hb1⟩, ⟨ha0, ha1⟩, hg⟩, if_neg hz]
              exact gm_f (D := 22) hb0 hb1 hz hL hV
          | false =>
            obtain ⟨f', s', l', hL⟩ := lay_not (bb := bb) (D := 21) (K := K) (g := g) (s0 := s0) (l := l0) hA hg
            refine ⟨K, f', s', l', hK, ?_⟩
            rw [sp_game, e, if_neg (fun q => by rw [hg] at q; exact absurd q.2.2 (by decide))]
            exact gm_no (D := 22) hb0 hb1 hL
        · refine ⟨K, g, s0, l0, hK, ?_⟩
          rw [sp_game, if_neg (fun q => ha1 q.2.1.2)]
          exact gm_no (D := 22) hb0 hb1 (lay_hi ha0 ha1)
