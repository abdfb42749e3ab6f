/-! a text is put: the class's world with three cells more -/
def nwC (len k cnt N : Nat) (g : FA) (M : Nat) (hh : FA) : QH FA := [.inr (8, [vR (len + 43), vI (nI cnt), vR (len + 44)]), .inl (.inl (0, N, g)), .inl (.inl (0, M, hh))]
def nwW (W : TXW) (k cnt N : Nat) (g : FA) (M : Nat) (hh : FA) : TXW := (fun j => if j = k then some ((wL W).length + 42) else wX W j, wL W ++ nwC (wL W).length k cnt N g M hh, fun j => if j = k then ((wL W).length, (wL W).length + 1, (wL W).length + 2) else (wJ W j, wA W j, wC W j), fun j => if j = k then nI cnt else wn W j, fun j => if j = k then (N, g) else (wN W j, wg W j), fun j => if j = k then (M, hh) else (wM W j, wh W j))
/-- the texts' cells: rows, and texts whose rows are among them -/
def WTL (W : TXW) : Prop := (∀ j, 4 ≤ j → wX W j = none) ∧ ∀ (i : Nat) (x : QE FA), (wL W)[i]? = some x → (∃ N g, x = .inl (.inl (0, N, g))) ∨ ∃ a n c, x = .inr (8, [vR a, vI n, vR c]) ∧ a < 42 + (wL W).length ∧ c < 42 + (wL W).length
section NW
variable {W : TXW} {k cnt N M : Nat} {g hh : FA}
theorem nw_len : (wL (nwW W k cnt N g M hh)).length = (wL W).length + 3 := by
  show (wL W ++ nwC _ _ _ _ _ _ _).length = _
  rw [List.length_append]
  rfl
theorem nw_WTX (hW : WTX W) : WTX (nwW W k cnt N g M hh) := by
  intro j hj
  have up : ∀ {i : Nat} {x : QE FA} (L : QH FA), nth (wL W) i = some x → nth (wL W ++ L) i = some x := fun {i x} L h => by
    rw [nth_eq] at h ⊢
    rw [List.getElem?_append_left (List.getElem?_eq_some_iff.mp h).1]
    exact h
  have at3 : ∀ i, nth (wL W ++ nwC (wL W).length k cnt N g M hh) ((wL W).length + i) = (nwC (wL W).length k cnt N g M hh)[i]? := fun i => by
    rw [nth_eq, List.getElem?_append_right (by omega), Nat.add_sub_cancel_left]
  by_cases c : j = k
  · have e1 : wX (nwW W k cnt N g M hh) j = some ((wL W).length + 42) := if_pos c
    have e2 : (nwW W k cnt N g M hh).2.2.1 j = ((wL W).length, (wL W).length + 1, (wL W).length + 2) := if_pos c
    have e3 : wn (nwW W k cnt N g M hh) j = nI cnt := if_pos c
    have e4 : (nwW W k cnt N g M hh).2.2.2.2.1 j = (N, g) := if_pos c
    have e5 : (nwW W k cnt N g M hh).2.2.2.2.2 j = (M, hh) := if_pos c
    unfold wJ wA wC wN wg wM wh
    rw [e1, e2, e3, e4, e5]
    exact ⟨rfl, (at3 0).trans rfl, (at3 1).trans rfl, (at3 2).trans rfl⟩
  · obtain ⟨h1, h2, h3, h4⟩ := hW j hj
    have e1 : wX (nwW W k cnt N g M hh) j = wX W j := if_neg c
    have e2 : (nwW W k cnt N g M hh).2.2.1 j = (wJ W j, wA W j, wC W j) := if_neg c
    have e3 : wn (nwW W k cnt N g M hh) j = wn W j := if_neg c
    have e4 : (nwW W k cnt N g M hh).2.2.2.2.1 j = (wN W j, wg W j) := if_neg c
    have e5 : (nwW W k cnt N g M hh).2.2.2.2.2 j = (wM W j, wh W j) := if_neg c
    have eJ : wJ (nwW W k cnt N g M hh) j = wJ W j := congrArg (fun p => p.1) e2
    have eA : wA (nwW W k cnt N g M hh) j = wA W j := congrArg (fun p => p.2.1) e2
    have eC : wC (nwW W k cnt N g M hh) j = wC W j := congrArg (fun p => p.2.2) e2
    have eN : wN (nwW W k cnt N g M hh) j = wN W j := congrArg (fun p => p.1) e4
    have eg : wg (nwW W k cnt N g M hh) j = wg W j := congrArg (fun p => p.2) e4
    have eM : wM (nwW W k cnt N g M hh) j = wM W j := congrArg (fun p => p.1) e5
    have eh : wh (nwW W k cnt N g M hh) j = wh W j := congrArg (fun p => p.2) e5
    rw [e1, e3, eJ, eA, eC, eN, eg, eM, eh]
    exact ⟨h1, up _ h2, up _ h3, up _ h4⟩
theorem nw_WTL (hk : k < 4) (hL : WTL W) : WTL (nwW W k cnt N g M hh) := by
  refine ⟨fun j hj => (if_neg (by omega) : wX (nwW W k cnt N g M hh) j = wX W j).trans (hL.1 j hj), fun i x hx => ?_⟩
  rw [nw_len]
  have hx : (wL W ++ nwC (wL W).length k cnt N g M hh)[i]? = some x := hx
  by_cases c : i < (wL W).length
  · rw [List.getElem?_append_left c] at hx
    rcases hL.2 i x hx with q | ⟨a, n, c', q1, q2, q3⟩
    · exact Or.inl q
    · exact Or.inr ⟨a, n, c', q1, by omega, by omega⟩
  · rw [List.getElem?_append_right (by omega)] at hx
    rcases (show i - (wL W).length = 0 ∨ i - (wL W).length = 1 ∨ i - (wL W).length = 2 ∨ 3 ≤ i - (wL W).length by omega) with e | e | e | e
    · rw [e] at hx
      exact Or.inr ⟨_, _, _, (Option.some.inj hx).symm, by omega, by omega⟩
    · rw [e] at hx
      exact Or.inl ⟨_, _, (Option.some.inj hx).symm⟩
    · rw [e] at hx
      exact Or.inl ⟨_, _, (Option.some.inj hx).symm⟩
    · rw [List.getElem?_eq_none (by show 3 ≤ _; exact e)] at hx
      cases hx
/-- the places behind -/
def lbN (lb : Nat → Nat) (len a : Nat) : Nat → Nat := fun i => if i < 42 + len then lb i else if i < 45 + len then a + (i - (42 + len)) else lb (i - 3)
theorem lbN_lo {lb : Nat → Nat} {len a i : Nat} (h : i < 42 + len) : lbN lb len a i = lb i := if_pos h
theorem lbN_mid {lb : Nat → Nat} {len a i : Nat} (h : i < 3) : lbN lb len a (42 + len + i) = a + i := (if_neg (by omega)).trans ((if_pos (by omega)).trans (by omega))
theorem lbN_hi {lb : Nat → Nat} {len a i : Nat} : lbN lb len a (len + 3 + 242 + i) = lb (len + 242 + i) := (if_neg (by omega)).trans ((if_neg (by omega)).trans (congrArg lb (by omega)))
theorem LBW.new {lb : Nat → Nat} {nc nm len a : Nat} (h : LBW lb nc nm len) (ha : ∀ k, k < 42 + len → lb k < a) (hc : nc + 103 ≤ a) (hm : nm + 43 ≤ a) : LBW (lbN lb len a) nc nm (len + 3) := by
  obtain ⟨h1, h2, h3, h4⟩ := h
  have mid : ∀ i, ¬ i < 42 + len → i < 42 + (len + 3) → lbN lb len a i = a + (i - (42 + len)) := fun i q1 q2 => (if_neg q1).trans (if_pos (by omega))
  refine ⟨fun i hi j hj e => ?_, fun i hi => (lbN_lo (by omega)).trans (h2 i hi), fun i hi => lbN_hi.trans (h3 i hi), fun i q1 q2 => ?_⟩
  · by_cases c1 : i < 42 + len
    · by_cases c2 : j < 42 + len
      · rw [lbN_lo c1, lbN_lo c2] at e
        exact h1 i c1 j c2 e
      · rw [lbN_lo c1, mid j c2 hj] at e
        have := ha i c1
        omega
    · by_cases c2 : j < 42 + len
      · rw [mid i c1 hi, lbN_lo c2] at e
        have := ha j c2
        omega
      · rw [mid i c1 hi, mid j c2 hj] at e
        omega
  · by_cases c1 : i < 42 + len
    · rw [lbN_lo c1]
      exact h4 i q1 c1
    · rw [mid i c1 q2]
      exact ⟨fun k hk q => by have := wrC_lt hk; omega, fun q => by omega⟩
end NW
/-- the world behind: the row of texts leads to the new one -/
theorem Rep_nw {W : TXW} {k cnt N M : Nat} {g hh : FA} {H h h' : PH} {lb : Nat → Nat} {a : Nat} {z : Nat → Int32} {f : Nat → FA} (hk : k < 4) (hW : WTX W) (hL : WTL W) (hR : Rep rdF H lb (42 + (wL W).length) (LW W z f) h) (up : ∀ (i : Nat), i ≠ 7 → ∀ (x : PE), h[lb i]? = some x → i < 42 + (wL W).length → h'[lb i]? = some x) (h7 : h'[lb 7]? = some (eR 2 4 (va_up (fun j => (wX W j).map lb) k (some a)))) (n0 : h'[a]? = some (eO 8 [vR (a + 1), vI (nI cnt), vR (a + 2)])) (n1 : h'[a + 1]? = some (eI N g)) (n2 : h'[a + 2]? = some (eI M hh)) : Rep rdF h' (lbN lb (wL W).length a) (42 + (wL (nwW W k cnt N g M hh)).length) (LW (nwW W k cnt N g M hh) z f) h' := by
  have e : ∀ i, i < 42 → lbN lb (wL W).length a i = lb i := fun i hi => lbN_lo (by omega)
  have eK : ∀ i, lbN lb (wL W).length a (wK (nwW W k cnt N g M hh) + i) = lb (wK W + i) := fun i => by
    unfold wK
    rw [nw_len]
    exact lbN_hi
  have lo : ∀ j, j < 4 → ∃ y, wX W j = some y ∧ y < 42 + (wL W).length := fun j hj => by
    obtain ⟨h1, h2, -⟩ := hW j hj
    have := (List.getElem?_eq_some_iff.mp ((nth_eq _ _).symm.trans h2)).1
    exact ⟨_, h1, by omega⟩
  have row : (fun j => (wX (nwW W k cnt N g M hh) j).map (lbN lb (wL W).length a)) = va_up (fun j => (wX W j).map lb) k (some a) := by
    funext j
    by_cases c : j = k
    · subst c
      rw [show wX (nwW W j cnt N g M hh) j = some ((wL W).length + 42) from if_pos rfl, show va_up (fun j => (wX W j).map lb) j (some a) j = some a from if_pos rfl]
      show some (lbN lb (wL W).length a ((wL W).length + 42)) = some a
      rw [show (wL W).length + 42 = 42 + (wL W).length + 0 by omega, lbN_mid (by decide)]
      rfl
    · rw [show wX (nwW W k cnt N g M hh) j = wX W j from if_neg c, show va_up (fun j => (wX W j).map lb) k (some a) j = (wX W j).map lb from if_neg c]
      by_cases c4 : j < 4
      · obtain ⟨y, h1, h2⟩ := lo j c4
        rw [h1]
        show some (lbN lb (wL W).length a y) = some (lb y)
        rw [lbN_lo h2]
      · rw [hL.1 j (by omega)]
        rfl
  refine ⟨?_, fun i x hx => ?_, rfl, fun _ _ => rfl⟩
  · show (wL (nwW W k cnt N g M hh)).length + 42 = _
    omega
  by_cases ci : i < 42
  · have g0 := hR.2.1
    have hlen := hR.1
    have old : ∀ j y, j ≠ 7 → j < 42 → (LW W z f)[j]? = some y → h'[lb j]? = some (se rdF lb y) := fun j y n7 hj hy => up j n7 _ (g0 j y hy) (by omega)
    have r13 : (fun j => (rgW j).map (lbN lb (wL W).length a)) = fun j => (rgW j).map lb := by
      funext j
      match j with
      | 0 => show some (lbN lb (wL W).length a 14) = some (lb 14); rw [e 14 (by decide)]
      | 1 => show some (lbN lb (wL W).length a 17) = some (lb 17); rw [e 17 (by decide)]
      | 2 => show some (lbN lb (wL W).length a 20) = some (lb 20); rw [e 20 (by decide)]
      | 3 => show some (lbN lb (wL W).length a 23) = some (lb 23); rw [e 23 (by decide)]
      | 4 => show some (lbN lb (wL W).length a 26) = some (lb 26); rw [e 26 (by decide)]
      | 5 => show some (lbN lb (wL W).length a 29) = some (lb 29); rw [e 29 (by decide)]
      | n + 6 => rfl
    have eK0 := eK 0
    have eK1 := eK 1
    have eK2 := eK 2
    have eK3 := eK 3
    have eK4 := eK 4
    rw [Nat.add_zero, Nat.add_zero] at eK0
    match i, ci, hx with
    | 0, _, hx =>
      obtain rfl := Option.some.inj (show some (.inr (11, [vR 1, vR (wK (nwW W k cnt N g M hh)), vI (z 0), vR 12, vR (wK (nwW W k cnt N g M hh) + 1), vR 32, vR 8, vR 35, vR 39, vR (wK (nwW W k cnt N g M hh) + 2), vR (wK (nwW W k cnt N g M hh) + 3)]) : QE FA) = some x from hx)
      have q := old 0 _ (by decide) (by decide) rfl
      show h'[lbN lb (wL W).length a 0]? = some (eO 11 [vR (lbN lb (wL W).length a 1), vR (lbN lb (wL W).length a (wK (nwW W k cnt N g M hh))), vI (z 0), vR (lbN lb (wL W).length a 12), vR (lbN lb (wL W).length a (wK (nwW W k cnt N g M hh) + 1)), vR (lbN lb (wL W).length a 32), vR (lbN lb (wL W).length a 8), vR (lbN lb (wL W).length a 35), vR (lbN lb (wL W).length a 39), vR (lbN lb (wL W).length a (wK (nwW W k cnt N g M hh) + 2)), vR (lbN lb (wL W).length a (wK (nwW W k cnt N g M hh) + 3))])
      rw [e 0 (by decide), e 1 (by decide), eK0, e 12 (by decide), eK1, e 32 (by decide), e 8 (by decide), e 35 (by decide), e 39 (by decide), eK2, eK3]
      exact q
    | 1, _, hx =>
      obtain rfl := Option.some.inj (show some (.inr (10, [vR 2, vR 5, vR 7, vR (wK (nwW W k cnt N g M hh) + 4)]) : QE FA) = some x from hx)
      have q := old 1 _ (by decide) (by decide) rfl
      show h'[lbN lb (wL W).length a 1]? = some (eO 10 [vR (lbN lb (wL W).length a 2), vR (lbN lb (wL W).length a 5), vR (lbN lb (wL W).length a 7), vR (lbN lb (wL W).length a (wK (nwW W k cnt N g M hh) + 4))])
      rw [e 1 (by decide), e 2 (by decide), e 5 (by decide), e 7 (by decide), eK4]
      exact q
    | 2, _, hx =>
      obtain rfl := Option.some.inj (show some (.inr (0, [vR 3, vR 4, vI (z 22), vI (z 23), vI (z 24), vI (z 25), vI (z 26), vI (z 27), vI (z 28), vI (z 29)]) : QE FA) = some x from hx)
      have q := old 2 _ (by decide) (by decide) rfl
      show h'[lbN lb (wL W).length a 2]? = some (eO 0 [vR (lbN lb (wL W).length a 3), vR (lbN lb (wL W).length a 4), vI (z 22), vI (z 23), vI (z 24), vI (z 25), vI (z 26), vI (z 27), vI (z 28), vI (z 29)])
      rw [e 2 (by decide), e 3 (by decide), e 4 (by decide)]
      exact q
    | 3, _, hx =>
      obtain rfl := Option.some.inj (show some (.inl (.inl (0, 120, f 3)) : QE FA) = some x from hx)
      rw [e 3 (by decide)]
      exact old 3 _ (by decide) (by decide) rfl
    | 4, _, hx =>
      obtain rfl := Option.some.inj (show some (.inl (.inl (0, 144, f 4)) : QE FA) = some x from hx)
      rw [e 4 (by decide)]
      exact old 4 _ (by decide) (by decide) rfl
    | 5, _, hx =>
      obtain rfl := Option.some.inj (show some (.inr (3, [vR 6]) : QE FA) = some x from hx)
      have q := old 5 _ (by decide) (by decide) rfl
      show h'[lbN lb (wL W).length a 5]? = some (eO 3 [vR (lbN lb (wL W).length a 6)])
      rw [e 5 (by decide), e 6 (by decide)]
      exact q
    | 6, _, hx =>
      obtain rfl := Option.some.inj (show some (.inl (.inl (0, 750, f 6)) : QE FA) = some x from hx)
      rw [e 6 (by decide)]
      exact old 6 _ (by decide) (by decide) rfl
    | 7, _, hx =>
      obtain rfl := Option.some.inj (show some (.inl (.inr (2, 4, wX (nwW W k cnt N g M hh))) : QE FA) = some x from hx)
      rw [e 7 (by decide)]
      show h'[lb 7]? = some (eR 2 4 (fun j => (wX (nwW W k cnt N g M hh) j).map (lbN lb (wL W).length a)))
      rw [row]
      exact h7
    | 8, _, hx =>
      obtain rfl := Option.some.inj (show some (.inr (1, [vR 2, vR 7, vR 5, vR 9, vR 10, vR 11]) : QE FA) = some x from hx)
      have q := old 8 _ (by decide) (by decide) rfl
      show h'[lbN lb (wL W).length a 8]? = some (eO 1 [vR (lbN lb (wL W).length a 2), vR (lbN lb (wL W).length a 7), vR (lbN lb (wL W).length a 5), vR (lbN lb (wL W).length a 9), vR (lbN lb (wL W).length a 10), vR (lbN lb (wL W).length a 11)])
      rw [e 8 (by decide), e 2 (by decide), e 7 (by decide), e 5 (by decide), e 9 (by decide), e 10 (by decide), e 11 (by decide)]
      exact q
    | 9, _, hx =>
      obtain rfl := Option.some.inj (show some (.inl (.inl (0, 10, f 9)) : QE FA) = some x from hx)
      rw [e 9 (by decide)]
      exact old 9 _ (by decide) (by decide) rfl
    | 10, _, hx =>
      obtain rfl := Option.some.inj (show some (.inl (.inl (0, 32, f 10)) : QE FA) = some x from hx)
      rw [e 10 (by decide)]
      exact old 10 _ (by decide) (by decide) rfl
    | 11, _, hx =>
      obtain rfl := Option.some.inj (show some (.inl (.inl (0, 100, f 11)) : QE FA) = some x from hx)
      rw [e 11 (by decide)]
      exact old 11 _ (by decide) (by decide) rfl
    | 12, _, hx =>
      obtain rfl := Option.some.inj (show some (.inr (7, [vR 13, vI (z 122), vI (z 123)]) : QE FA) = some x from hx)
      have q := old 12 _ (by decide) (by decide) rfl
      show h'[lbN lb (wL W).length a 12]? = some (eO 7 [vR (lbN lb (wL W).length a 13), vI (z 122), vI (z 123)])
      rw [e 12 (by decide), e 13 (by decide)]
      exact q
    | 13, _, hx =>
      obtain rfl := Option.some.inj (show some (.inl (.inr (1, 6, rgW)) : QE FA) = some x from hx)
      have q := old 13 _ (by decide) (by decide) rfl
      rw [e 13 (by decide)]
      show h'[lb 13]? = some (eR 1 6 (fun j => (rgW j).map (lbN lb (wL W).length a)))
      rw [r13]
      exact q
    | 14, _, hx =>
      obtain rfl := Option.some.inj (show some (.inr (0, [vR 15, vR 16, vI (z 142), vI (z 143), vI (z 144), vI (z 145), vI (z 146), vI (z 147), vI (z 148), vI (z 149)]) : QE FA) = some x from hx)
      have q := old 14 _ (by decide) (by decide) rfl
      show h'[lbN lb (wL W).length a 14]? = some (eO 0 [vR (lbN lb (wL W).length a 15), vR (lbN lb (wL W).length a 16), vI (z 142), vI (z 143), vI (z 144), vI (z 145), vI (z 146), vI (z 147), vI (z 148), vI (z 149)])
      rw [e 14 (by decide), e 15 (by decide), e 16 (by decide)]
      exact q
    | 15, _, hx =>
      obtain rfl := Option.some.inj (show some (.inl (.inl (0, 120, f 15)) : QE FA) = some x from hx)
      rw [e 15 (by decide)]
      exact old 15 _ (by decide) (by decide) rfl
    | 16, _, hx =>
      obtain rfl := Option.some.inj (show some (.inl (.inl (0, 144, f 16)) : QE FA) = some x from hx)
      rw [e 16 (by decide)]
      exact old 16 _ (by decide) (by decide) rfl
    | 17, _, hx =>
      obtain rfl := Option.some.inj (show some (.inr (0, [vR 18, vR 19, vI (z 172), vI (z 173), vI (z 174), vI (z 175), vI (z 176), vI (z 177), vI (z 178), vI (z 179)]) : QE FA) = some x from hx)
      have q := old 17 _ (by decide) (by decide) rfl
      show h'[lbN lb (wL W).length a 17]? = some (eO 0 [vR (lbN lb (wL W).length a 18), vR (lbN lb (wL W).length a 19), vI (z 172), vI (z 173), vI (z 174), vI (z 175), vI (z 176), vI (z 177), vI (z 178), vI (z 179)])
      rw [e 17 (by decide), e 18 (by decide), e 19 (by decide)]
      exact q
    | 18, _, hx =>
      obtain rfl := Option.some.inj (show some (.inl (.inl (0, 120, f 18)) : QE FA) = some x from hx)
      rw [e 18 (by decide)]
      exact old 18 _ (by decide) (by decide) rfl
    | 19, _, hx =>
      obtain rfl := Option.some.inj (show some (.inl (.inl (0, 144, f 19)) : QE FA) = some x from hx)
      rw [e 19 (by decide)]
      exact old 19 _ (by decide) (by decide) rfl
    | 20, _, hx =>
      obtain rfl := Option.some.inj (show some (.inr (0, [vR 21, vR 22, vI (z 202), vI (z 203), vI (z 204), vI (z 205), vI (z 206), vI (z 207), vI (z 208), vI (z 209)]) : QE FA) = some x from hx)
      have q := old 20 _ (by decide) (by decide) rfl
      show h'[lbN lb (wL W).length a 20]? = some (eO 0 [vR (lbN lb (wL W).length a 21), vR (lbN lb (wL W).length a 22), vI (z 202), vI (z 203), vI (z 204), vI (z 205), vI (z 206), vI (z 207), vI (z 208), vI (z 209)])
      rw [e 20 (by decide), e 21 (by decide), e 22 (by decide)]
      exact q
    | 21, _, hx =>
      obtain rfl := Option.some.inj (show some (.inl (.inl (0, 120, f 21)) : QE FA) = some x from hx)
      rw [e 21 (by decide)]
      exact old 21 _ (by decide) (by decide) rfl
    | 22, _, hx =>
      obtain rfl := Option.some.inj (show some (.inl (.inl (0, 144, f 22)) : QE FA) = some x from hx)
      rw [e 22 (by decide)]
      exact old 22 _ (by decide) (by decide) rfl
    | 23, _, hx =>
      obtain rfl := Option.some.inj (show some (.inr (0, [vR 24, vR 25, vI (z 232), vI (z 233), vI (z 234), vI (z 235), vI (z 236), vI (z 237), vI (z 238), vI (z 239)]) : QE FA) = some x from hx)
      have q := old 23 _ (by decide) (by decide) rfl
      show h'[lbN lb (wL W).length a 23]? = some (eO 0 [vR (lbN lb (wL W).length a 24), vR (lbN lb (wL W).length a 25), vI (z 232), vI (z 233), vI (z 234), vI (z 235), vI (z 236), vI (z 237), vI (z 238), vI (z 239)])
      rw [e 23 (by decide), e 24 (by decide), e 25 (by decide)]
      exact q
    | 24, _, hx =>
      obtain rfl := Option.some.inj (show some (.inl (.inl (0, 120, f 24)) : QE FA) = some x from hx)
      rw [e 24 (by decide)]
      exact old 24 _ (by decide) (by decide) rfl
    | 25, _, hx =>
      obtain rfl := Option.some.inj (show some (.inl (.inl (0, 144, f 25)) : QE FA) = some x from hx)
      rw [e 25 (by decide)]
      exact old 25 _ (by decide) (by decide) rfl
    | 26, _, hx =>
      obtain rfl := Option.some.inj (show some (.inr (0, [vR 27, vR 28, vI (z 262), vI (z 263), vI (z 264), vI (z 265), vI (z 266), vI (z 267), vI (z 268), vI (z 269)]) : QE FA) = some x from hx)
      have q := old 26 _ (by decide) (by decide) rfl
      show h'[lbN lb (wL W).length a 26]? = some (eO 0 [vR (lbN lb (wL W).length a 27), vR (lbN lb (wL W).length a 28), vI (z 262), vI (z 263), vI (z 264), vI (z 265), vI (z 266), vI (z 267), vI (z 268), vI (z 269)])
      rw [e 26 (by decide), e 27 (by decide), e 28 (by decide)]
      exact q
    | 27, _, hx =>
      obtain rfl := Option.some.inj (show some (.inl (.inl (0, 120, f 27)) : QE FA) = some x from hx)
      rw [e 27 (by decide)]
      exact old 27 _ (by decide) (by decide) rfl
    | 28, _, hx =>
      obtain rfl := Option.some.inj (show some (.inl (.inl (0, 144, f 28)) : QE FA) = some x from hx)
      rw [e 28 (by decide)]
      exact old 28 _ (by decide) (by decide) rfl
    | 29, _, hx =>
      obtain rfl := Option.some.inj (show some (.inr (0, [vR 30, vR 31, vI (z 292), vI (z 293), vI (z 294), vI (z 295), vI (z 296), vI (z 297), vI (z 298), vI (z 299)]) : QE FA) = some x from hx)
      have q := old 29 _ (by decide) (by decide) rfl
      show h'[lbN lb (wL W).length a 29]? = some (eO 0 [vR (lbN lb (wL W).length a 30), vR (lbN lb (wL W).length a 31), vI (z 292), vI (z 293), vI (z 294), vI (z 295), vI (z 296), vI (z 297), vI (z 298), vI (z 299)])
      rw [e 29 (by decide), e 30 (by decide), e 31 (by decide)]
      exact q
    | 30, _, hx =>
      obtain rfl := Option.some.inj (show some (.inl (.inl (0, 120, f 30)) : QE FA) = some x from hx)
      rw [e 30 (by decide)]
      exact old 30 _ (by decide) (by decide) rfl
    | 31, _, hx =>
      obtain rfl := Option.some.inj (show some (.inl (.inl (0, 144, f 31)) : QE FA) = some x from hx)
      rw [e 31 (by decide)]
      exact old 31 _ (by decide) (by decide) rfl
    | 32, _, hx =>
      obtain rfl := Option.some.inj (show some (.inr (0, [vR 33, vR 34, vI (z 322), vI (z 323), vI (z 324), vI (z 325), vI (z 326), vI (z 327), vI (z 328), vI (z 329)]) : QE FA) = some x from hx)
      have q := old 32 _ (by decide) (by decide) rfl
      show h'[lbN lb (wL W).length a 32]? = some (eO 0 [vR (lbN lb (wL W).length a 33), vR (lbN lb (wL W).length a 34), vI (z 322), vI (z 323), vI (z 324), vI (z 325), vI (z 326), vI (z 327), vI (z 328), vI (z 329)])
      rw [e 32 (by decide), e 33 (by decide), e 34 (by decide)]
      exact q
    | 33, _, hx =>
      obtain rfl := Option.some.inj (show some (.inl (.inl (0, 120, f 33)) : QE FA) = some x from hx)
      rw [e 33 (by decide)]
      exact old 33 _ (by decide) (by decide) rfl
    | 34, _, hx =>
      obtain rfl := Option.some.inj (show some (.inl (.inl (0, 144, f 34)) : QE FA) = some x from hx)
      rw [e 34 (by decide)]
      exact old 34 _ (by decide) (by decide) rfl
    | 35, _, hx =>
      obtain rfl := Option.some.inj (show some (.inr (1, [vR 32, vR 7, vN, vR 36, vR 37, vR 38]) : QE FA) = some x from hx)
      have q := old 35 _ (by decide) (by decide) rfl
      show h'[lbN lb (wL W).length a 35]? = some (eO 1 [vR (lbN lb (wL W).length a 32), vR (lbN lb (wL W).length a 7), vN, vR (lbN lb (wL W).length a 36), vR (lbN lb (wL W).length a 37), vR (lbN lb (wL W).length a 38)])
      rw [e 35 (by decide), e 32 (by decide), e 7 (by decide), e 36 (by decide), e 37 (by decide), e 38 (by decide)]
      exact q
    | 36, _, hx =>
      obtain rfl := Option.some.inj (show some (.inl (.inl (0, 10, f 36)) : QE FA) = some x from hx)
      rw [e 36 (by decide)]
      exact old 36 _ (by decide) (by decide) rfl
    | 37, _, hx =>
      obtain rfl := Option.some.inj (show some (.inl (.inl (0, 32, f 37)) : QE FA) = some x from hx)
      rw [e 37 (by decide)]
      exact old 37 _ (by decide) (by decide) rfl
    | 38, _, hx =>
      obtain rfl := Option.some.inj (show some (.inl (.inl (0, 100, f 38)) : QE FA) = some x from hx)
      rw [e 38 (by decide)]
      exact old 38 _ (by decide) (by decide) rfl
    | 39, _, hx =>
      obtain rfl := Option.some.inj (show some (.inr (6, [vR 40, vR 41, vI (z 392), vI (z 393)]) : QE FA) = some x from hx)
      have q := old 39 _ (by decide) (by decide) rfl
      show h'[lbN lb (wL W).length a 39]? = some (eO 6 [vR (lbN lb (wL W).length a 40), vR (lbN lb (wL W).length a 41), vI (z 392), vI (z 393)])
      rw [e 39 (by decide), e 40 (by decide), e 41 (by decide)]
      exact q
    | 40, _, hx =>
      obtain rfl := Option.some.inj (show some (.inl (.inl (0, 144, f 40)) : QE FA) = some x from hx)
      rw [e 40 (by decide)]
      exact old 40 _ (by decide) (by decide) rfl
    | 41, _, hx =>
      obtain rfl := Option.some.inj (show some (.inl (.inl (0, 144, f 41)) : QE FA) = some x from hx)
      rw [e 41 (by decide)]
      exact old 41 _ (by decide) (by decide) rfl
    | t + 42, ci, _ => exact absurd ci (by omega)
  · obtain ⟨j, rfl⟩ : ∃ j, i = j + 42 := ⟨i - 42, by omega⟩
    have hx : (wL W ++ nwC (wL W).length k cnt N g M hh)[j]? = some x := (nth_eq _ _).symm.trans ((LW_tl (nwW W k cnt N g M hh) z f j).symm.trans ((nth_eq _ _).trans hx))
    by_cases c : j < (wL W).length
    · rw [List.getElem?_append_left c] at hx
      have q := up (j + 42) (by omega) _ (hR.2.1 (j + 42) x ((nth_eq _ _).symm.trans ((LW_tl W z f j).trans ((nth_eq _ _).trans hx)))) (by omega)
      rw [lbN_lo (by omega), q]
      rcases hL.2 j x hx with ⟨N', g', rfl⟩ | ⟨a', n', c', rfl, q2, q3⟩
      · rfl
      · show some (eO 8 [vR (lb a'), vI n', vR (lb c')]) = some (eO 8 [vR (lbN lb (wL W).length a a'), vI n', vR (lbN lb (wL W).length a c')])
        rw [lbN_lo q2, lbN_lo q3]
    · rw [List.getElem?_append_right (by omega)] at hx
      have m : ∀ t, t < 3 → lbN lb (wL W).length a (42 + (wL W).length + t) = a + t := fun t ht => lbN_mid ht
      rcases (show j - (wL W).length = 0 ∨ j - (wL W).length = 1 ∨ j - (wL W).length = 2 ∨ 3 ≤ j - (wL W).length by omega) with q | q | q | q
      · rw [q] at hx
        have hx := Option.some.inj (show some (.inr (8, [vR ((wL W).length + 43), vI (nI cnt), vR ((wL W).length + 44)]) : QE FA) = some x from hx)
        subst hx
        show h'[lbN lb (wL W).length a (j + 42)]? = some (eO 8 [vR (lbN lb (wL W).length a ((wL W).length + 43)), vI (nI cnt), vR (lbN lb (wL W).length a ((wL W).length + 44))])
        rw [show j + 42 = 42 + (wL W).length + 0 by omega, show (wL W).length + 43 = 42 + (wL W).length + 1 by omega, show (wL W).length + 44 = 42 + (wL W).length + 2 by omega, m 0 (by decide), m 1 (by decide), m 2 (by decide)]
        exact n0
      · rw [q] at hx
        have hx := Option.some.inj (show some (.inl (.inl (0, N, g)) : QE FA) = some x from hx)
        subst hx
        rw [show j + 42 = 42 + (wL W).length + 1 by omega, m 1 (by decide)]
        exact n1
      · rw [q] at hx
        have hx := Option.some.inj (show some (.inl (.inl (0, M, hh)) : QE FA) = some x from hx)
        subst hx
        rw [show j + 42 = 42 + (wL W).length + 2 by omega, m 2 (by decide)]
        exact n2
      · rw [List.getElem?_eq_none (by show 3 ≤ _; exact q)] at hx
        cases hx
