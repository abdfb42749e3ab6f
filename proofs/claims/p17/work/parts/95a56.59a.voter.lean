/-! a voter more -/
def nwT (g : FA) (v : Nat) (a b e p : Int32) : FA := upd (upd (upd (upd (upd (upd g v a) (20 + v) b) (40 + v) e) (60 + v) p) (80 + v) 0) (100 + v) 0
def nwG (g : FA) (v : Nat) (b : Int32) : FA := upd (upd (upd g (7 + v) b) (27 + v) 0) (47 + v) 0
theorem WYR.wide {W : TXW} {nv nw : Nat} {zr : Nat → Int32} {g : FA} (h : WYR W nv nw zr g) : WYR W (nv + 1) nw zr g := by
  obtain ⟨a1, a2, a3, a4, a5⟩ := h
  refine ⟨a1, a2, a3, a4, fun i hi => ?_⟩
  obtain ⟨v, a, hv, h⟩ := a5 i hi
  exact ⟨v, a, by omega, h⟩
theorem SKR.wide {W : TXW} {nv ns : Nat} {zr : Nat → Int32} {g : FA} (h : SKR W nv ns zr g) : SKR W (nv + 1) ns zr g := by
  obtain ⟨a1, a2, a3, a4, a5⟩ := h
  refine ⟨a1, a2, a3, a4, fun i hi => ?_⟩
  obtain ⟨b1, b2, b3⟩ := a5 i hi
  refine ⟨b1, b2, ?_⟩
  rcases b3 with b | b | ⟨c1, c2, v, x, hv, hx⟩
  · exact Or.inl b
  · exact Or.inr (Or.inl b)
  · exact Or.inr (Or.inr ⟨c1, c2, v, x, by omega, hx⟩)
theorem MRS.wide {nv : Nat} {m g : FA} (h : MRS nv m g) : MRS (nv + 1) m g := by
  intro i hi
  rcases h i hi with q | ⟨v, e, hv, q⟩
  · exact Or.inl q
  · exact Or.inr ⟨v, e, by omega, q⟩
theorem cr_new {nv : Nat} (h20 : nv < 20) {z z' : Nat → Int32} {f f' r r' : Nat → FA} {a b e p : Int32} (hb : b = -1 ∨ b = 0 ∨ b = 1) (he : ∃ u, u ≤ 11 ∧ e = nI u) (hp : ∃ u, u ≤ 9 ∧ p = nI u) (h : CRL 2 nv z f r) (z22 : z' 22 = nI (nv + 1)) (zo : ∀ j, 22 < j → j < 30 → z' j = z j) (f3 : f' 3 = nwT (f 3) nv a b e p) (f4 : f' 4 = f 4) (r1 : r' 1 = nwG (r 1) nv b) (r4 : r' 4 = upd (r 4) nv a) (r5 : r' 5 = upd (r 5) nv e) (r6 : r' 6 = upd (r 6) nv p) : CRL 2 (nv + 1) z' f' r' := by
  obtain ⟨hn, hs, ht, hm, hr⟩ := h
  have g : ∀ j, (j < 7 ∨ 67 ≤ j) → nwG (r 1) nv b j = r 1 j := fun j hj => by unfold nwG; rw [pk_un (by omega), pk_un (by omega), pk_un (by omega)]
  have go : ∀ u, u < nv → ∀ w, (w = 7 ∨ w = 27 ∨ w = 47) → nwG (r 1) nv b (w + u) = r 1 (w + u) := fun u hu w hw => by unfold nwG; rw [pk_un (by omega), pk_un (by omega), pk_un (by omega)]
  have to : ∀ u, u < nv → ∀ w, (w = 0 ∨ w = 20 ∨ w = 40 ∨ w = 60 ∨ w = 80 ∨ w = 100) → nwT (f 3) nv a b e p (w + u) = f 3 (w + u) := fun u hu w hw => by unfold nwT; rw [pk_un (by omega), pk_un (by omega), pk_un (by omega), pk_un (by omega), pk_un (by omega), pk_un (by omega)]
  refine ⟨by omega, ?_, ?_, ?_, ?_⟩
  · rw [r1]
    obtain ⟨a1, a2, a3, a4, a5, a6, a7, a8⟩ := hs
    exact ⟨z22, ((zo 23 (by omega) (by omega)).trans a2).trans (g 4 (by omega)).symm, ((zo 24 (by omega) (by omega)).trans a3).trans (g 1 (by omega)).symm, ((zo 25 (by omega) (by omega)).trans a4).trans (g 0 (by omega)).symm, ((zo 26 (by omega) (by omega)).trans a5).trans (g 5 (by omega)).symm, ((zo 27 (by omega) (by omega)).trans a6).trans (g 6 (by omega)).symm, ((zo 28 (by omega) (by omega)).trans a7).trans (g 2 (by omega)).symm, ((zo 29 (by omega) (by omega)).trans a8).trans (g 3 (by omega)).symm⟩
  · show CRt (nv + 1) (f' 3) (r' 1) (r' 4) (r' 5) (r' 6)
    rw [f3, r1, r4, r5, r6]
    intro u hu
    by_cases q : u = nv
    · subst q
      refine ⟨?_, ?_, ?_, ?_, ?_, ?_, ?_, ?_, ?_⟩
      · unfold nwT
        rw [pk_un (by omega), pk_un (by omega), pk_un (by omega), pk_un (by omega), pk_un (by omega), pk_us, pk_us]
      · unfold nwT nwG
        rw [pk_un (by omega), pk_un (by omega), pk_un (by omega), pk_un (by omega), pk_us, pk_un (by omega), pk_un (by omega), pk_us]
      · unfold nwT
        rw [pk_un (by omega), pk_un (by omega), pk_un (by omega), pk_us, pk_us]
      · unfold nwT
        rw [pk_un (by omega), pk_un (by omega), pk_us, pk_us]
      · unfold nwT nwG
        rw [pk_un (by omega), pk_us, pk_un (by omega), pk_us]
      · unfold nwT nwG
        rw [pk_us, pk_us]
      · rw [pk_us]
        exact he
      · rw [pk_us]
        exact hp
      · unfold nwG
        rw [pk_un (by omega), pk_un (by omega), pk_us]
        exact hb
    · have hu' : u < nv := by omega
      obtain ⟨b1, b2, b3, b4, b5, b6, b7, b8, b9⟩ := ht u hu'
      have t0 : nwT (f 3) nv a b e p u = f 3 u := by
        have := to u hu' 0 (Or.inl rfl)
        rw [Nat.zero_add] at this
        exact this
      rw [t0, to u hu' 20 (by omega), to u hu' 40 (by omega), to u hu' 60 (by omega), to u hu' 80 (by omega), to u hu' 100 (by omega), go u hu' 7 (by omega), go u hu' 27 (by omega), go u hu' 47 (by omega), pk_un q, pk_un q, pk_un q]
      exact ⟨b1, b2, b3, b4, b5, b6, b7, b8, b9⟩
  · show MRS (nv + 1) (f' 4) (r' 1)
    rw [f4, r1]
    exact (hm.cong (fun _ _ => rfl) (fun j h1 h2 => g j (by omega))).wide
  · rw [r1]
    unfold CRr
    rw [g 1 (by omega), g 3 (by omega)]
    exact hr
