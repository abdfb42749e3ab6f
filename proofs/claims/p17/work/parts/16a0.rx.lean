/-! exact runs of methods without calls -/
abbrev FA : Type := Nat → Int32
def rdF (f : FA) : Nat → Int32 := f
def wrF (f : FA) (k : Nat) (z : Int32) : FA := upd f k z
def fzF : QZ FA := fun x k => k x
theorem wrF_ok (a : FA) (k : Nat) (z : Int32) : rdF (wrF a k z) = upd (rdF a) k z := rfl
theorem fzF_ok (x : Int32) (k : Int32 → QT FA) : fzF x k = k x := rfl
noncomputable abbrev rnX (c : List PO) (F : Nat) : QK FA := run (mkc rdF wrF fzF (fun _ _ _ => none) c 0) F
def RX (c : List PO) (i : Nat) (ls : List (Option PV)) (st : List PV) (L : QH FA) (res : Option PV × QH FA) : Prop := ∃ N, ∀ F, N ≤ F → rnX c F i ls st L = some res
section RXs
variable {c : List PO} {i i' : Nat} {ls ls' : List (Option PV)} {st st' : List PV} {L L' : QH FA} {res : Option PV × QH FA}
theorem rx_b (n : Nat) (hs : ∀ F, rnX c (F + n) i ls st L = rnX c F i' ls' st' L') (h : RX c i' ls' st' L' res) : RX c i ls st L res := by
  obtain ⟨N, hN⟩ := h
  refine ⟨N + n, fun F hF => ?_⟩
  obtain ⟨F', rfl⟩ : ∃ F', F = F' + n := ⟨F - n, by omega⟩
  rw [hs]
  exact hN F' (by omega)
theorem rx_ret (hs : ∀ F, rnX c (F + 1) i ls st L = some res) : RX c i ls st L res := by
  refine ⟨1, fun F hF => ?_⟩
  obtain ⟨F', rfl⟩ : ∃ F', F = F' + 1 := ⟨F - 1, by omega⟩
  exact hs F'
theorem rx_t {b it ie : Nat} {x y : Int32} (hs : ∀ F, rnX c (F + 1) i ls st L = bif pcmp b x y then rnX c F it ls' st' L else rnX c F ie ls' st' L) (hb : pcmp b x y = true) (h : RX c it ls' st' L res) : RX c i ls st L res := rx_b 1 (fun F => by rw [hs, hb]; rfl) h
theorem rx_f {b it ie : Nat} {x y : Int32} (hs : ∀ F, rnX c (F + 1) i ls st L = bif pcmp b x y then rnX c F it ls' st' L else rnX c F ie ls' st' L) (hb : pcmp b x y = false) (h : RX c ie ls' st' L res) : RX c i ls st L res := rx_b 1 (fun F => by rw [hs, hb]; rfl) h
theorem rx_g {g : Bool} (hs : ∀ F, rnX c (F + 1) i ls st L = bif g then rnX c F i' ls' st' L' else none) (hg : g = true) (h : RX c i' ls' st' L' res) : RX c i ls st L res := rx_b 1 (fun F => by rw [hs, hg]; rfl) h
end RXs
theorem rx_met {l : Launch} {G : PG} {H h : PH} {lb : Nat → Nat} {N0 k : Nat} {As : List PV} {L L' : QH FA} {r : Option PV} (hg : mGd k) (hi : LbI lb N0) (hl : Nat.ble As.length (mN k) = true) (hx : RX (mP k) 0 (As.map some ++ List.replicate (mN k - As.length) none) [] L (r, L')) (hR : Rep rdF H lb N0 L h) : PMet l G (mY k) (mC k) (mN k) (mR k) 1 0 0 (As.map (sv lb)) h (fun r1 h1 => r1 = r.map (sv lb) ∧ Rep rdF H lb N0 L' h1) := by
  obtain ⟨N, hN⟩ := hx
  have e2 := hN N (Nat.le_refl _)
  obtain ⟨hy, hO, hz⟩ := hg
  refine PMet.intro hy (by rw [List.length_map]; exact Nat.le_of_ble_eq_true hl) ?_
  intro p e s m args below meth c X hr hlk hnm
  have key := run_ok (l := l) (d := 0) (e := e) (below := below) (Φ := fun r1 h1 => r1 = r.map (sv lb) ∧ Rep rdF H lb N0 L' h1) wrF_ok fzF_ok hi (call := fun _ _ _ => none) (fun k As L r L' h => by cases h) hO X hr hlk (fun h1 hR1 => ⟨rfl, hR1⟩) N 0 _ _ _ e2 h hR
  have key : PW p l e (rmD (0 + 1) 0 0) s m args below meth c G (mN k) _ 0 0 h (hpc (mP k)) _ _ := key
  rw [hz] at key
  have e3 : sls lb (As.map some ++ List.replicate (mN k - As.length) none) = (As.map (sv lb)).map some ++ List.replicate (mN k - (As.map (sv lb)).length) none := by simp [sls, Function.comp_def]
  rw [e3] at key
  exact key
/-- the end of such a run: what lies outside E is as it was -/
theorem rx_fin {lam : Nat → Nat} {T : List AC} {N : Nat} {h h1 : PH} {L L' : QH FA} {E : List Nat} {eff : List (Nat × Nat)} (hN : ∀ k c, nth T k = some c → k < N) (hT : HOK lam [] T h) (hR : Rep rdF h lam N L h) (hR1 : Rep rdF h lam N L' h1) (hs : ∀ k, k ∉ E → L'[k]? = L[k]?) (hc : ∀ k, k ∈ E → ∀ c, nth T k = some c → ∃ x, L'[k]? = some x ∧ cellOK lam [] c (se rdF lam x)) (hk : ∀ k, k ∈ E → ∀ x x', L[k]? = some x → L'[k]? = some x' → kpt (fun j => (k, j) ∈ eff) (se rdF lam x) (se rdF lam x')) : FRM lam eff h h1 ∧ HOK lam [] T h1 := by
  obtain ⟨l1, l2, l3, l4⟩ := hR
  obtain ⟨m1, m2, m3, m4⟩ := hR1
  have hat : ∀ k, k < N → ∃ x x', L[k]? = some x ∧ L'[k]? = some x' := fun k hk => ⟨_, _, List.getElem?_eq_getElem (by omega), List.getElem?_eq_getElem (by omega)⟩
  constructor
  · refine ⟨m3, fun a x0 hx0 => ?_⟩
    by_cases ha : ∃ k, k < N ∧ a = lam k
    · obtain ⟨k, hkN, rfl⟩ := ha
      obtain ⟨x, x', hx, hx'⟩ := hat k hkN
      have e0 := l2 k x hx
      have e1 := m2 k x' hx'
      rw [hx0] at e0
      have e0 := Option.some.inj e0
      subst e0
      refine ⟨_, e1, ?_⟩
      by_cases hE : k ∈ E
      · exact (hk k hE x x' hx hx').mono (fun j hj => ⟨k, hj, rfl⟩)
      · have := hs k hE
        rw [hx, hx'] at this
        have := Option.some.inj this
        subst this
        exact kpt.refl _
    · exact ⟨x0, by rw [m4 a (fun k hk e => ha ⟨k, hk, e⟩)]; exact hx0, kpt.refl _⟩
  · intro k c hkc
    have hkN := hN k c hkc
    obtain ⟨x, x', hx, hx'⟩ := hat k hkN
    by_cases hE : k ∈ E
    · obtain ⟨y, h2, h3⟩ := hc k hE c hkc
      exact ⟨_, m2 k y h2, h3⟩
    · obtain ⟨y, h2, h3⟩ := hT k c hkc
      refine ⟨y, ?_, h3⟩
      have := hs k hE
      rw [hx, hx'] at this
      have := Option.some.inj this
      subst this
      rw [l2 k _ hx] at h2
      have h2 := Option.some.inj h2
      rw [m2 k _ hx', h2]
