theorem inv_text_c (l : Launch) (G : PG) {nc nm : Nat} {h : PH} (hI : LIV nc nm h) (kd : Int32) : ∃ Φ0, PMet l G yX11_text cX11_text 3 (some .int) 31 3 488 [vR nc, vI kd] h Φ0 ∧ ∀ r h', Φ0 r h' → (∃ x, r = some (vI x)) ∧ LIV nc nm h' := by
  obtain ⟨lam, b, fs, hb, hl, e0, hC, hM, hX, ⟨hx, hf⟩, hd⟩ := hI
  have hb1 : b ≤ 1 := by omega
  subst e0
  refine ⟨_, text_ok l G lam hl (TB_TC hb1 hC), ?_⟩
  rintro r h' ⟨x, rfl, lam', hl', hH', hF, hk, h103⟩
  have hn : ∀ k j, (k, j) ∈ txE → ∀ k', k' < 43 → lam k ≠ nm + k' := fun k j hm k' hk' => hd k k' hk'
  have hlt : ∀ j, j < 43 → nm + j < h.length := fun j hj => by
    have hc : ∃ c, nth TRf j = some c := by
      rw [nth_eq]
      exact ⟨_, List.getElem?_eq_getElem (by rw [TRf_len]; exact hj)⟩
    obtain ⟨c, hc⟩ := hc
    obtain ⟨y, hy, -⟩ := hM j c hc
    exact (List.getElem?_eq_some_iff.mp hy).1
  refine ⟨⟨x, rfl⟩, lam', b, fs, hb, hl', h103 0 (by decide), TC_TB hl hC hH' (h103 0 (by decide)) hF (by decide), HOK_other hF (fun k j hm k' hk' => hn k j hm k' (by rw [TRf_len] at hk'; exact hk')) hM, ?_, ⟨hF.other (fun k j hm => hn k j hm 0 (by decide)) hx, hf⟩, ?_⟩
  · obtain ⟨f, h1, h2⟩ := hX
    exact ⟨f, fun q hq => hF.other (fun k j hm => hn k j hm q (XR_lt q hq)) (h1 q hq), h2⟩
  · intro k j hj z
    rcases hk k with e | e
    · exact hd k j hj (e ▸ z)
    · have := hlt j hj
      omega
