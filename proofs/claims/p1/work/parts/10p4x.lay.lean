theorem li_g {n : Nat} : LbI (lbP pm_g n) 4 := lbP_inj (by decide +kernel)
theorem lt_g {n : Nat} (k : Nat) (hk : k < 4) : lbP pm_g n k < n + 103 := by
  have h : ∀ k, k < 4 → (nth pm_g k).getD 0 < 103 := by decide +kernel
  have := h k hk
  unfold lbP
  omega
theorem rp_g {h0 T : PH} {n : Nat} (hn : h0.length = n) : Rep rdF (h0 ++ (frC n ++ T)) (lbP pm_g n) 4 (gL (fun _ => 0) (fun _ => 0) 0 0) (h0 ++ (frC n ++ T)) := by
  refine rep_i rfl ?_
  intro k x hk
  rcases k with _ | _ | _ | _ | k
  · cases hk
    exact apG (k := 92) hn rfl
  · cases hk
    exact apG (k := 93) hn rfl
  · cases hk
    exact apG (k := 94) hn rfl
  · cases hk
    exact apG (k := 0) hn rfl
  · cases hk
theorem x_game (l : Launch) (G : PG) (h0 : PH) (n : Nat) (hn : h0.length = n) (T : PH) (a b : Int32) : PMet l G yX11_game cX11_game 3 (some .int) 24 0 0 [vR (n + 0), vI a, vI b] (h0 ++ (frC n ++ T)) (qI (fun x h' => x = sp_game a b ∧ kp n 103 T h')) := by
  obtain ⟨K', f', s', l', N, hN⟩ := gm_all a b
  exact ev_met (k := 34) wrF_ok fzF_ok li_g (hN N (Nat.le_refl _)) (rp_g hn) (fun h' hR => ⟨_, rfl, rfl, kp_rep (C := frC n) hn rfl hR lt_g⟩)
