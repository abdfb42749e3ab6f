/-! image of the class: the told lists exactly -/
theorem t_forget (l : Launch) (G : PG) {h : PH} {a : Nat} {fs : List PV} (ha : h[a]? = some (eO 7 fs)) (hf : 2 < fs.length) : PMet l G yX7_forget cX7_forget 1 none 1 0 0 [vR a] h (qV (fun h' => h' = h.set a (eO 7 (fs.set 2 (vI 0))))) := by
  refine PMet.intro (by decide) (show 1 ≤ 1 by decide) ?_
  intro p e s m args below meth c X hr hlk hnm
  refine r_aload_n X dX7_forget_0 rfl ?_
  refine r_iconst (v := 0) X dX7_forget_1 (by decide) ?_
  refine r_put X fp_X7_21 dX7_forget_2 ha hf rfl rfl ?_
  exact r_ret_v X hr hlk dX7_forget_5 (Nat.le_refl _) (Nat.le_refl _) ⟨rfl, rfl⟩
theorem CPD.set {N S S1 D D1 a : Nat} {x : PE} {h h' : PH} (hC : CPD N S S1 D D1 h h') (h1 : D ≠ a) (h2 : D1 ≠ a) : CPD N S S1 D D1 h (h'.set a x) := by
  obtain ⟨n, g, f, k1, k2, k3, ⟨fs, k4, k5⟩, k6, k7⟩ := hC
  exact ⟨n, g, f, k1, k2, k3, ⟨fs, by rw [List.getElem?_set_ne h1.symm]; exact k4, k5⟩, by rw [List.getElem?_set_ne h2.symm]; exact k6, k7⟩
