def EXT : PH → Prop := fun _ => True
theorem sun {lam : Nat → Nat} {T : List AC} {EX : PH → Prop} {l : Launch} {G : PG} : ∀ su, su ∈ ([] : List SU) → SUOK lam T EX l G su := fun _ h => by cases h
theorem suc {lam : Nat → Nat} {T : List AC} {EX : PH → Prop} {l : Launch} {G : PG} {su : SU} {t : List SU} (h1 : SUOK lam T EX l G su) (h2 : ∀ su, su ∈ t → SUOK lam T EX l G su) : ∀ su', su' ∈ su :: t → SUOK lam T EX l G su' := by
  intro su' h
  rcases List.mem_cons.mp h with rfl | h'
  · exact h1
  · exact h2 su' h'
theorem hiL {wr : Nat → Bool} {lam : Nat → Nat} (hl : ∀ k, wr k = true → ∀ k', lam k = lam k' → k = k') {eff : List (Nat × Nat)} (h : eff.all (fun e => wr e.1) = true) : ∀ k j, (k, j) ∈ eff → ∀ k', lam k = lam k' → k = k' := fun k j hm => hl k (List.all_eq_true.mp h (k, j) hm)
