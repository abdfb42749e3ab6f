/-! at the start: nothing is told -/
theorem CT_fresh {h0 L1 : PH} {n : Nat} (hn : h0.length = n) : ∃ f, CT 12 n (h0 ++ (frC n ++ L1)) (fun _ => 0) f := by
  have hC : HOK (lamC n) [] (TBc 0) (h0 ++ (frC n ++ L1)) := C_fresh hn
  have h103 : ∀ k, k < 103 → lamC n k = n + k := fun k hk => by
    show n + mpC k = n + k
    unfold mpC
    rw [if_pos hk]
  obtain ⟨z, f, h1, -⟩ := CT_of (RL_b (b := 0) (by decide) h103 hC).1
  refine ⟨f, fun i hi => ⟨?_, (h1 i hi).2⟩⟩
  have key : ∀ k, ∀ x : PE, (frC n)[k]? = some x → (h0 ++ (frC n ++ L1))[n + k]? = some x := fun k x hx => at_r hn hx
  match i, hi with
  | 0, _ => exact ⟨9, _, key 12 _ rfl, rfl⟩
  | 1, _ => exact ⟨9, _, key 14 _ rfl, rfl⟩
  | 2, _ => exact ⟨9, _, key 16 _ rfl, rfl⟩
  | 3, _ => exact ⟨9, _, key 18 _ rfl, rfl⟩
  | 4, _ => exact ⟨9, _, key 20 _ rfl, rfl⟩
  | 5, _ => exact ⟨9, _, key 22 _ rfl, rfl⟩
  | 6, _ => exact ⟨9, _, key 24 _ rfl, rfl⟩
  | 7, _ => exact ⟨9, _, key 26 _ rfl, rfl⟩
  | 8, _ => exact ⟨9, _, key 28 _ rfl, rfl⟩
  | n + 9, hi => exact absurd hi (by omega)
theorem TA_fresh {fc : Nat → FA} {wf : Nat → Int32} : TA (fun _ => 0) fc zM (fM wf) := by
  intro i hi
  match i, hi with
  | 0, _ => exact SL.nil
  | 1, _ => exact SL.nil
  | 2, _ => exact SL.nil
  | 3, _ => exact SL.nil
  | 4, _ => exact SL.nil
  | 5, _ => exact DLs.nil
  | 6, _ => exact SL.nil
  | 7, _ => exact ⟨0, Nat.zero_le _, rfl, rfl, fun _ => 0, fun _ => 0, fun j hj => absurd hj (Nat.not_lt_zero j), fun k hk => rfl⟩
  | 8, _ => exact ⟨0, Nat.zero_le _, rfl, rfl, fun _ => 0, fun _ => 0, fun j hj => absurd hj (Nat.not_lt_zero j), fun k hk => rfl⟩
  | n + 9, hi => exact absurd hi (by omega)
theorem mpC_lt (k : Nat) : mpC k < 103 := by
  unfold mpC
  split
  · assumption
  · split <;> omega
theorem ly_start {h0 : PH} {n : Nat} {wf : Nat → Int32} (hn : h0.length = n) (hw : wf 132 = 32) : LIY TP n (n + 103) (h0 ++ (frC n ++ frM (n + 103) wf)) := by
  have hn1 : (h0 ++ frC n).length = n + 103 := apL hn rfl
  have hM := M_fresh (L1 := []) (wf := wf) hn1 hw
  have hL := LR_fresh (L1 := []) (wf := wf) hn1
  rw [List.append_nil, List.append_assoc] at hM hL
  have h0' : (h0 ++ (frC n ++ frM (n + 103) wf))[n + 103]? = (frM (n + 103) wf)[0]? := by
    rw [← List.append_assoc, List.getElem?_append_right (by omega), hn1, Nat.sub_self]
  obtain ⟨fc, hc⟩ := CT_fresh (L1 := frM (n + 103) wf) hn
  refine ⟨lamC n, 0, ⟨Or.inl rfl, lamC_r n, fun k hk => ?_, C_fresh hn, hM.1, hM.2, ⟨_, _, h0'.trans rfl, rfl⟩, ?_⟩, ⟨_, fc, zM, fM wf, hc, MT_rep hL, TA_fresh⟩, fun e => absurd e (by decide)⟩
  · show n + mpC k = n + k
    unfold mpC
    rw [if_pos hk]
  · intro k j hj z
    have h1 : n + mpC k = n + 103 + j := z
    have := mpC_lt k
    omega
