/-! summaries of the reference's methods told by hand, at its own places -/
theorem ex_dd {lam : Nat → Nat} (h : PH) (hX : EXR lam h) : DDH lam h := by
  obtain ⟨f, h1, h2⟩ := hX
  exact ⟨f 19, h1 19 (by decide), h2.2.2.1⟩
theorem rm_1 (l : Launch) (G : PG) (nm : Nat) : SUOK (lamM nm) TRf (EXR (lamM nm)) l G kr_m1 := keepsAhead_ok (lamM_i nm)
theorem rm_2 (l : Launch) (G : PG) (nm : Nat) : SUOK (lamM nm) TRf (EXR (lamM nm)) l G kr_m2 := lawTells_ok l G (lamM nm) (lamM_i nm)
theorem rm_3 (l : Launch) (G : PG) (nm : Nat) : SUOK (lamM nm) TRf (EXR (lamM nm)) l G kr_m3 := does_0 l G (lamM nm) (lamM_r nm) _ (EXK_of (lamM_r nm)) ex_dd
theorem rm_4 (l : Launch) (G : PG) (nm : Nat) : SUOK (lamM nm) TRf (EXR (lamM nm)) l G kr_m4 := does_1 l G (lamM nm) (lamM_r nm) _ (EXK_of (lamM_r nm)) ex_dd
theorem rm_5 (l : Launch) (G : PG) (nm : Nat) : SUOK (lamM nm) TRf (EXR (lamM nm)) l G kr_m5 := does_2 l G (lamM nm) (lamM_r nm) _ (EXK_of (lamM_r nm)) ex_dd
theorem rm_6 (l : Launch) (G : PG) (nm : Nat) : SUOK (lamM nm) TRf (EXR (lamM nm)) l G kr_m6 := does_3 l G (lamM nm) (lamM_r nm) _ (EXK_of (lamM_r nm)) ex_dd
theorem rm_7 (l : Launch) (G : PG) (nm : Nat) : SUOK (lamM nm) TRf (EXR (lamM nm)) l G kr_m7 := does_4 l G (lamM nm) (lamM_r nm) _ (EXK_of (lamM_r nm)) ex_dd
theorem rm_8 (l : Launch) (G : PG) (nm : Nat) : SUOK (lamM nm) TRf (EXR (lamM nm)) l G kr_m8 := does_5 l G (lamM nm) (lamM_r nm) _ (EXK_of (lamM_r nm)) ex_dd
theorem rm_9 (l : Launch) (G : PG) (nm : Nat) : SUOK (lamM nm) TRf (EXR (lamM nm)) l G kr_m9 := does_6 l G (lamM nm) (lamM_r nm) _ (EXK_of (lamM_r nm)) ex_dd
theorem rm_10 (l : Launch) (G : PG) (nm : Nat) : SUOK (lamM nm) TRf (EXR (lamM nm)) l G kr_m10 := does_7 l G (lamM nm) (lamM_r nm) _ (EXK_of (lamM_r nm)) ex_dd
theorem rm_11 (l : Launch) (G : PG) (nm : Nat) : SUOK (lamM nm) TRf (EXR (lamM nm)) l G kr_m11 := does_8 l G (lamM nm) (lamM_r nm) _ (EXK_of (lamM_r nm)) ex_dd
theorem rm_12 (l : Launch) (G : PG) (nm : Nat) : SUOK (lamM nm) TRf (EXR (lamM nm)) l G kr_m12 := does_9 l G (lamM nm) (lamM_r nm) _ (EXK_of (lamM_r nm)) ex_dd
theorem rm_13 (l : Launch) (G : PG) (nm : Nat) : SUOK (lamM nm) TRf (EXR (lamM nm)) l G kr_m13 := does_10 l G (lamM nm) (lamM_r nm) _ (EXK_of (lamM_r nm)) ex_dd
theorem rm_14 (l : Launch) (G : PG) (nm : Nat) : SUOK (lamM nm) TRf (EXR (lamM nm)) l G kr_m14 := does_11 l G (lamM nm) (lamM_r nm) _ (EXK_of (lamM_r nm)) ex_dd
theorem rm_15 (l : Launch) (G : PG) (nm : Nat) : SUOK (lamM nm) TRf (EXR (lamM nm)) l G kr_m15 := does_12 l G (lamM nm) (lamM_r nm) _ (EXK_of (lamM_r nm)) ex_dd
theorem rm_16 (l : Launch) (G : PG) (nm : Nat) : SUOK (lamM nm) TRf (EXR (lamM nm)) l G kr_m16 := does_13 l G (lamM nm) (lamM_r nm) _ (EXK_of (lamM_r nm)) ex_dd
theorem rm_17 (l : Launch) (G : PG) (nm : Nat) : SUOK (lamM nm) TRf (EXR (lamM nm)) l G kr_m17 := does_14 l G (lamM nm) (lamM_r nm) _ (EXK_of (lamM_r nm)) ex_dd
theorem rm_18 (l : Launch) (G : PG) (nm : Nat) : SUOK (lamM nm) TRf (EXR (lamM nm)) l G kr_m18 := does_15 l G (lamM nm) (lamM_r nm) _ (EXK_of (lamM_r nm)) ex_dd
theorem rm_19 (l : Launch) (G : PG) (nm : Nat) : SUOK (lamM nm) TRf (EXR (lamM nm)) l G kr_m19 := turned_ok l G (lamM nm) (lamM_i nm) (lamM_r nm) _ (EXK_of (lamM_r nm)) (rm_2 l G nm)
theorem rm_20 (l : Launch) (G : PG) (nm : Nat) : SUOK (lamM nm) TRf (EXR (lamM nm)) l G kr_m20 := findsParts_ok (lamM_i nm)
theorem rm_21 (l : Launch) (G : PG) (nm : Nat) : SUOK (lamM nm) TRf (EXR (lamM nm)) l G kr_m21 := thinks_ok (lamM_i nm)
theorem rm_22 (l : Launch) (G : PG) (nm : Nat) : SUOK (lamM nm) TRf (EXR (lamM nm)) l G kr_m22 := endsThought_ok (lamM_i nm)
theorem rm_23 (l : Launch) (G : PG) (nm : Nat) : SUOK (lamM nm) TRf (EXR (lamM nm)) l G kr_m23 := undo_ok (lamM_i nm)
theorem rm_24 (l : Launch) (G : PG) (nm : Nat) : SUOK (lamM nm) TRf (EXR (lamM nm)) l G kr_m24 := middleOf_ok (lamM_i nm)
