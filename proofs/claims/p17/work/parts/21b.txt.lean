/-! text and image of the reference, with more told of what they leave alone -/
/-- what stays over a text: voters, counts of lists, whether there is an image, the image -/
def KZ : List Nat := [6, 43, 46, 50, 52, 54, 57, 61, 63, 65, 73]
def TKp (z : Nat → Int32) (f : Nat → FA) (z' : Nat → Int32) (f' : Nat → FA) : Prop := (∀ j, j ∈ KZ → z' j = z j) ∧ f' 42 = f 42
theorem kzn {j a : Nat} (hj : j ∈ KZ) (h : KZ.contains a = false) : j ≠ a := by
  rintro rfl
  rw [List.contains_iff_mem.mpr hj] at h
  cases h
theorem TKp.set {z z' : Nat → Int32} {f f' : Nat → FA} {a : Nat} {x : Int32} (h : TKp z f z' f') (ha : KZ.contains a = false) : TKp z f (uZ z' a x) f' := ⟨fun j hj => by rw [uZ_n (kzn hj ha)]; exact h.1 j hj, h.2⟩
theorem TKp.row {z z' : Nat → Int32} {f f' : Nat → FA} {r : Nat} {g : FA} (h : TKp z f z' f') (hr : 42 ≠ r) : TKp z f z' (uA f' r g) := ⟨h.1, by rw [uA_ne hr]; exact h.2⟩
/-- fields over an image: taken, or gone back to -/
def IMX (x1 : Int32) (z : Nat → Int32) (f : Nat → FA) (z' : Nat → Int32) (f' : Nat → FA) : Prop := (x1 = 0 → z 73 = 0 → (∀ j, j ≠ 0 → z' j = z j) ∧ f' = f) ∧ (x1 = 1 → (∀ j, j ≠ 0 → j ≠ 72 → j ≠ 73 → j ≠ 74 → z' j = z j) ∧ (∀ p a, p < 2439 → layp p = (0, a) → a ≠ 0 → a ≠ 72 → a ≠ 73 → a ≠ 74 → f' 42 p = z a)) ∧ (x1 = 0 → ¬ z 73 = 0 → f' 42 = f 42 ∧ (∀ p a, p < 2439 → layp p = (0, a) → a ≠ 3 → z' a = f 42 p) ∧ (∀ a, a ≠ 0 → a ≠ 3 → a ≠ 72 → a ≠ 73 → a ≠ 74 → (∀ p, p < 2439 → layp p ≠ (0, a)) → z' a = z a))
theorem image_x (d0 : Nat) {z : Nat → Int32} {f : Nat → FA} (x1 : Int32) (hx : x1 = 0 ∨ x1 = 1) (hz : BNDz z) (hB : BNDf f) (hE : EXF f) : ∃ r z' f', mcall (d0 + 3) 219 [vR 0, vI x1] (LR z f) = some (some (vI r), LR z' f') ∧ BNDz z' ∧ BNDf f' ∧ EXF f' ∧ r = (if x1 = 0 ∧ z 73 = 0 then 0 else 1) ∧ z' 73 = r ∧ IMX x1 z f z' f' := by
  by_cases c : x1 = 0 ∧ z 73 = 0
  · refine ⟨0, _, f, mcall_i (mq219 (cu := [])).2.2 rfl (vc219_0 _ _ _ _ _ _ ⟨fun q => absurd c.1 q, fun _ => ⟨fun q => absurd c.2 q, fun _ => rfl⟩⟩), hz.set (b_no (by decide)), hB, hE, by rw [if_pos c], ?_, fun _ _ => ⟨fun j hj => uZ_n hj, rfl⟩, fun q => absurd (q.symm.trans c.1) (by decide), fun _ q => absurd c.2 q⟩
    rw [uZ_n (by decide)]
    exact c.2
  · have b01 : inb 2147483648 2147483649 x1 := by rcases hx with rfl | rfl <;> exact inb_J (by decide) (by decide)
    have hz0 : BNDz (uZ (uZ (uZ (uZ z 0 0) 72 x1) 73 1) 74 0) := (((hz.set (b_no (by decide))).set (b_in (a := 2147483648) (b := 2147483649) (by decide) b01)).set (b_in (a := 2147483648) (b := 2147483649) (by decide) (inb_J (by decide) (by decide)))).set (b_in (a := 2147483648) (b := 2147486548) (by decide) (inb_J (by decide) (by decide)))
    have z73' : (uZ (uZ (uZ (uZ z 0 0) 72 x1) 73 1) 74 0) 73 = 1 := by rw [uZ_n (by decide), uZ_s]
    rcases hx with rfl | rfl
    · obtain ⟨z', f', g1, g2⟩ := image_r d0 (tk := false) (x1 := 0) (z := z) (f := f) rfl (fun _ q => c ⟨rfl, q⟩)
      obtain ⟨q1, q2, q3, q4⟩ := im_f hz0 hB hE g2
      refine ⟨1, _, f', g1, ?_, q2, q3, by rw [if_neg c], ?_, fun _ q => absurd ⟨rfl, q⟩ c, fun q => absurd q (by decide), fun _ _ => ?_⟩
      · exact q1.set (b_in (a := 2147483648) (b := 2147483654) (by decide) (inb_J (by decide) (by decide)))
      · show uZ z' 3 0 73 = 1
        rw [uZ_n (by decide), q4]
        exact z73'
      · obtain ⟨k1, k2, k3⟩ := g2.2.2.2 rfl
        refine ⟨k1, fun p a hp hl ha => ?_, fun a a0 a3 a72 a73 a74 hn => ?_⟩
        · have e := k2 p hp
          rw [hl] at e
          show uZ z' 3 0 a = _
          rw [uZ_n ha]
          exact e
        · have e := k3 (0, a) (show (0 : Nat) ≠ 42 by decide) (fun q => a74 (Prod.mk.inj q).2) hn
          have e : z' a = (uZ (uZ (uZ (uZ z 0 0) 72 0) 73 1) 74 0) a := e
          show uZ z' 3 0 a = _
          rw [uZ_n a3, e, uZ_n a74, uZ_n a73, uZ_n a72, uZ_n a0]
    · obtain ⟨z', f', g1, g2⟩ := image_r d0 (tk := true) (x1 := 1) (z := z) (f := f) rfl (fun q => absurd rfl q)
      obtain ⟨q1, q2, q3, q4⟩ := im_t hz0 hB hE g2
      refine ⟨1, _, f', g1, q1, q2, q3, by rw [if_neg c], q4.trans z73', fun q => absurd q (by decide), fun _ => ?_, fun q => absurd q (by decide)⟩
      obtain ⟨k1, k2, k3⟩ := g2.2.2.1 rfl
      refine ⟨fun j j0 j72 j73 j74 => ?_, fun p a hp hl a0 a72 a73 a74 => ?_⟩
      · show z' j = z j
        rw [k1 j j74, uZ_n j74, uZ_n j73, uZ_n j72, uZ_n j0]
      · rw [k3 p, if_pos hp, hl]
        show (uZ (uZ (uZ (uZ z 0 0) 72 1) 73 1) 74 0) a = z a
        rw [uZ_n a74, uZ_n a73, uZ_n a72, uZ_n a0]
