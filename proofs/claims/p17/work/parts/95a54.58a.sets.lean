/-! set: the reference -/
theorem mind3 {x : Int32} (h : -1 ≤ I x ∧ I x ≤ 1) : x = -1 ∨ x = 0 ∨ x = 1 := by
  rcases (show I x = -1 ∨ I x = 0 ∨ I x = 1 by omega) with q | q | q
  · exact Or.inl (Int32.toInt_inj.mp (q.trans (by decide)))
  · exact Or.inr (Or.inl (Int32.toInt_inj.mp (q.trans (by decide))))
  · exact Or.inr (Or.inr (Int32.toInt_inj.mp (q.trans (by decide))))
theorem mCanSet0 (d : Nat) (x : Int32) {nv v : Nat} (hn : nv ≤ 20) (hv : v < nv) {z : Nat → Int32} {r : Nat → FA} (hz : z 6 = nI nv) : mcall (d + 2) 194 [vR 0, vI (nI 0), vI (nI v), vI x] (LR z r) = some (some (vI (bI (0 ≤ I x ∧ I x ≤ 255))), LR z r) := by
  have mv := mVoter d (nI v) hn (r := r) hz
  have iv : I (nI v) = v := I_nI (by omega)
  rw [mk1_t ⟨by omega, by omega⟩] at mv
  exact mcall_i (mq194 (cu := [])).2.2 rfl (vc194_0 d _ _ x z r _ ⟨fun _ => ⟨fun _ => ⟨_, _, _, mv, fun _ => ⟨fun _ => ⟨fun q => absurd rfl q, fun _ => rfl⟩, fun q => absurd q (by decide)⟩, fun q => absurd q (by decide)⟩, fun q => absurd ⟨by decide, by decide⟩ q⟩, fun q => absurd q (by decide)⟩)
theorem mCanSet1 (d : Nat) (x : Int32) {nv v : Nat} (hn : nv ≤ 20) (hv : v < nv) {z : Nat → Int32} {r : Nat → FA} (hz : z 6 = nI nv) : mcall (d + 2) 194 [vR 0, vI (nI 1), vI (nI v), vI x] (LR z r) = some (some (vI (bI (-1 ≤ I x ∧ I x ≤ 1))), LR z r) := by
  have mv := mVoter d (nI v) hn (r := r) hz
  have iv : I (nI v) = v := I_nI (by omega)
  rw [mk1_t ⟨by omega, by omega⟩] at mv
  exact mcall_i (mq194 (cu := [])).2.2 rfl (vc194_0 d _ _ x z r _ ⟨fun _ => ⟨fun _ => ⟨_, _, _, mv, fun _ => ⟨fun q => absurd rfl q, fun _ => ⟨fun _ => rfl, fun q => absurd q (by decide)⟩⟩, fun q => absurd q (by decide)⟩, fun q => absurd ⟨by decide, by decide⟩ q⟩, fun q => absurd q (by decide)⟩)
theorem mCanSet2 (d : Nat) (x : Int32) {nv v : Nat} (hn : nv ≤ 20) (hv : v < nv) {z : Nat → Int32} {r : Nat → FA} (hz : z 6 = nI nv) : mcall (d + 2) 194 [vR 0, vI (nI 2), vI (nI v), vI x] (LR z r) = some (some (vI (bI (0 ≤ I x ∧ I x ≤ 11))), LR z r) := by
  have mv := mVoter d (nI v) hn (r := r) hz
  have iv : I (nI v) = v := I_nI (by omega)
  rw [mk1_t ⟨by omega, by omega⟩] at mv
  exact mcall_i (mq194 (cu := [])).2.2 rfl (vc194_0 d _ _ x z r _ ⟨fun _ => ⟨fun _ => ⟨_, _, _, mv, fun _ => ⟨fun _ => ⟨fun _ => ⟨fun q => absurd rfl q, fun _ => rfl⟩, fun q => absurd q (by decide)⟩, fun q => absurd q (by decide)⟩, fun q => absurd q (by decide)⟩, fun q => absurd ⟨by decide, by decide⟩ q⟩, fun q => absurd q (by decide)⟩)
theorem mCanSet3 (d : Nat) (x : Int32) {nv v : Nat} (hn : nv ≤ 20) (hv : v < nv) {z : Nat → Int32} {r : Nat → FA} (hz : z 6 = nI nv) : mcall (d + 2) 194 [vR 0, vI (nI 3), vI (nI v), vI x] (LR z r) = some (some (vI (bI (0 ≤ I x ∧ I x ≤ 9))), LR z r) := by
  have mv := mVoter d (nI v) hn (r := r) hz
  have iv : I (nI v) = v := I_nI (by omega)
  rw [mk1_t ⟨by omega, by omega⟩] at mv
  exact mcall_i (mq194 (cu := [])).2.2 rfl (vc194_0 d _ _ x z r _ ⟨fun _ => ⟨fun _ => ⟨_, _, _, mv, fun _ => ⟨fun _ => ⟨fun _ => ⟨fun _ => rfl, fun q => absurd q (by decide)⟩, fun q => absurd q (by decide)⟩, fun q => absurd q (by decide)⟩, fun q => absurd q (by decide)⟩, fun q => absurd ⟨by decide, by decide⟩ q⟩, fun q => absurd q (by decide)⟩)
