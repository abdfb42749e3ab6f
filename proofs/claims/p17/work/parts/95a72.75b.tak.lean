/-! four bytes of a number, shifted either way -/
theorem sh_key (v : BitVec 32) (k : Nat) (hk : k ≤ 24) : (v >>> k) &&& 255#32 = (v.sshiftRight k) &&& 255#32 := by
  apply BitVec.eq_of_getLsbD_eq
  intro i hi
  rw [BitVec.getLsbD_and, BitVec.getLsbD_and]
  by_cases c : i < 8
  · rw [BitVec.getLsbD_ushiftRight, BitVec.getLsbD_sshiftRight, if_pos (by omega), decide_eq_false (show ¬ 32 ≤ i by omega)]
    rfl
  · rw [(show ∀ i, i < 32 → ¬ i < 8 → (255#32).getLsbD i = false by decide) i hi c, Bool.and_false, Bool.and_false]
theorem sh8 (x : Int32) {s : Nat} (hs : s = 24 ∨ s = 16 ∨ s = 8 ∨ s = 0) : (pbin 8 x (nI s)) &&& 255 = tkb x s := by
  apply Int32.toBitVec_inj.mp
  rcases hs with rfl | rfl | rfl | rfl
  · exact sh_key x.toBitVec 24 (by decide)
  · exact sh_key x.toBitVec 16 (by decide)
  · exact sh_key x.toBitVec 8 (by decide)
  · exact sh_key x.toBitVec 0 (by decide)
theorem tkb_n (x : Int32) (s : Nat) : ¬ tkb x s = -1 := by
  intro h
  have e : (tkb x s) &&& 256 = (-1 : Int32) &&& 256 := by rw [h]
  unfold tkb at e
  rw [Int32.and_assoc] at e
  have e2 : (x >>> (nI s &&& 31)) &&& (255 &&& 256) = 0 := by
    rw [show (255 : Int32) &&& 256 = 0 by decide]
    exact Int32.and_zero
  rw [e2] at e
  exact absurd e (by decide)
theorem cTake (d : Nat) {n : Nat} (hn : n + 4 ≤ 400) (x : Int32) {z : Nat → Int32} {f : Nat → FA} (hz : z 11 = nI n) : mcall (d + 1) 136 [vR 1, vI x] (LM3 z f) = some (none, LM3 (uZ z 11 (nI (n + 4))) (uA f 2 (tkw (f 2) n x))) := by
  have st : ∀ (m s : Nat) (z : Nat → Int32) (f : Nat → FA) (res : Option PV × QH FA), (s = 24 ∨ s = 16 ∨ s = 8 ∨ s = 0) → m < 400 → z 11 = nI m → RC (mcall d) (mP 136) 2 [some (vR 1), some (vI x), some (vI (nI s + (-8)))] [] (LM3 (uZ z 11 (nI (m + 1))) (uA f 2 (upd (f 2) m (tkb x s)))) res → RC (mcall d) (mP 136) 2 [some (vR 1), some (vI x), some (vI (nI s))] [] (LM3 z f) res := fun m s z f res hs hm h k => by
    have im : I (z 11) = m := by rw [h]; exact I_nI (by omega)
    refine vcqc2_136_2 (mcall d) x (nI s) z f res ⟨fun q => ?_, fun _ => ⟨fun q => by omega, fun _ => ⟨by rw [h]; exact pin_nI hm (by omega), ?_⟩⟩⟩
    · rw [I_nI (by omega)] at q
      omega
    · rw [h, ix_nI (by omega), show nI m + 1 = nI (m + 1) from nI_add m 1, sh8 x hs]
      exact k
  refine mcall_i (mq136 (cu := [])).2.2 rfl (vcq136_0 (mcall d) x none z f _ ?_)
  refine st n 24 z f _ (by decide) (by omega) hz ?_
  refine st (n + 1) 16 _ _ _ (by decide) (by omega) uZ_s ?_
  rw [uZ_uZ, uA_self, uA_uA]
  refine st (n + 2) 8 _ _ _ (by decide) (by omega) uZ_s ?_
  rw [uZ_uZ, uA_self, uA_uA]
  refine st (n + 3) 0 _ _ _ (by decide) (by omega) uZ_s ?_
  rw [uZ_uZ, uA_self, uA_uA]
  exact vcqc2_136_2 (mcall d) x _ _ _ _ ⟨fun _ => rfl, fun q => absurd q (by decide)⟩
/-- five numbers -/
def tk5 (t : FA) (n : Nat) (x1 x2 x3 x4 x5 : Int32) : FA := tkw (tkw (tkw (tkw (tkw t n x1) (n + 4) x2) (n + 8) x3) (n + 12) x4) (n + 16) x5
theorem cFeed (d : Nat) {n : Nat} (hn : n ≤ 400) (x1 x2 x3 x4 x5 : Int32) {z : Nat → Int32} {f : Nat → FA} (hz : z 11 = nI n) : (n ≤ 380 → mcall (d + 2) 160 [vR 0, vI x1, vI x2, vI x3, vI x4, vI x5] (LM3 z f) = some (some (vI (nI (n + 20))), LM3 (uZ z 11 (nI (n + 20))) (uA f 2 (tk5 (f 2) n x1 x2 x3 x4 x5)))) ∧ (380 < n → mcall (d + 2) 160 [vR 0, vI x1, vI x2, vI x3, vI x4, vI x5] (LM3 z f) = some (some (vI (-1)), LM3 z f)) := by
  have e20 : I (z 11 + 20) = n + 20 := by
    rw [hz, show (20 : Int32) = nI 20 from rfl, nI_add]
    exact (I_nI (by omega)).trans (by omega)
  have go : ∀ res, _ → mcall (d + 2) 160 [vR 0, vI x1, vI x2, vI x3, vI x4, vI x5] (LM3 z f) = some res := fun res H => mcall_i (mq160 (cu := [])).2.2 rfl (vcq160_0 (mcall (d + 1)) x1 x2 x3 x4 x5 z f res H)
  refine ⟨fun h => go _ ⟨fun _ => ?_, fun q => by omega⟩, fun h => go _ ⟨fun q => by omega, fun _ => rfl⟩⟩
  have a1 := cTake d (n := n) (by omega) x1 (f := f) hz
  have a2 := cTake d (n := n + 4) (by omega) x2 (z := uZ z 11 (nI (n + 4))) (f := uA f 2 (tkw (f 2) n x1)) uZ_s
  rw [uZ_uZ, uA_self, uA_uA] at a2
  have a3 := cTake d (n := n + 8) (by omega) x3 (z := uZ z 11 (nI (n + 4 + 4))) (f := uA f 2 (tkw (tkw (f 2) n x1) (n + 4) x2)) uZ_s
  rw [uZ_uZ, uA_self, uA_uA] at a3
  have a4 := cTake d (n := n + 12) (by omega) x4 (z := uZ z 11 (nI (n + 8 + 4))) (f := uA f 2 (tkw (tkw (tkw (f 2) n x1) (n + 4) x2) (n + 8) x3)) uZ_s
  rw [uZ_uZ, uA_self, uA_uA] at a4
  have a5 := cTake d (n := n + 16) (by omega) x5 (z := uZ z 11 (nI (n + 12 + 4))) (f := uA f 2 (tkw (tkw (tkw (tkw (f 2) n x1) (n + 4) x2) (n + 8) x3) (n + 12) x4)) uZ_s
  rw [uZ_uZ, uA_self, uA_uA] at a5
  refine ⟨_, _, a1, _, _, a2, _, _, a3, _, _, a4, _, _, a5, ?_⟩
  rw [uZ_s]
  rfl
theorem rFeed (d : Nat) {n : Nat} (hn : n ≤ 400) (x1 x2 x3 x4 x5 : Int32) {z : Nat → Int32} {f : Nat → FA} (hz : z 12 = nI n) : (n ≤ 380 → mcall (d + 7) 211 [vR 0, vI x1, vI x2, vI x3, vI x4, vI x5] (LR z f) = some (some (vI (nI (n + 20))), LR (uZ (uZ z 0 0) 12 (nI (n + 20))) (uA f 8 (tk5 (f 8) n x1 x2 x3 x4 x5)))) ∧ (380 < n → mcall (d + 7) 211 [vR 0, vI x1, vI x2, vI x3, vI x4, vI x5] (LR z f) = some (some (vI (-1)), LR (uZ z 0 0) f)) := by
  have e12 : I (z 12) = n := by
    rw [hz]
    exact I_nI (by omega)
  have go : ∀ res, _ → mcall (d + 7) 211 [vR 0, vI x1, vI x2, vI x3, vI x4, vI x5] (LR z f) = some res := fun res H => mcall_i (mq211 (cu := [])).2.2 rfl (vc211_0 (d + 1) x1 x2 x3 x4 x5 z f res H)
  refine ⟨fun h => go _ ⟨fun _ => ?_, fun q => by omega⟩, fun h => go _ ⟨fun q => by omega, fun _ => rfl⟩⟩
  have z0 : uZ z 0 0 12 = nI n := (uZ_n (by decide)).trans hz
  have a1 := rTake d (n := n) (by omega) x1 (z := uZ z 0 0) (f := f) z0
  have a2 := rTake d (n := n + 4) (by omega) x2 (z := uZ (uZ z 0 0) 12 (nI (n + 4))) (f := uA f 8 (tkw (f 8) n x1)) uZ_s
  rw [uZ_uZ, uA_self, uA_uA] at a2
  have a3 := rTake d (n := n + 8) (by omega) x3 (z := uZ (uZ z 0 0) 12 (nI (n + 4 + 4))) (f := uA f 8 (tkw (tkw (f 8) n x1) (n + 4) x2)) uZ_s
  rw [uZ_uZ, uA_self, uA_uA] at a3
  have a4 := rTake d (n := n + 12) (by omega) x4 (z := uZ (uZ z 0 0) 12 (nI (n + 8 + 4))) (f := uA f 8 (tkw (tkw (tkw (f 8) n x1) (n + 4) x2) (n + 8) x3)) uZ_s
  rw [uZ_uZ, uA_self, uA_uA] at a4
  have a5 := rTake d (n := n + 16) (by omega) x5 (z := uZ (uZ z 0 0) 12 (nI (n + 12 + 4))) (f := uA f 8 (tkw (tkw (tkw (tkw (f 8) n x1) (n + 4) x2) (n + 8) x3) (n + 12) x4)) uZ_s
  rw [uZ_uZ, uA_self, uA_uA] at a5
  refine ⟨_, _, a1, _, _, a2, _, _, a3, _, _, a4, _, _, a5, ?_⟩
  rw [uZ_s]
  rfl
theorem tkw_at {t t' : FA} {n : Nat} {x : Int32} (h : ∀ j, j < n → t' j = t j ∧ ¬ t j = -1) : ∀ j, j < n + 4 → tkw t' n x j = tkw t n x j ∧ ¬ tkw t n x j = -1 := by
  intro j hj
  unfold tkw
  by_cases c3 : j = n + 3
  · subst c3
    rw [pk_us, pk_us]
    exact ⟨rfl, tkb_n _ _⟩
  · rw [pk_un c3, pk_un c3]
    by_cases c2 : j = n + 2
    · subst c2
      rw [pk_us, pk_us]
      exact ⟨rfl, tkb_n _ _⟩
    · rw [pk_un c2, pk_un c2]
      by_cases c1 : j = n + 1
      · subst c1
        rw [pk_us, pk_us]
        exact ⟨rfl, tkb_n _ _⟩
      · rw [pk_un c1, pk_un c1]
        by_cases c0 : j = n
        · subst c0
          rw [pk_us, pk_us]
          exact ⟨rfl, tkb_n _ _⟩
        · rw [pk_un c0, pk_un c0]
          exact h j (by omega)
theorem tk5_at {t t' : FA} {n : Nat} {x1 x2 x3 x4 x5 : Int32} (h : ∀ j, j < n → t' j = t j ∧ ¬ t j = -1) : ∀ j, j < n + 20 → tk5 t' n x1 x2 x3 x4 x5 j = tk5 t n x1 x2 x3 x4 x5 j ∧ ¬ tk5 t n x1 x2 x3 x4 x5 j = -1 := tkw_at (n := n + 16) (tkw_at (n := n + 12) (tkw_at (n := n + 8) (tkw_at (n := n + 4) (tkw_at h))))
