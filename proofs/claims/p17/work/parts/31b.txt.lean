/-! text of the reference, with the rows told that it leaves alone; texts and the game between rounds, over any relation -/
def TKq (z : Nat → Int32) (f : Nat → FA) (z' : Nat → Int32) (f' : Nat → FA) : Prop := (∀ j, j ∈ KZ → z' j = z j) ∧ ∀ k, (k < 10 ∨ 20 < k) → f' k = f k
def TXY (z : Nat → Int32) (f : Nat → FA) (z' : Nat → Int32) (f' : Nat → FA) : Prop := BNDz z' ∧ BNDf f' ∧ EXF f' ∧ TKq z f z' f' ∧ z' 12 = 0
theorem TKq.set {z z' : Nat → Int32} {f f' : Nat → FA} {a : Nat} {x : Int32} (h : TKq z f z' f') (ha : KZ.contains a = false) : TKq z f (uZ z' a x) f' := ⟨fun j hj => by rw [uZ_n (kzn hj ha)]; exact h.1 j hj, h.2⟩
theorem TKq.row {z z' : Nat → Int32} {f f' : Nat → FA} {r : Nat} {g : FA} (h : TKq z f z' f') (hr : 10 ≤ r ∧ r ≤ 20) : TKq z f z' (uA f' r g) := ⟨h.1, fun k hk => by rw [uA_ne (by omega)]; exact h.2 k hk⟩
/-- a text: from what its reader comes to, to the end -/
theorem ty_gx (d : Nat) {x1 : Int32} {z : Nat → Int32} {f : Nat → FA} {r : Int32} {z1 : Nat → Int32} {f1 : Nat → FA} (hx : 0 ≤ I x1 ∧ I x1 ≤ 3) (hr : mcall (d + 10) 270 [vR 0, vI x1] (LR (uZ (uZ (uZ (uZ (uZ (uZ z 0 0) 32 0) 33 (-1)) 13 0) 26 0) 27 0) f) = some (some (vI r), LR z1 f1)) (h1 : BNDz z1 ∧ BNDf f1 ∧ EXF f1 ∧ TKq z f z1 f1) (hk : ¬ r = -1 → ∃ z' f', RC (mcall (d + 10)) (mP 280) 41 [some (vR 0), some (vI x1), some (vI r)] [] (LR z1 f1) (some (vI r), LR z' f') ∧ TXY z f z' f') : ∃ r z' f', mcall (d + 11) 280 [vR 0, vI x1] (LR z f) = some (some (vI r), LR z' f') ∧ TXY z f z' f' := by
  have go : ∀ res, _ → mcall (d + 11) 280 [vR 0, vI x1] (LR z f) = some res := fun res H => mcall_i (mq280 (cu := [])).2.2 rfl (vc280_0 d x1 none z f res H)
  by_cases c : r = -1
  · subst c
    exact ⟨-1, _, f1, go _ ⟨fun _ => ⟨-1, z1, f1, hr, fun q => absurd rfl q, fun _ => tx_no d x1 _ f1⟩, fun q => absurd hx q⟩, b12 (bft h1.1), h1.2.1, h1.2.2.1, ((h1.2.2.2.set rfl).set rfl).set rfl, uZ_s⟩
  · obtain ⟨z', f', v1, v2⟩ := hk c
    exact ⟨r, z', f', go _ ⟨fun _ => ⟨r, z1, f1, hr, fun _ => v1, fun q => absurd q c⟩, fun q => absurd hx q⟩, v2⟩
theorem zky {z z1 z2 : Nat → Int32} {f f2 : Nat → FA} (h1 : RDZ (uZ (uZ (uZ (uZ (uZ (uZ (uZ z 0 0) 32 0) 33 (-1)) 13 0) 26 0) 27 0) 25 0) z1) (h2 : ∀ j, j ∈ KZ → z2 j = z1 j) (hf : ∀ k, (k < 10 ∨ 20 < k) → f2 k = f k) : TKq z f z2 f2 := by
  refine ⟨fun j hj => ?_, hf⟩
  rw [h2 j hj, h1 j (kzn hj rfl) (kzn hj rfl) (kzn hj rfl) (kzn hj rfl), uZ_n (kzn hj rfl), uZ_n (kzn hj rfl), uZ_n (kzn hj rfl), uZ_n (kzn hj rfl), uZ_n (kzn hj rfl), uZ_n (kzn hj rfl), uZ_n (kzn hj rfl)]
theorem text_y (d0 : Nat) {z : Nat → Int32} {f : Nat → FA} (x1 : Int32) (hz : BNDz z) (hB : BNDf f) (hE : EXF f) : ∃ r z' f', mcall (d0 + 11) 280 [vR 0, vI x1] (LR z f) = some (some (vI r), LR z' f') ∧ TXY z f z' f' := by
  by_cases cx : 0 ≤ I x1 ∧ I x1 ≤ 3
  · obtain ⟨t, a, z1, g1, g2, g3, g4⟩ := rt0 d0 hz hE
    have go : ∀ res, _ → mcall (d0 + 10) 270 [vR 0, vI x1] (LR (uZ (uZ (uZ (uZ (uZ (uZ z 0 0) 32 0) 33 (-1)) 13 0) 26 0) 27 0) f) = some res := fun res H => mcall_i (mq270 (cu := [])).2.2 rfl (vc270_0 d0 x1 (uZ (uZ (uZ (uZ (uZ (uZ z 0 0) 32 0) 33 (-1)) 13 0) 26 0) 27 0) f res H)
    by_cases c1 : x1 = 1
    · subst c1
      obtain ⟨r, z2, f2, a2, u1, u2, u3, u4, u5⟩ := readWays_r (d0 + 2) g4 g2 hB
      have hz2 := g4.rn u2.1 u3
      have h73 := zky g3 (fun j hj => u2.1 j (kzn hj rfl) (kzn hj rfl) (kzn hj rfl) (kzn hj rfl) (kzn hj rfl) (kzn hj rfl)) (fun k hk => u2.2.1 k (by omega))
      refine ty_gx d0 cx (go _ ⟨z1, f, g1, fun q => absurd rfl q, fun _ => ⟨r, z2, f2, u1, rfl⟩⟩) ⟨hz2, u4, EXF_b hE (Or.inl rfl) u2, h73⟩ (fun hr => ?_)
      obtain ⟨n, rfl, n16, hG⟩ := u5.resolve_left hr
      refine ⟨_, _, vcc41_280_41 _ _ _ _ _ _ ⟨fun _ => ⟨fun _ => ⟨_, _, takes1_r (d0 + 9) n n16 (uZ z2 12 0) f2, rfl⟩, fun q => absurd q (by decide)⟩, fun q => absurd q hr⟩, ?_, B_ways n16 u4 hG, (EXF_b hE (Or.inl rfl) u2).tr (fun k hk => uA_ne ?_), (((h73.set rfl).set rfl).set rfl).row (by decide), by rw [uZ_n (by decide), uZ_n (by decide), uZ_s]⟩
      · exact ((b12 hz2).set (b_in (a := 2147483648) (b := 2147483664) (by decide) (inb_nI (lo := 0) (hi := 16) (by omega) n16 (by omega)))).set (b_in (a := 2147483648) (b := 2147483654) (by decide) (inb_J (by decide) (by decide)))
      · have : ∀ k, k ∈ XR → k ≠ 18 := by decide
        exact this k hk
    · by_cases c2 : x1 = 2
      · subst c2
        obtain ⟨r, z2, f2, a2, u1, u2, u3, u4, u5⟩ := readSky_r (d0 + 1) g4 g2 hB
        have hz2 := g4.rn u2.1 u3
        have h73 := zky g3 (fun j hj => u2.1 j (kzn hj rfl) (kzn hj rfl) (kzn hj rfl) (kzn hj rfl) (kzn hj rfl) (kzn hj rfl)) (fun k hk => u2.2.1 k (by omega))
        have hE2 := EXF_19 hE u2
        refine ty_gx d0 cx (go _ ⟨z1, f, g1, fun _ => ⟨fun q => absurd rfl q, fun _ => ⟨r, z2, f2, u1, rfl⟩⟩, fun q => absurd q c1⟩) ⟨hz2, u4, hE2, h73⟩ (fun hr => ?_)
        obtain ⟨n, rfl, n16, hG⟩ := u5.resolve_left hr
        refine ⟨_, _, vcc41_280_41 _ _ _ _ _ _ ⟨fun _ => ⟨fun _ => ⟨_, _, takes2_r (d0 + 9) n n16 (uZ z2 12 0) f2, rfl⟩, fun q => absurd q (by decide)⟩, fun q => absurd q hr⟩, ?_, B_sky n16 u4 hG, ?_, (((h73.set rfl).set rfl).set rfl).row (by decide), by rw [uZ_n (by decide), uZ_n (by decide), uZ_s]⟩
        · exact ((b12 hz2).set (b_in (a := 2147483648) (b := 2147483664) (by decide) (inb_nI (lo := 0) (hi := 16) (by omega) n16 (by omega)))).set (b_in (a := 2147483648) (b := 2147483654) (by decide) (inb_J (by decide) (by decide)))
        · obtain ⟨e1, e2, e3, e4⟩ := hE2
          exact ⟨e1, e2, by rw [uA_self]; exact D_sky n16 e3 hG, e4⟩
      · by_cases c3 : x1 = 3
        · subst c3
          obtain ⟨r, z2, f2, a2, u1, u2, u3, u4, u5⟩ := readTwins_r (d0 + 2) g4 g2 hB
          have hz2 := g4.rn u2.1 u3
          have h73 := zky g3 (fun j hj => u2.1 j (kzn hj rfl) (kzn hj rfl) (kzn hj rfl) (kzn hj rfl) (kzn hj rfl) (kzn hj rfl)) (fun k hk => u2.2.1 k (by omega))
          refine ty_gx d0 cx (go _ ⟨z1, f, g1, fun _ => ⟨fun _ => ⟨fun q => absurd rfl q, fun _ => ⟨r, z2, f2, u1, rfl⟩⟩, fun q => absurd q c2⟩, fun q => absurd q c1⟩) ⟨hz2, u4, EXF_b hE (Or.inr rfl) u2, h73⟩ (fun hr => ?_)
          refine ⟨_, _, vcc41_280_41 _ _ _ _ _ _ ⟨fun _ => ⟨fun _ => ⟨_, _, takes3_r (d0 + 9) r (uZ z2 12 0) f2, rfl⟩, fun q => absurd q (by decide)⟩, fun q => absurd q hr⟩, ?_, ?_, (EXF_b hE (Or.inr rfl) u2).tr (fun k hk => uA_ne ?_), ((h73.set rfl).set rfl).row (by decide), by rw [uZ_n (by decide), uZ_s]⟩
          · exact (b12 hz2).set (b_no (by decide))
          · exact BNDf_row u4 rfl (fun _ _ j => by
              have : sgAt (sgOf 20) j = (0, 4294967295) := by
                show (if j < 40 then ((0, 4294967295) : Nat × Nat) else (0, 4294967295)) = _
                by_cases q : j < 40
                · rw [if_pos q]
                · rw [if_neg q]
              rw [this]
              exact inb_top _)
          · have : ∀ k, k ∈ XR → k ≠ 20 := by decide
            exact this k hk
        · have x0 : x1 = 0 := by
            have e1 : ¬ I x1 = 1 := fun q => c1 (Int32.toInt_inj.mp (q.trans (by decide)))
            have e2 : ¬ I x1 = 2 := fun q => c2 (Int32.toInt_inj.mp (q.trans (by decide)))
            have e3 : ¬ I x1 = 3 := fun q => c3 (Int32.toInt_inj.mp (q.trans (by decide)))
            have e0 : I x1 = 0 := by omega
            exact Int32.toInt_inj.mp (e0.trans (by decide))
          subst x0
          have k27 : z1 27 = nI 0 := by rw [g3 27 (by decide) (by decide) (by decide) (by decide), uZ_n (by decide), uZ_s]; rfl
          have k25 : z1 25 = 0 := by rw [g3 25 (by decide) (by decide) (by decide) (by decide), uZ_s]
          obtain ⟨p, p1, p2⟩ := g4.nat (j := 29) (hi := 40) (by decide)
          obtain ⟨r, z2, f2, u1, u2, u3, u4⟩ := readLaw_r d0 g2 k27 ⟨p, p1, p2⟩
          have hz2 := g4.law u2 u3
          have hB2 := BNDf_FRl hB u2
          have hE2 := EXF_law hE u2
          have h73 := zky g3 (fun j hj => u2.1 j (kzn hj rfl) (kzn hj rfl) (kzn hj rfl) (kzn hj rfl) (kzn hj rfl) (kzn hj rfl) (kzn hj rfl) (kzn hj rfl) (kzn hj rfl)) (fun k hk => u2.2.1 k (by omega))
          refine ty_gx d0 cx (go _ ⟨z1, f, g1, fun _ => ⟨fun _ => ⟨fun _ => ⟨r, z2, f2, u1, rfl⟩, fun q => absurd q c3⟩, fun q => absurd q c2⟩, fun q => absurd q c1⟩) ⟨hz2, hB2, hE2, h73⟩ (fun hr => ?_)
          obtain ⟨k, c, rfl, k16, c4, q26, hW⟩ := u4.resolve_left hr
          have q25 : z2 25 = 0 := (u2.1 25 (by decide) (by decide) (by decide) (by decide) (by decide) (by decide) (by decide) (by decide) (by decide)).trans k25
          refine ⟨_, _, vcc41_280_41 _ _ _ _ _ _ ⟨fun _ => ⟨fun q => absurd rfl q, fun _ => ⟨_, _, takesLaw_r (d0 + 9) c k (uZ z2 12 0) f2 (by rw [uZ_n (by decide)]; exact q25) (by rw [uZ_n (by decide)]; exact q26) c4 k16, rfl⟩⟩, fun q => absurd q hr⟩, b12 hz2, B_takes hB2 k16 c4, E_takes hE2 k16 c4 hW, ⟨(h73.set rfl).1, fun k hk => by rw [uA_ne (by omega), F2_o (by omega), F1_o (by omega)]; exact h73.2 k hk⟩, uZ_s⟩
  · have go : ∀ res, _ → mcall (d0 + 11) 280 [vR 0, vI x1] (LR z f) = some res := fun res H => mcall_i (mq280 (cu := [])).2.2 rfl (vc280_0 d0 x1 none z f res H)
    refine ⟨-1, _, f, go _ ⟨fun q => absurd q cx, fun _ => tx_no d0 x1 _ f⟩, b12 (zt0 hz), hB, hE, ⟨fun j hj => ?_, fun _ _ => rfl⟩, uZ_s⟩
    rw [uZ_n (kzn hj rfl), uZ_n (kzn hj rfl), uZ_n (kzn hj rfl), uZ_n (kzn hj rfl), uZ_n (kzn hj rfl), uZ_n (kzn hj rfl), uZ_n (kzn hj rfl)]
theorem LR_row {nm : Nat} {H h : PH} {z : Nat → Int32} {f : Nat → FA} (hR : Rep rdF H (lamM nm) 43 (LR z f) h) (k : Nat) (hk : k < 42) : ∃ n, nth lenR k = some n ∧ h[nm + (k + 1)]? = some (eI n (f (k + 1))) := by
  obtain ⟨n, hn⟩ := Option.isSome_iff_exists.mp ((show ∀ k, k < 42 → (nth lenR k).isSome = true by decide +kernel) k hk)
  have h1 : (LR z f)[k + 1]? = some (.inl (.inl (0, n, f (k + 1)))) := by
    rw [LR_get, hn]
    rfl
  exact ⟨n, hn, hR.2.1 (k + 1) _ h1⟩
