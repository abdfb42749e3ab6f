/-! image over this list -/
theorem is_1 : chkS 1 [(2147483648, 2147483656, 9, 0, 0)] (fixF TCl 22 1 (.inl 4294967296)) TCl (fixF TI1 51 1 (.inl 4294967296)) [kc_q154] MT 20000 (165, 4, [.inr (.inl (some 0)), .inr (.inr (.inr (2147483649, 2147483649)))], some (2147483649, 2147483649), [(0, 2), (31, 2), (31, 3), (31, 4), (31, 5), (31, 6), (31, 7), (31, 8), (31, 9), (32, 999), (33, 999), (35, 999), (36, 999), (41, 1), (42, 999), (43, 1), (44, 999), (45, 1), (46, 999), (47, 1), (48, 999), (49, 1), (50, 999), (51, 1), (52, 999), (53, 1), (54, 999), (55, 1), (56, 999), (57, 1), (58, 999)]) = true := by decide +kernel
theorem is_2 : chkS 1 [(2147483648, 2147483656, 9, 0, 0)] (fixF (TBc 1) 51 1 (.inl 4294967296)) TCl (fixF TI2 22 1 (.inl 4294967296)) [kc_q153] MT 20000 (165, 4, [.inr (.inl (some 0)), .inr (.inr (.inr (2147483648, 2147483648)))], some (2147483649, 2147483649), [(2, 2), (2, 3), (2, 4), (2, 5), (2, 6), (2, 7), (2, 8), (2, 9), (3, 999), (4, 999), (6, 999), (7, 999), (12, 1), (13, 999), (14, 1), (15, 999), (16, 1), (17, 999), (18, 1), (19, 999), (20, 1), (21, 999), (22, 1), (23, 999), (24, 1), (25, 999), (26, 1), (27, 999), (28, 1), (29, 999), (59, 2)]) = true := by decide +kernel
theorem is_b1 : sb2 (sbC 1 [(2147483648, 2147483656, 9, 0, 0)] 0) TI1 (fixF TI1 51 1 (.inl 4294967296)) = true := by decide +kernel
theorem is_b2 : sb2 (sbC 1 [(2147483648, 2147483656, 9, 0, 0)] 0) TI2 (fixF TI2 22 1 (.inl 4294967296)) = true := by decide +kernel
theorem isF_1 : isF TI1 51 1 = true := by decide +kernel
theorem isF_2 : isF TI2 22 1 = true := by decide +kernel
theorem img_row (l : Launch) (G : PG) {nc nm : Nat} {h : PH} (hI : LIX pS qS nc nm h) (x : Int32) (hxx : x = 0 ∨ x = 1) : PRX pS qS l G nc nm h 165 4 219 3 [vI x] := by
  obtain ⟨lam, b, hB, hR⟩ := hI
  have hB0 := hB
  obtain ⟨hb, hl, h103, hC, hM, hX, hx, hd⟩ := hB
  have hb1 : b ≤ 1 := by omega
  have hT : HOK lam [] TCl h := TB_TC hb1 hC
  have e0 : lam 0 = nc := h103 0 (by decide)
  have ecc : lam 22 = nc + 22 := h103 22 (by decide)
  have eci : lam 51 = nc + 51 := h103 51 (by decide)
  obtain ⟨v, g1, g2⟩ := hR.1 (22, 1, 57) (List.mem_singleton.mpr rfl)
  rcases hxx with rfl | rfl
  · rcases hb with rfl | rfl
    · obtain ⟨Φ, p1, p2⟩ := chkE_ok (EX := EXT) (l := l) (G := G) (lam := lam) MT_ok (fun _ _ _ _ => trivial) (fun k j hm => by cases hm) sun ic_3 (cAs := [vR (lam 0), vI 0]) (hh := h) ⟨rfl, ⟨0, rfl, inb_J (by decide) (by decide)⟩, trivial⟩ hC trivial
      rw [e0] at p1
      refine ⟨Φ, p1, fun r h' hq => ?_⟩
      obtain ⟨⟨z0, rfl, q1⟩, q2, q3⟩ := p2 r h' hq
      have hz0 : z0 = nI 0 := inb_nIe (n := 0) (by decide) q1
      subst hz0
      have hF : FRG lam [] h h' := FRG.of (fun q hq => hq) q2
      obtain ⟨o1, o2, o3⟩ := oth_c hF hd hM hX hx
      refine ⟨nI 0, rfl, (show LIX [] [] nc nm h' from ⟨lam, 0, ⟨Or.inl rfl, hl, h103, q3, o1, o2, o3, hd⟩, (fun p hp => by cases hp), (fun _ p hp => by cases hp)⟩).md, ?_⟩
      obtain ⟨Φ1, P1, Q1⟩ := img_r l G (b := 0) (b' := 0) (Or.inl rfl) (Or.inl rfl) hl h103 q3 o1 o2 o3 hd 0 (Or.inl rfl) (by decide)
      refine ⟨Φ1, P1, fun r1 h1 hr1 => ?_⟩
      obtain ⟨rfl, L, hcl, z, f, z', f', R0, R1, ix, z73⟩ := Q1 r1 h1 hr1
      refine ⟨rfl, lam, 0, L, fun p hp => ?_, fun e => absurd e (by decide)⟩
      obtain rfl := List.mem_singleton.mp hp
      have g2' : FLD h' nm 57 v := g2.other hF (fun k => hd k 0 (by decide))
      have e := FLD.inj g2' (LR_fl R0 (j := 57) (by decide))
      refine ⟨v, hcl 22 1 v (by decide) (g1.keep hF (fun k hm => by cases hm)), ?_⟩
      have e2 : z' 57 = z 57 := (ix.1 rfl (z73.trans rfl)).1 57 (by decide)
      rw [e, ← e2]
      exact LR_fl R1 (by decide)
    · obtain ⟨y, y1, y2⟩ := hR.2 rfl (51, 1, 508) (List.mem_singleton.mpr rfl)
      have hw : ∀ q, q ∈ ([(2, 2), (2, 3), (2, 4), (2, 5), (2, 6), (2, 7), (2, 8), (2, 9), (3, 999), (4, 999), (6, 999), (7, 999), (12, 1), (13, 999), (14, 1), (15, 999), (16, 1), (17, 999), (18, 1), (19, 999), (20, 1), (21, 999), (22, 1), (23, 999), (24, 1), (25, 999), (26, 1), (27, 999), (28, 1), (29, 999), (59, 2)] : List (Nat × Nat)) → wrC q.1 = true := by decide
      have hin : inb 2147483648 2147483656 y := by
        obtain ⟨y', q1, q2⟩ := HOK_fld (k := 51) (j := 1) hT rfl rfl
        rw [eci] at q1
        cases FLD.inj y1 q1
        exact q2
      have hE : EnvOK [(2147483648, 2147483656, 9, 0, 0)] [y] := ⟨⟨hin, fun q => absurd q (by decide)⟩, trivial⟩
      obtain ⟨Φ, p1, p2⟩ := chkS_ok (ρ0 := [y]) (EX := EXT) (l := l) (G := G) (lam := lam) MT_ok (fun _ _ _ _ => trivial) (fun k j hm => hl k (hw (k, j) hm)) (suc (kc_q153_ok l G lam hl) sun) is_2 (cAs := [vR (lam 0), vI 0]) (hh := h) rfl hE ⟨rfl, ⟨0, rfl, inb_J (by decide) (by decide)⟩, trivial⟩ (HOK_fixF (HOK_up1 hC) (by rw [eci]; exact y1) ⟨y, val_s, rfl⟩) trivial
      rw [e0] at p1
      refine ⟨Φ, p1, fun r h' hq => ?_⟩
      obtain ⟨⟨z0, rfl, q1⟩, q2, q3⟩ := p2 r h' hq
      have hz0 : z0 = nI 1 := inb_nIe (n := 1) (by decide) q1
      subst hz0
      have hF : FRG lam [(2, 2), (2, 3), (2, 4), (2, 5), (2, 6), (2, 7), (2, 8), (2, 9), (3, 999), (4, 999), (6, 999), (7, 999), (12, 1), (13, 999), (14, 1), (15, 999), (16, 1), (17, 999), (18, 1), (19, 999), (20, 1), (21, 999), (22, 1), (23, 999), (24, 1), (25, 999), (26, 1), (27, 999), (28, 1), (29, 999), (59, 2)] h h' := FRG.of (fun q hq => hq) q2
      obtain ⟨o1, o2, o3⟩ := oth_c hF hd hM hX hx
      have t2 : HOK lam [] TI2 h' := sbH_ok (n := 1) (env := [(2147483648, 2147483656, 9, 0, 0)]) (τ := [y]) (ρ1 := []) (n1 := 0) rfl hE rfl is_b2 q3
      have gcc : FLD h' (lam 22) 1 y := HOK_getS q3 isF_2
      rw [ecc] at gcc
      have gci : FLD h' (nc + 51) 1 y := cl_keep hF hl h103 (by decide) (by decide) y1
      have hC' : HOK (fun k => lam (imgQ k)) [] (TBc 1) h' := HOK_ren (n := 127) (by decide +kernel) rn_2 t2
      have h103' : ∀ k, k < 103 → lam (imgQ k) = nc + k := fun k hk => by rw [imgQ_1 k hk]; exact h103 k hk
      have hd' : ∀ k j, j < 43 → lam (imgQ k) ≠ nm + j := fun k j hj => hd (imgQ k) j hj
      have hl' := LAMC_s imgQ_1 imgQ_2 hl
      refine ⟨nI 1, rfl, (show LIX [] [] nc nm h' from ⟨_, 1, ⟨Or.inr rfl, hl', h103', hC', o1, o2, o3, hd'⟩, (fun p hp => by cases hp), (fun _ p hp => by cases hp)⟩).md, ?_⟩
      obtain ⟨Φ1, P1, Q1⟩ := img_r l G (b := 1) (b' := 1) (Or.inr rfl) (Or.inr rfl) hl' h103' hC' o1 o2 o3 hd' 0 (Or.inl rfl) (by decide)
      refine ⟨Φ1, P1, fun r1 h1 hr1 => ?_⟩
      obtain ⟨rfl, L, hcl, z, f, z', f', R0, R1, ix, z73⟩ := Q1 r1 h1 hr1
      have y2' : ATP h' (nm + 42) 508 y := y2.other hF (fun k => hd k 42 (by decide))
      have e := ATP.inj y2' (LR_at R0 508)
      obtain ⟨i1, i2, -⟩ := ix.2.2 rfl (by rw [z73]; decide)
      refine ⟨rfl, _, 1, L, fun p hp => ?_, fun _ p hp => ?_⟩
      · obtain rfl := List.mem_singleton.mp hp
        refine ⟨y, hcl 22 1 y (by decide) gcc, ?_⟩
        rw [e, ← i2 508 57 (by decide) (by decide) (by decide)]
        exact LR_fl R1 (by decide)
      · obtain rfl := List.mem_singleton.mp hp
        refine ⟨y, hcl 51 1 y (by decide) gci, ?_⟩
        rw [e, ← i1]
        exact LR_at R1 508
  · have hw : ∀ q, q ∈ ([(0, 2), (31, 2), (31, 3), (31, 4), (31, 5), (31, 6), (31, 7), (31, 8), (31, 9), (32, 999), (33, 999), (35, 999), (36, 999), (41, 1), (42, 999), (43, 1), (44, 999), (45, 1), (46, 999), (47, 1), (48, 999), (49, 1), (50, 999), (51, 1), (52, 999), (53, 1), (54, 999), (55, 1), (56, 999), (57, 1), (58, 999)] : List (Nat × Nat)) → wrC q.1 = true := by decide
    have hin : inb 2147483648 2147483656 v := by
      obtain ⟨y', q1, q2⟩ := HOK_fld (k := 22) (j := 1) hT rfl rfl
      rw [ecc] at q1
      cases FLD.inj g1 q1
      exact q2
    have hE : EnvOK [(2147483648, 2147483656, 9, 0, 0)] [v] := ⟨⟨hin, fun q => absurd q (by decide)⟩, trivial⟩
    obtain ⟨Φ, p1, p2⟩ := chkS_ok (ρ0 := [v]) (EX := EXT) (l := l) (G := G) (lam := lam) MT_ok (fun _ _ _ _ => trivial) (fun k j hm => hl k (hw (k, j) hm)) (suc (kc_q154_ok l G lam hl) sun) is_1 (cAs := [vR (lam 0), vI 1]) (hh := h) rfl hE ⟨rfl, ⟨1, rfl, inb_J (by decide) (by decide)⟩, trivial⟩ (HOK_fixF (HOK_up1 hT) (by rw [ecc]; exact g1) ⟨v, val_s, rfl⟩) trivial
    rw [e0] at p1
    refine ⟨Φ, p1, fun r h' hq => ?_⟩
    obtain ⟨⟨z0, rfl, q1⟩, q2, q3⟩ := p2 r h' hq
    have hz0 : z0 = nI 1 := inb_nIe (n := 1) (by decide) q1
    subst hz0
    have hF : FRG lam [(0, 2), (31, 2), (31, 3), (31, 4), (31, 5), (31, 6), (31, 7), (31, 8), (31, 9), (32, 999), (33, 999), (35, 999), (36, 999), (41, 1), (42, 999), (43, 1), (44, 999), (45, 1), (46, 999), (47, 1), (48, 999), (49, 1), (50, 999), (51, 1), (52, 999), (53, 1), (54, 999), (55, 1), (56, 999), (57, 1), (58, 999)] h h' := FRG.of (fun q hq => hq) q2
    obtain ⟨o1, o2, o3⟩ := oth_c hF hd hM hX hx
    have t1 : HOK lam [] TI1 h' := sbH_ok (n := 1) (env := [(2147483648, 2147483656, 9, 0, 0)]) (τ := [v]) (ρ1 := []) (n1 := 0) rfl hE rfl is_b1 q3
    have gci : FLD h' (lam 51) 1 v := HOK_getS q3 isF_1
    rw [eci] at gci
    have gcc : FLD h' (nc + 22) 1 v := cl_keep hF hl h103 (by decide) (by decide) g1
    have hC' : HOK (fun k => lam (imgP k)) [] (TBc 1) h' := HOK_ren (n := 127) (by decide +kernel) rn_1 t1
    have h103' : ∀ k, k < 103 → lam (imgP k) = nc + k := fun k hk => by rw [imgP_1 k hk]; exact h103 k hk
    have hd' : ∀ k j, j < 43 → lam (imgP k) ≠ nm + j := fun k j hj => hd (imgP k) j hj
    have hl' := LAMC_s imgP_1 imgP_2 hl
    have hmd : ∃ fs, h'[nm]? = some (eO 12 fs) := md_of o1
    refine ⟨nI 1, rfl, hmd, ?_⟩
    obtain ⟨Φ1, P1, Q1⟩ := img_r l G (b := b) (b' := 1) hb (Or.inr rfl) hl' h103' hC' o1 o2 o3 hd' 1 (Or.inr rfl) ⟨fun q => absurd q (by decide), fun q => absurd q.1 (by decide)⟩
    refine ⟨Φ1, P1, fun r1 h1 hr1 => ?_⟩
    obtain ⟨rfl, L, hcl, z, f, z', f', R0, R1, ix, z73⟩ := Q1 r1 h1 hr1
    have g2' : FLD h' nm 57 v := g2.other hF (fun k => hd k 0 (by decide))
    have e := FLD.inj g2' (LR_fl R0 (j := 57) (by decide))
    obtain ⟨i1, i2⟩ := ix.2.1 rfl
    refine ⟨rfl, _, 1, L, fun p hp => ?_, fun _ p hp => ?_⟩
    · obtain rfl := List.mem_singleton.mp hp
      refine ⟨v, hcl 22 1 v (by decide) gcc, ?_⟩
      rw [e, ← i1 57 (by decide) (by decide) (by decide) (by decide)]
      exact LR_fl R1 (by decide)
    · obtain rfl := List.mem_singleton.mp hp
      refine ⟨v, hcl 51 1 v (by decide) gci, ?_⟩
      rw [e, ← i2 508 57 (by decide) (by decide) (by decide) (by decide) (by decide) (by decide)]
      exact LR_at R1 508
