/-! methods that leave the core's cells alone -/
def TCW : List Nat := [0, 1, 2, 3, 4, 5, 6, 7, 95, 96, 97, 98, 59, 60, 61, 62, 63, 64, 65, 66, 67, 68, 69, 70, 71, 72, 73, 74, 75, 76, 77, 78, 83, 84, 85, 99, 100, 101, 102, 86, 87, 88, 79, 80, 81, 82, 31, 32, 33, 35, 36]
theorem tcW_in : ∀ k, k < 42 → tcW k ∈ TCW := by decide
theorem im_in : ∀ q, q ∈ imL → q ∈ TCW := by decide
theorem tp_in : ∀ k, k < 4 → 79 + k ∈ TCW := by decide
theorem TCW_w : ∀ k, k ∈ TCW → wrC k = true ∧ k < 103 := by decide
def offC (W : List (Nat × Nat)) : Bool := W.all (fun e => wrC e.1 && !(TCW.contains e.1))
theorem offC_ok {W : List (Nat × Nat)} (h : offC W = true) {e : Nat × Nat} (he : e ∈ W) : wrC e.1 = true ∧ e.1 ∉ TCW := by
  have h1 := List.all_eq_true.mp h e he
  rw [Bool.and_eq_true] at h1
  refine ⟨h1.1, fun hm => ?_⟩
  have h2 := h1.2
  rw [show TCW.contains e.1 = true from List.contains_iff_mem.mpr hm] at h2
  cases h2
/-- a cell that no call names stays as it is -/
theorem FRG.cell {lam : Nat → Nat} {W : List (Nat × Nat)} {h h' : PH} (hF : FRG lam W h h') {a : Nat} (ha : a < h.length) (hn : ∀ e, e ∈ W → lam e.1 ≠ a) : h'[a]? = h[a]? := by
  obtain ⟨x0, hx⟩ : ∃ x0, h[a]? = some x0 := ⟨_, List.getElem?_eq_getElem ha⟩
  obtain ⟨x, h1, h2⟩ := hF.2 a x0 hx
  have e : x = x0 := kpt_all h2 (fun j ⟨k, hm, e⟩ => hn (k, j) hm e)
  rw [h1, hx, e]
theorem CRE.same {W : TXW} {z zr zr' : Nat → Int32} {f r r' : Nat → FA} (h : CRE W z f zr r) (hz : ∀ j, j ∈ [3, 5, 6, 34, 36] → zr' j = zr j) (hr : ∀ k, k ∈ [1, 2, 4, 5, 6, 7, 9, 10, 11, 12, 13, 14, 15, 16, 18, 19, 20] → r' k = r k) : CRE W z f zr' r' := by
  obtain ⟨L, n, nv, nw, ns, nt, c, k1, k2, k3, k4, ⟨⟨⟨hn, hs, ht, hm, hc⟩, hb, h0⟩, a2, a3, a4, a5⟩, ⟨p, g1, g2, g3, g4, g5, g6, g7, g8, g9⟩, k7, k8⟩ := h
  have e1 := hr 1 (by decide)
  have e2 := hr 2 (by decide)
  have e4 := hr 4 (by decide)
  have e5 := hr 5 (by decide)
  have e6 := hr 6 (by decide)
  refine ⟨L, n, nv, nw, ns, nt, c, k1, k2, k3, k4, ⟨⟨⟨hn, by rw [e1]; exact hs, by rw [e1, e4, e5, e6]; exact ht, by rw [e1]; exact hm, by rw [e1]; exact hc⟩, fun j hj => by rw [hr 7 (by decide)]; exact hb j hj, (hz 5 (by decide)).trans h0⟩, a2.tff (hr 10 (by decide)) (fun k j q1 q2 _ => by rw [hr k ((show ∀ k, k < 15 → 11 ≤ k → k ∈ [1, 2, 4, 5, 6, 7, 9, 10, 11, 12, 13, 14, 15, 16, 18, 19, 20] by decide) k (by omega) q1)]) (fun j _ => by rw [hr 15 (by decide), hr 16 (by decide)]; exact ⟨rfl, rfl⟩), a3.tff (hz 34 (by decide)) (fun j _ => by rw [hr 18 (by decide)]), a4.tff (hz 36 (by decide)) (fun j _ => by rw [hr 19 (by decide)]), (hz 6 (by decide)).trans a5⟩, ⟨p, g1, g2, g3, g4, g5, g6, g7, (hz 3 (by decide)).trans g8, fun i hi => ?_⟩, k7.tff (fun j _ => by rw [hr 20 (by decide)]), by rw [hr 9 (by decide)]; exact k8⟩
  rw [e2, e4, e5, e6]
  exact g9 i hi
/-- a call of the class that leaves the core's cells alone -/
theorem pcw_c (l : Launch) (G : PG) {nc nm : Nat} {h : PH} (su : SU) (hI : LIY PCW nc nm h) (hS : ∀ lam, LAMC lam → SUOK lam TCl EXT l G su) (he : su.2.2.2.2.all (fun e => !(e.1 == 0 && e.2 == 2)) = true) (ho : offC su.2.2.2.2 = true) (hr : su.2.2.2.1.isSome = true) (As : List PV) (hA : ∀ lam : Nat → Nat, lam 0 = nc → R2 (vRel lam []) su.2.2.1 (vR nc :: As)) : CQY PCW l G nc nm h (mY su.1) (mC su.1) (mN su.1) (mR su.1) su.2.1 (vR nc :: As) := by
  obtain ⟨lam, b, hB, lb, W, z, f, zr, r, ⟨hL, hRw, hQ⟩, hC, hT, hK, hZ⟩ := hI
  obtain ⟨hb, hl, h103, hTB, hM, hX, hx, hd⟩ := hB
  have hB : LIB lam b nc nm h := ⟨hb, hl, h103, hTB, hM, hX, hx, hd⟩
  obtain ⟨Φ0, p1, q1⟩ := lib_c l G su hB (hS lam hl) he As (hA lam (h103 0 (by decide)))
  refine ⟨Φ0, p1, fun rr h' w => ?_⟩
  obtain ⟨w1, w2, w3⟩ := q1 rr h' w
  have c1 : ∀ a, a ∈ TCW → h'[nc + a]? = h[nc + a]? := fun a ha => by
    have hlt : nc + a < h.length := by
      by_cases q : a < 103
      · obtain ⟨x, hx2, -⟩ := hTB a _ ((nth_eq _ _).trans (List.getElem?_eq_getElem (by rw [TBc_len]; omega)))
        have := (List.getElem?_eq_some_iff.mp hx2).1
        rw [h103 a q] at this
        exact this
      · exact absurd (TCW_w a ha).2 q
    refine w3.cell hlt (fun e hm q => ?_)
    rw [← h103 a (TCW_w a ha).2] at q
    have := hl a (TCW_w a ha).1 e.1 q.symm
    rw [this] at ha
    exact (offC_ok ho hm).2 ha
  have c2 : ∀ a, a < h.length → OUT nc nm a → h'[a]? = h[a]? := fun a ha hO => w3.cell ha (fun e hm q => by
    have q2 := (offC_ok ho hm).1
    rw [h103 e.1 (wrC_lt q2)] at q
    exact hO.1 e.1 q2 q.symm)
  have c3 : ∀ j, j < 43 → h'[nm + j]? = h[nm + j]? := fun j hj => by
    have hlt : nm + j < h.length := by
      obtain ⟨x, hx2, -⟩ := hM j _ ((nth_eq _ _).trans (List.getElem?_eq_getElem (by rw [TRf_len]; exact hj)))
      exact (List.getElem?_eq_some_iff.mp hx2).1
    exact w3.cell hlt (fun e _ => hd e.1 j hj)
  have c4 : ∀ k, k < 42 + (wL W).length → h'[lb k]? = h[lb k]? := fun k hk => by
    by_cases c : k < 42
    · rw [hL.2.1 k c]
      exact c1 _ (tcW_in k c)
    · refine c2 _ ?_ (hL.2.2.2 k (by omega) hk)
      obtain ⟨y, hy⟩ : ∃ y, (LW W z f)[k]? = some y := ⟨_, List.getElem?_eq_getElem (by rw [hRw.1]; exact hk)⟩
      exact (List.getElem?_eq_some_iff.mp (hRw.2.1 k y hy)).1
  exact ⟨RSO_i w1 hr, lam, b, w2, lb, W, z, f, zr, r, ⟨hL, hRw.same c4, hQ.same (fun k hk => c3 k hk)⟩, hC, hT.tr rfl rfl rfl rfl (fun k hk => c1 _ (tp_in k hk)), hK.tr (fun q hq => c1 _ (im_in q hq)) (fun _ _ => rfl), hZ⟩
/-- fields and rows of the reference of which the core's relation speaks -/
def RFZ : List Nat := [3, 5, 6, 12, 32, 33, 34, 36, 38]
def RFR : List Nat := [1, 2, 4, 5, 6, 7, 8, 9, 10, 11, 12, 13, 14, 15, 16, 18, 19, 20, 42]
def offR (W : List (Nat × Nat)) : Bool := W.all (fun e => wrR e.1 && !(RFR.contains e.1) && (!(Nat.beq e.1 0) || !((73 :: RFZ).contains e.2)))
theorem offR_ok {W : List (Nat × Nat)} (h : offR W = true) {e : Nat × Nat} (he : e ∈ W) : wrR e.1 = true ∧ e.1 ∉ RFR ∧ (e.1 = 0 → e.2 ∉ 73 :: RFZ) := by
  have h1 := List.all_eq_true.mp h e he
  rw [Bool.and_eq_true, Bool.and_eq_true, Bool.or_eq_true] at h1
  obtain ⟨⟨a, b⟩, c⟩ := h1
  refine ⟨a, fun hm => ?_, fun e0 hm => ?_⟩
  · rw [show RFR.contains e.1 = true from List.contains_iff_mem.mpr hm] at b
    cases b
  · rcases c with c | c
    · rw [e0] at c
      cases c
    · rw [show (73 :: RFZ).contains e.2 = true from List.contains_iff_mem.mpr hm] at c
      cases c
theorem LR_at1 {nm : Nat} {H h : PH} {z : Nat → Int32} {f : Nat → FA} (hR : Rep rdF H (lamM nm) 43 (LR z f) h) {j : Nat} (hj : j ∈ RFZ) : ∃ fs, h[nm]? = some (eO 12 fs) ∧ fs[j]? = some (vI (z j)) := by
  have h0 := hR.2.1 0 _ rfl
  refine ⟨_, h0, ?_⟩
  have key : j = 3 ∨ j = 5 ∨ j = 6 ∨ j = 12 ∨ j = 32 ∨ j = 33 ∨ j = 34 ∨ j = 36 ∨ j = 38 := by
    simpa [RFZ] using hj
  rcases key with rfl | rfl | rfl | rfl | rfl | rfl | rfl | rfl | rfl <;> rfl
/-- a call of the reference that leaves the core's cells alone -/
theorem pcw_r (l : Launch) (G : PG) {nc nm : Nat} {h : PH} (su : SU) (hI : LIY PCW nc nm h) (hS : SUOK (lamM nm) TRf (EXR (lamM nm)) l G su) (he : su.2.2.2.2.all (fun e => wrR e.1 && !(e.1 == 0 && e.2 == 73)) = true) (ho : offR su.2.2.2.2 = true) (hr : su.2.2.2.1.isSome = true) (As : List PV) (hA : R2 (vRel (lamM nm) []) su.2.2.1 (vR nm :: As)) : CQY PCW l G nc nm h (mY su.1) (mC su.1) (mN su.1) (mR su.1) su.2.1 (vR nm :: As) := by
  obtain ⟨lam, b, hB, lb, W, z, f, zr, r, ⟨hL, hRw, hQ⟩, hC, hT, hK, hZ⟩ := hI
  obtain ⟨hb, hl, h103, hTB, hM, hX, hx, hd⟩ := hB
  have hB : LIB lam b nc nm h := ⟨hb, hl, h103, hTB, hM, hX, hx, hd⟩
  obtain ⟨Φ0, p1, q1⟩ := lib_r l G su hB hS he As hA
  refine ⟨Φ0, p1, fun rr h' w => ?_⟩
  obtain ⟨w1, w2, w3⟩ := q1 rr h' w
  obtain ⟨zr', r', hQ'⟩ := LR_rep w2.2.2.2.2.1
  have lt43 : ∀ e, e ∈ su.2.2.2.2 → e.1 < 43 := fun e hm => by have := wrR_lt (offR_ok ho hm).1; omega
  have c1 : ∀ a, a < h.length → (∀ j, j < 43 → a ≠ nm + j) → h'[a]? = h[a]? := fun a ha hn => w3.cell ha (fun e hm q => hn e.1 (lt43 e hm) q.symm)
  have zs : ∀ j, j ∈ RFZ → zr' j = zr j := fun j hj => by
    obtain ⟨fs, g1, g2⟩ := LR_at1 hQ hj
    obtain ⟨fs', g3, g4⟩ := LR_at1 hQ' hj
    obtain ⟨x, g5, g6⟩ := w3.2 nm _ g1
    rw [g3] at g5
    cases g5
    have g7 : fs[j]? = fs'[j]? := g6.2.2 j (fun ⟨k, hm, e⟩ => by
      have e : nm + k = nm := e
      have e0 : k = 0 := by omega
      exact (offR_ok ho hm).2.2 e0 (List.mem_cons_of_mem _ hj))
    rw [g2, g4] at g7
    injection g7 with g7
    injection g7 with g7
    exact g7.symm
  have rs : ∀ k, k ∈ RFR → r' k = r k := fun k hk => by
    have kb : 1 ≤ k ∧ k < 43 := (show ∀ k, k ∈ RFR → 1 ≤ k ∧ k < 43 by decide) k hk
    obtain ⟨k, rfl⟩ : ∃ k', k = k' + 1 := ⟨k - 1, by omega⟩
    obtain ⟨n1, a1, a2⟩ := LR_row hQ k (by omega)
    obtain ⟨n2, a3, a4⟩ := LR_row hQ' k (by omega)
    have e := w3.cell (a := nm + (k + 1)) (List.getElem?_eq_some_iff.mp a2).1 (fun e hm q => by
      have q : nm + e.1 = nm + (k + 1) := q
      have e1 : e.1 = k + 1 := by omega
      exact (offR_ok ho hm).2.1 (by rw [e1]; exact hk))
    rw [a2, a4] at e
    injection e with e
    injection e with e
    injection e with e
    injection e with e1 e
    injection e with e2 e
  have c4 : ∀ k, k < 42 + (wL W).length → h'[lb k]? = h[lb k]? := fun k hk => by
    obtain ⟨y, hy⟩ : ∃ y, (LW W z f)[k]? = some y := ⟨_, List.getElem?_eq_getElem (by rw [hRw.1]; exact hk)⟩
    exact c1 _ (List.getElem?_eq_some_iff.mp (hRw.2.1 k y hy)).1 (fun j hj e => hL.nm h103 hd k hk j hj e.symm)
  refine ⟨RSO_i w1 hr, lam, b, w2, lb, W, z, f, zr', r', ⟨hL, hRw.same c4, hQ'⟩, hC.same (fun j hj => zs j ((show ∀ j, j ∈ [3, 5, 6, 34, 36] → j ∈ RFZ by decide) j hj)) (fun k hk => rs k ((show ∀ k, k ∈ [1, 2, 4, 5, 6, 7, 9, 10, 11, 12, 13, 14, 15, 16, 18, 19, 20] → k ∈ RFR by decide) k hk)), hT.tr (zs 12 (by decide)) (zs 32 (by decide)) (zs 33 (by decide)) (rs 8 (by decide)) (fun k hk => ?_), hK.tr (fun q hq => ?_) (fun p _ => by rw [rs 42 (by decide)]), hZ.le (zs 38 (by decide)) (by rw [zs 6 (by decide)]; exact Int.le_refl _)⟩
  · obtain ⟨zp, fp, tn, t1, -⟩ := hT
    obtain ⟨y, hy⟩ : ∃ y, (LPr zp fp)[k]? = some y := ⟨_, List.getElem?_eq_getElem (show k < 4 from hk)⟩
    exact c1 _ (List.getElem?_eq_some_iff.mp (t1.2.1 k y hy)).1 (fun j hj => tp_nm h103 hd k hk j hj)
  · have q3 : q < 103 := (TCW_w q (im_in q hq)).2
    obtain ⟨x, hx2, -⟩ := hTB q _ ((nth_eq _ _).trans (List.getElem?_eq_getElem (by rw [TBc_len]; omega)))
    have lt := (List.getElem?_eq_some_iff.mp hx2).1
    rw [h103 q q3] at lt
    exact c1 _ lt (fun j hj => im_nm h103 hd q hq j hj)
