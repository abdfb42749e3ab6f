/-! findsParts: calls of isMarked and lesser by their own runs -/
noncomputable def cfl : QC FA := fun k As L => bif (Nat.beq k 49 || Nat.beq k 62) then (bif Nat.ble As.length (mN k) then run (mkc rdF wrF fzF (fun _ _ _ => none) (mP k) 0) 20 0 (As.map some ++ List.replicate (mN k - As.length) none) [] L else none) else none
noncomputable abbrev rnY (c : List PO) (F : Nat) : QK FA := run (mkc rdF wrF fzF cfl c 0) F
def RY (c : List PO) (i : Nat) (ls : List (Option PV)) (st : List PV) (L : QH FA) (res : Option PV × QH FA) : Prop := ∃ N, ∀ F, N ≤ F → rnY c F i ls st L = some res
def cbd (o : QT FA) (k : Option PV → QH FA → QT FA) : QT FA := match o with
  | some (r, L') => k r L'
  | none => none
section RYs
variable {c : List PO} {i i' : Nat} {ls ls' : List (Option PV)} {st st' : List PV} {L L' : QH FA} {res : Option PV × QH FA}
theorem ry_b (n : Nat) (hs : ∀ F, rnY c (F + n) i ls st L = rnY c F i' ls' st' L') (h : RY c i' ls' st' L' res) : RY c i ls st L res := by
  obtain ⟨N, hN⟩ := h
  refine ⟨N + n, fun F hF => ?_⟩
  obtain ⟨F', rfl⟩ : ∃ F', F = F' + n := ⟨F - n, by omega⟩
  rw [hs]
  exact hN F' (by omega)
theorem ry_ret (hs : ∀ F, rnY c (F + 1) i ls st L = some res) : RY c i ls st L res := by
  refine ⟨1, fun F hF => ?_⟩
  obtain ⟨F', rfl⟩ : ∃ F', F = F' + 1 := ⟨F - 1, by omega⟩
  exact hs F'
theorem ry_t {b it ie : Nat} {x y : Int32} (hs : ∀ F, rnY c (F + 1) i ls st L = bif pcmp b x y then rnY c F it ls' st' L else rnY c F ie ls' st' L) (hb : pcmp b x y = true) (h : RY c it ls' st' L res) : RY c i ls st L res := ry_b 1 (fun F => by rw [hs, hb]; rfl) h
theorem ry_f {b it ie : Nat} {x y : Int32} (hs : ∀ F, rnY c (F + 1) i ls st L = bif pcmp b x y then rnY c F it ls' st' L else rnY c F ie ls' st' L) (hb : pcmp b x y = false) (h : RY c ie ls' st' L res) : RY c i ls st L res := ry_b 1 (fun F => by rw [hs, hb]; rfl) h
theorem ry_g {g : Bool} (hs : ∀ F, rnY c (F + 1) i ls st L = bif g then rnY c F i' ls' st' L' else none) (hg : g = true) (h : RY c i' ls' st' L' res) : RY c i ls st L res := ry_b 1 (fun F => by rw [hs, hg]; rfl) h
theorem ry_call {o : QT FA} {t : Nat} {r1 : Option PV} {L1 : QH FA} (hs : ∀ F, rnY c (F + 1) i ls st L = cbd o (fun r L' => rnY c F t ls' (r.toList ++ st') L')) (ho : o = some (r1, L1)) (h : RY c t ls' (r1.toList ++ st') L1 res) : RY c i ls st L res := ry_b 1 (fun F => by rw [hs, ho]; rfl) h
end RYs
theorem rx_met1 {l : Launch} {G : PG} {H h : PH} {lb : Nat → Nat} {N0 k d N : Nat} {As : List PV} {L L' : QH FA} {r : Option PV} {call : QC FA} (hg : mGd k) (hi : LbI lb N0) (hl : Nat.ble As.length (mN k) = true) (hcl : hCall rdF l G d H lb N0 call) (e2 : run (mkc rdF wrF fzF call (mP k) 0) N 0 (As.map some ++ List.replicate (mN k - As.length) none) [] L = some (r, L')) (hR : Rep rdF H lb N0 L h) : PMet l G (mY k) (mC k) (mN k) (mR k) (d + 1) 0 0 (As.map (sv lb)) h (fun r1 h1 => r1 = r.map (sv lb) ∧ Rep rdF H lb N0 L' h1) := by
  obtain ⟨hy, hO, hz⟩ := hg
  refine PMet.intro hy (by rw [List.length_map]; exact Nat.le_of_ble_eq_true hl) ?_
  intro p e s m args below meth c X hr hlk hnm
  have key := run_ok (l := l) (d := d) (e := e) (below := below) (Φ := fun r1 h1 => r1 = r.map (sv lb) ∧ Rep rdF H lb N0 L' h1) wrF_ok fzF_ok hi (call := call) hcl hO X hr hlk (fun h1 hR1 => ⟨rfl, hR1⟩) N 0 _ _ _ e2 h hR
  have key : PW p l e (rmD (d + 1) 0 0) s m args below meth c G (mN k) _ 0 0 h (hpc (mP k)) _ _ := key
  rw [hz] at key
  have e3 : sls lb (As.map some ++ List.replicate (mN k - As.length) none) = (As.map (sv lb)).map some ++ List.replicate (mN k - (As.map (sv lb)).length) none := by simp [sls, Function.comp_def]
  rw [e3] at key
  exact key
theorem cfl_ok {l : Launch} {G : PG} {H : PH} {lb : Nat → Nat} {N0 d : Nat} (hi : LbI lb N0) : hCall rdF l G (d + 1) H lb N0 cfl := by
  intro k As L r L' hc h hR
  unfold cfl at hc
  obtain ⟨e0, hc⟩ := bif_some hc
  obtain ⟨e1, hc⟩ := bif_some hc
  rw [Bool.or_eq_true, Nat.beq_eq, Nat.beq_eq] at e0
  have hg : mGd k := by
    rcases e0 with rfl | rfl
    · exact (mq49 (cu := [])).2.2
    · exact (mq62 (cu := [])).2.2
  exact rx_met1 (d := d) hg hi e1 (fun k As L r L' h => by cases h) hc hR
def im (f : Nat → FA) (c : Nat) : Int32 := if pcmp 5 (f 1 (67 + c)) 0 = true then 0 else 1
set_option maxRecDepth 100000 in
theorem i49_1 (x : Int32) (z : Nat → Int32) (f : Nat → FA) (F : Nat) : rnX (mP 49) (F + 5) 0 (LS2 x) [] (LR z f) = rnX (mP 49) F 5 (LS2 x) [vI (67 + x), vR 1] (LR z f) := rfl
set_option maxRecDepth 100000 in
theorem i49_2 (y : Int32) (ls : List (Option PV)) (z : Nat → Int32) (f : Nat → FA) (F : Nat) : rnX (mP 49) (F + 1) 5 ls [vI y, vR 1] (LR z f) = bif (Nat.beq 0 0 && pin y 499) then rnX (mP 49) F 6 ls [vI (f 1 (ix y))] (LR z f) else none := rfl
set_option maxRecDepth 100000 in
theorem i49_3 (y : Int32) (ls : List (Option PV)) (L : QH FA) (F : Nat) : rnX (mP 49) (F + 1) 6 ls [vI y] L = bif pcmp 5 y 0 then rnX (mP 49) F 9 ls [] L else rnX (mP 49) F 7 ls [] L := rfl
set_option maxRecDepth 100000 in
theorem i49_4 (ls : List (Option PV)) (L : QH FA) (F : Nat) : rnX (mP 49) (F + 2) 9 ls [] L = some (some (vI 0), L) := rfl
set_option maxRecDepth 100000 in
theorem i49_5 (ls : List (Option PV)) (L : QH FA) (F : Nat) : rnX (mP 49) (F + 3) 7 ls [] L = some (some (vI 1), L) := rfl
set_option maxRecDepth 100000 in
theorem i49_0 (x : Int32) (L : QH FA) : cfl 49 [vR 0, vI x] L = rnX (mP 49) 20 0 (LS2 x) [] L := rfl
theorem cf_49a (x : Int32) (z : Nat → Int32) (f : Nat → FA) : cfl 49 [vR 0, vI x] (LR z f) = bif (Nat.beq 0 0 && pin (67 + x) 499) then (bif pcmp 5 (f 1 (ix (67 + x))) 0 then some (some (vI 0), LR z f) else some (some (vI 1), LR z f)) else none := by
  rw [i49_0, i49_1 x z f 15, i49_2 (67 + x) (LS2 x) z f 14, i49_3 _ _ _ 13, i49_4 _ _ 11, i49_5 _ _ 10]
theorem cf_49 {c : Nat} (hc : c < 144) (z : Nat → Int32) (f : Nat → FA) : cfl 49 [vR 0, vI (nI c)] (LR z f) = some (some (vI (im f c)), LR z f) := by
  rw [cf_49a, show (67 : Int32) = nI 67 from rfl, nI_add, pin_nI (by omega) (by omega), ix_nI (by omega)]
  unfold im
  cases h : pcmp 5 (f 1 (67 + c)) 0 with
  | true => rw [if_pos rfl]; rfl
  | false => rw [if_neg (by decide)]; rfl
def LS3 (x y : Int32) : List (Option PV) := [some (vR 0), some (vI x), some (vI y)]
set_option maxRecDepth 100000 in
theorem i62_1 (x y : Int32) (L : QH FA) (F : Nat) : rnX (mP 62) (F + 2) 0 (LS3 x y) [] L = rnX (mP 62) F 2 (LS3 x y) [vI y, vI x] L := rfl
set_option maxRecDepth 100000 in
theorem i62_2 (x y : Int32) (ls : List (Option PV)) (L : QH FA) (F : Nat) : rnX (mP 62) (F + 1) 2 ls [vI y, vI x] L = bif pcmp 3 x y then rnX (mP 62) F 5 ls [] L else rnX (mP 62) F 3 ls [] L := rfl
set_option maxRecDepth 100000 in
theorem i62_3 (x y : Int32) (L : QH FA) (F : Nat) : rnX (mP 62) (F + 2) 5 (LS3 x y) [] L = some (some (vI y), L) := rfl
set_option maxRecDepth 100000 in
theorem i62_4 (x y : Int32) (L : QH FA) (F : Nat) : rnX (mP 62) (F + 3) 3 (LS3 x y) [] L = some (some (vI x), L) := rfl
theorem i62_0 (x y : Int32) (L : QH FA) : cfl 62 [vR 0, vI x, vI y] L = rnX (mP 62) 20 0 (LS3 x y) [] L := by
  have e1 : (Nat.beq 62 49 || Nat.beq 62 62) = true := rfl
  have e2 : Nat.ble [vR 0, vI x, vI y].length (mN 62) = true := rfl
  have e3 : (List.map some [vR 0, vI x, vI y] ++ List.replicate (mN 62 - [vR 0, vI x, vI y].length) none) = LS3 x y := rfl
  unfold cfl
  rw [e1, cond_true, e2, cond_true, e3]
theorem cf_62 (x y : Int32) (z : Nat → Int32) (f : Nat → FA) : cfl 62 [vR 0, vI x, vI y] (LR z f) = bif pcmp 3 x y then some (some (vI y), LR z f) else some (some (vI x), LR z f) := by
  rw [i62_0, i62_1 x y _ 18, i62_2 _ _ _ _ 17, i62_3 _ _ _ 15, i62_4 _ _ _ 14]
theorem cf_62n {a b : Nat} (ha : a < 144) (hb : b < 144) (z : Nat → Int32) (f : Nat → FA) : cfl 62 [vR 0, vI (nI a), vI (nI b)] (LR z f) = some (some (vI (nI (min a b))), LR z f) := by
  rw [cf_62, ge_nI (by omega) (by omega)]
  cases h : Nat.ble b a with
  | true => rw [Nat.ble_eq] at h; rw [cond_true, Nat.min_eq_right h]
  | false => rw [ble_f] at h; rw [cond_false, Nat.min_eq_left (by omega)]
def LSp (b c l : Int32) : List (Option PV) := [some (vR 0), some (vI b), some (vI c), some (vI l)]
def MK (G : Nat → Nat) (r : FA) : FA := fun j => if j < 144 then nI (G j) else r j
theorem MK_at {G : Nat → Nat} {r : FA} {j : Nat} (h : j < 144) : MK G r j = nI (G j) := by unfold MK; rw [if_pos h]
theorem pcY {ih : QK FA} {call : QC FA} {a b v t x : Nat} {ls : List (Option PV)} {As st' : List PV} {L : QH FA} {fs : List PV} (hb : As.length = b) (hx : nth L x = some (.inr (v, fs))) (h8 : Nat.ble st'.length 8 = true) : p_callV ih call a b v t ls (As.reverse ++ vR x :: st') L = cbd (call a (vR x :: As) L) (fun r L' => ih t ls (r.toList ++ st') L') := by
  have hl : As.reverse.length = b := by rw [List.length_reverse]; exact hb
  have h1 : (As.reverse ++ vR x :: st').drop b = vR x :: st' := by rw [← hl]; exact List.drop_left
  have h2 : (As.reverse ++ vR x :: st').take b = As.reverse := by rw [← hl]; exact List.take_left
  have h3 : Nat.ble b (As.reverse ++ vR x :: st').length = true := by rw [Nat.ble_eq, List.length_append, hl]; omega
  have h4 : Nat.beq v v = true := by rw [Nat.beq_eq]
  unfold p_callV
  rw [h1]
  simp only [hx, h2, h3, h4, h8, List.reverse_reverse, Bool.and_self, cond_true]
  cases call a (vR x :: As) L with
  | none => rfl
  | some q => rfl
noncomputable abbrev rnC (call : QC FA) (F : Nat) : QK FA := run (mkc rdF wrF fzF call (mP 63) 0) F
theorem le_nI0 {a : Nat} (ha : a < 2147483648) : pcmp 5 (nI a) 0 = Nat.ble a 0 := by
  show Nat.ble (ky (nI a)) (ky 0) = _
  rw [ky_nI ha, ky0, Bool.eq_iff_iff, Nat.ble_eq, Nat.ble_eq]
  omega
set_option maxRecDepth 100000 in
theorem fa1_0 (b c l : Int32) (L : QH FA) (F : Nat) : rnY (mP 63) (F + 2) 28 (LSp b c l) [] L = rnY (mP 63) F 30 (LSp b c l) [vI 12, vI c] L := rfl
set_option maxRecDepth 100000 in
theorem fa1_1 (x y : Int32) (ls : List (Option PV)) (L : QH FA) (F : Nat) : rnY (mP 63) (F + 1) 30 ls [vI y, vI x] L = bif pcmp 2 x y then rnY (mP 63) F 50 ls [] L else rnY (mP 63) F 31 ls [] L := rfl
set_option maxRecDepth 100000 in
theorem fa1_2 (b c l : Int32) (L : QH FA) (F : Nat) : rnY (mP 63) (F + 2) 31 (LSp b c l) [] L = rnY (mP 63) F 33 (LSp b c l) [vI c, vR 0] L := rfl
set_option maxRecDepth 100000 in
theorem fa1_3c (call : QC FA) (x : Int32) (ls : List (Option PV)) (z : Nat → Int32) (f : Nat → FA) (F : Nat) : rnC call (F + 1) 33 ls [vI x, vR 0] (LR z f) = cbd (call 49 [vR 0, vI x] (LR z f)) (fun r L' => rnC call F 34 ls (r.toList ++ []) L') := pcY (ih := rnC call F) (call := call) (a := 49) (b := 1) (v := 12) (t := 34) (x := 0) (ls := ls) (As := [vI x]) (st' := []) (L := LR z f) rfl rfl rfl
theorem fa1_3 (x : Int32) (ls : List (Option PV)) (z : Nat → Int32) (f : Nat → FA) (F : Nat) : rnY (mP 63) (F + 1) 33 ls [vI x, vR 0] (LR z f) = cbd (cfl 49 [vR 0, vI x] (LR z f)) (fun r L' => rnY (mP 63) F 34 ls (r.toList ++ []) L') := fa1_3c cfl x ls z f F
set_option maxRecDepth 100000 in
theorem fa1_4 (b c l : Int32) (m : Int32) (L : QH FA) (F : Nat) : rnY (mP 63) (F + 4) 34 (LSp b c l) [vI m] L = rnY (mP 63) F 38 (LSp b c l) [vI (c - 12), vR 0, vI m] L := rfl
set_option maxRecDepth 100000 in
theorem fa1_5c (call : QC FA) (x m : Int32) (ls : List (Option PV)) (z : Nat → Int32) (f : Nat → FA) (F : Nat) : rnC call (F + 1) 38 ls [vI x, vR 0, vI m] (LR z f) = cbd (call 49 [vR 0, vI x] (LR z f)) (fun r L' => rnC call F 39 ls (r.toList ++ [vI m]) L') := pcY (ih := rnC call F) (call := call) (a := 49) (b := 1) (v := 12) (t := 39) (x := 0) (ls := ls) (As := [vI x]) (st' := [vI m]) (L := LR z f) rfl rfl rfl
theorem fa1_5 (x m : Int32) (ls : List (Option PV)) (z : Nat → Int32) (f : Nat → FA) (F : Nat) : rnY (mP 63) (F + 1) 38 ls [vI x, vR 0, vI m] (LR z f) = cbd (cfl 49 [vR 0, vI x] (LR z f)) (fun r L' => rnY (mP 63) F 39 ls (r.toList ++ [vI m]) L') := fa1_5c cfl x m ls z f F
set_option maxRecDepth 100000 in
theorem fa1_6 (x y : Int32) (ls : List (Option PV)) (L : QH FA) (F : Nat) : rnY (mP 63) (F + 1) 39 ls [vI y, vI x] L = bif pcmp 1 x y then rnY (mP 63) F 50 ls [] L else rnY (mP 63) F 40 ls [] L := rfl
set_option maxRecDepth 100000 in
theorem fa1_7 (b c l : Int32) (z : Nat → Int32) (f : Nat → FA) (F : Nat) : rnY (mP 63) (F + 7) 40 (LSp b c l) [] (LR z f) = rnY (mP 63) F 47 (LSp b c l) [vI (c - 12), vR 23, vI l, vR 0] (LR z f) := rfl
set_option maxRecDepth 100000 in
theorem fa1_8 (x l : Int32) (ls : List (Option PV)) (z : Nat → Int32) (f : Nat → FA) (F : Nat) : rnY (mP 63) (F + 1) 47 ls [vI x, vR 23, vI l, vR 0] (LR z f) = bif (Nat.beq 0 0 && pin x 144) then rnY (mP 63) F 48 ls [vI (f 23 (ix x)), vI l, vR 0] (LR z f) else none := rfl
set_option maxRecDepth 100000 in
theorem fa1_9c (call : QC FA) (x y : Int32) (ls : List (Option PV)) (z : Nat → Int32) (f : Nat → FA) (F : Nat) : rnC call (F + 1) 48 ls [vI y, vI x, vR 0] (LR z f) = cbd (call 62 [vR 0, vI x, vI y] (LR z f)) (fun r L' => rnC call F 49 ls (r.toList ++ []) L') := pcY (ih := rnC call F) (call := call) (a := 62) (b := 2) (v := 12) (t := 49) (x := 0) (ls := ls) (As := [vI x, vI y]) (st' := []) (L := LR z f) rfl rfl rfl
theorem fa1_9 (x y : Int32) (ls : List (Option PV)) (z : Nat → Int32) (f : Nat → FA) (F : Nat) : rnY (mP 63) (F + 1) 48 ls [vI y, vI x, vR 0] (LR z f) = cbd (cfl 62 [vR 0, vI x, vI y] (LR z f)) (fun r L' => rnY (mP 63) F 49 ls (r.toList ++ []) L') := fa1_9c cfl x y ls z f F
set_option maxRecDepth 100000 in
theorem fa1_a (b c l : Int32) (x : Int32) (L : QH FA) (F : Nat) : rnY (mP 63) (F + 1) 49 (LSp b c l) [vI x] L = rnY (mP 63) F 50 (LSp b c x) [] L := rfl
theorem fb1 (z : Nat → Int32) (f : Nat → FA) (G : Nat → Nat) (r : FA) (b : Int32) (c l : Nat) (hc : c < 144) (hl : l < 144) (hG : ∀ j, G j < 144) (hf : f 23 = MK G r) : ∃ l', l' ≤ l ∧ ∀ res, RY (mP 63) 50 (LSp b (nI c) (nI l')) [] (LR z f) res → RY (mP 63) 28 (LSp b (nI c) (nI l)) [] (LR z f) res := by
  by_cases hk : c < 12
  · refine ⟨l, Nat.le_refl _, fun res h => ry_b 2 (fa1_0 _ _ _ _) ?_⟩
    exact ry_t (fa1_1 _ _ _ _) (by rw [show (12 : Int32) = nI 12 from rfl, lt_nI (by omega) (by omega), blt_t]; exact hk) h
  · have en : nI c - 12 = nI (c - 12) := nsub (a := c - 12) (c := 12) (by rw [show c - 12 + 12 = c by omega]) rfl
    have go : ∀ res, (im f c = im f (c - 12) → RY (mP 63) 40 (LSp b (nI c) (nI l)) [] (LR z f) res) → (im f c ≠ im f (c - 12) → RY (mP 63) 50 (LSp b (nI c) (nI l)) [] (LR z f) res) → RY (mP 63) 28 (LSp b (nI c) (nI l)) [] (LR z f) res := by
      intro res h1 h2
      refine ry_b 2 (fa1_0 _ _ _ _) ?_
      refine ry_f (fa1_1 _ _ _ _) (by rw [show (12 : Int32) = nI 12 from rfl, lt_nI (by omega) (by omega), blt_f]; exact hk) (ry_b 2 (fa1_2 _ _ _ _) (ry_call (fa1_3 _ _ _ _) (cf_49 hc z f) (ry_b 4 (fa1_4 _ _ _ _ _) ?_)))
      rw [en]
      refine ry_call (fa1_5 _ _ _ _ _) (cf_49 (by omega) z f) ?_
      cases hq : pcmp 1 (im f c) (im f (c - 12)) with
      | true => exact ry_t (fa1_6 _ _ _ _) hq (h2 (of_decide_eq_true (cmp_ne.symm.trans hq)))
      | false => exact ry_f (fa1_6 _ _ _ _) hq (h1 (Decidable.of_not_not (of_decide_eq_false (cmp_ne.symm.trans hq))))
    by_cases he : im f c = im f (c - 12)
    · refine ⟨min l (G (c - 12)), Nat.min_le_left _ _, fun res h => go res (fun _ => ?_) (fun hn => absurd he hn)⟩
      refine ry_b 7 (fa1_7 _ _ _ _ _) ?_
      rw [en]
      refine ry_g (fa1_8 _ _ _ _ _) (by rw [pin_nI (by omega) (by omega)]; rfl) ?_
      rw [ix_nI (by omega), hf, MK_at (by omega)]
      exact ry_call (fa1_9 _ _ _ _ _) (cf_62n hl (hG _) z f) (ry_b 1 (fa1_a _ _ _ _ _) h)
    · exact ⟨l, Nat.le_refl _, fun res h => go res (fun q => absurd q he) (fun _ => h)⟩
set_option maxRecDepth 100000 in
theorem fa2_0 (b c l : Int32) (L : QH FA) (F : Nat) : rnY (mP 63) (F + 2) 50 (LSp b c l) [] L = rnY (mP 63) F 52 (LSp b c l) [vI 132, vI c] L := rfl
set_option maxRecDepth 100000 in
theorem fa2_1 (x y : Int32) (ls : List (Option PV)) (L : QH FA) (F : Nat) : rnY (mP 63) (F + 1) 52 ls [vI y, vI x] L = bif pcmp 3 x y then rnY (mP 63) F 72 ls [] L else rnY (mP 63) F 53 ls [] L := rfl
set_option maxRecDepth 100000 in
theorem fa2_2 (b c l : Int32) (L : QH FA) (F : Nat) : rnY (mP 63) (F + 2) 53 (LSp b c l) [] L = rnY (mP 63) F 55 (LSp b c l) [vI c, vR 0] L := rfl
set_option maxRecDepth 100000 in
theorem fa2_3c (call : QC FA) (x : Int32) (ls : List (Option PV)) (z : Nat → Int32) (f : Nat → FA) (F : Nat) : rnC call (F + 1) 55 ls [vI x, vR 0] (LR z f) = cbd (call 49 [vR 0, vI x] (LR z f)) (fun r L' => rnC call F 56 ls (r.toList ++ []) L') := pcY (ih := rnC call F) (call := call) (a := 49) (b := 1) (v := 12) (t := 56) (x := 0) (ls := ls) (As := [vI x]) (st' := []) (L := LR z f) rfl rfl rfl
theorem fa2_3 (x : Int32) (ls : List (Option PV)) (z : Nat → Int32) (f : Nat → FA) (F : Nat) : rnY (mP 63) (F + 1) 55 ls [vI x, vR 0] (LR z f) = cbd (cfl 49 [vR 0, vI x] (LR z f)) (fun r L' => rnY (mP 63) F 56 ls (r.toList ++ []) L') := fa2_3c cfl x ls z f F
set_option maxRecDepth 100000 in
theorem fa2_4 (b c l : Int32) (m : Int32) (L : QH FA) (F : Nat) : rnY (mP 63) (F + 4) 56 (LSp b c l) [vI m] L = rnY (mP 63) F 60 (LSp b c l) [vI (c + 12), vR 0, vI m] L := rfl
set_option maxRecDepth 100000 in
theorem fa2_5c (call : QC FA) (x m : Int32) (ls : List (Option PV)) (z : Nat → Int32) (f : Nat → FA) (F : Nat) : rnC call (F + 1) 60 ls [vI x, vR 0, vI m] (LR z f) = cbd (call 49 [vR 0, vI x] (LR z f)) (fun r L' => rnC call F 61 ls (r.toList ++ [vI m]) L') := pcY (ih := rnC call F) (call := call) (a := 49) (b := 1) (v := 12) (t := 61) (x := 0) (ls := ls) (As := [vI x]) (st' := [vI m]) (L := LR z f) rfl rfl rfl
theorem fa2_5 (x m : Int32) (ls : List (Option PV)) (z : Nat → Int32) (f : Nat → FA) (F : Nat) : rnY (mP 63) (F + 1) 60 ls [vI x, vR 0, vI m] (LR z f) = cbd (cfl 49 [vR 0, vI x] (LR z f)) (fun r L' => rnY (mP 63) F 61 ls (r.toList ++ [vI m]) L') := fa2_5c cfl x m ls z f F
set_option maxRecDepth 100000 in
theorem fa2_6 (x y : Int32) (ls : List (Option PV)) (L : QH FA) (F : Nat) : rnY (mP 63) (F + 1) 61 ls [vI y, vI x] L = bif pcmp 1 x y then rnY (mP 63) F 72 ls [] L else rnY (mP 63) F 62 ls [] L := rfl
set_option maxRecDepth 100000 in
theorem fa2_7 (b c l : Int32) (z : Nat → Int32) (f : Nat → FA) (F : Nat) : rnY (mP 63) (F + 7) 62 (LSp b c l) [] (LR z f) = rnY (mP 63) F 69 (LSp b c l) [vI (c + 12), vR 23, vI l, vR 0] (LR z f) := rfl
set_option maxRecDepth 100000 in
theorem fa2_8 (x l : Int32) (ls : List (Option PV)) (z : Nat → Int32) (f : Nat → FA) (F : Nat) : rnY (mP 63) (F + 1) 69 ls [vI x, vR 23, vI l, vR 0] (LR z f) = bif (Nat.beq 0 0 && pin x 144) then rnY (mP 63) F 70 ls [vI (f 23 (ix x)), vI l, vR 0] (LR z f) else none := rfl
set_option maxRecDepth 100000 in
theorem fa2_9c (call : QC FA) (x y : Int32) (ls : List (Option PV)) (z : Nat → Int32) (f : Nat → FA) (F : Nat) : rnC call (F + 1) 70 ls [vI y, vI x, vR 0] (LR z f) = cbd (call 62 [vR 0, vI x, vI y] (LR z f)) (fun r L' => rnC call F 71 ls (r.toList ++ []) L') := pcY (ih := rnC call F) (call := call) (a := 62) (b := 2) (v := 12) (t := 71) (x := 0) (ls := ls) (As := [vI x, vI y]) (st' := []) (L := LR z f) rfl rfl rfl
theorem fa2_9 (x y : Int32) (ls : List (Option PV)) (z : Nat → Int32) (f : Nat → FA) (F : Nat) : rnY (mP 63) (F + 1) 70 ls [vI y, vI x, vR 0] (LR z f) = cbd (cfl 62 [vR 0, vI x, vI y] (LR z f)) (fun r L' => rnY (mP 63) F 71 ls (r.toList ++ []) L') := fa2_9c cfl x y ls z f F
set_option maxRecDepth 100000 in
theorem fa2_a (b c l : Int32) (x : Int32) (L : QH FA) (F : Nat) : rnY (mP 63) (F + 1) 71 (LSp b c l) [vI x] L = rnY (mP 63) F 72 (LSp b c x) [] L := rfl
theorem fb2 (z : Nat → Int32) (f : Nat → FA) (G : Nat → Nat) (r : FA) (b : Int32) (c l : Nat) (hc : c < 144) (hl : l < 144) (hG : ∀ j, G j < 144) (hf : f 23 = MK G r) : ∃ l', l' ≤ l ∧ ∀ res, RY (mP 63) 72 (LSp b (nI c) (nI l')) [] (LR z f) res → RY (mP 63) 50 (LSp b (nI c) (nI l)) [] (LR z f) res := by
  by_cases hk : 132 ≤ c
  · refine ⟨l, Nat.le_refl _, fun res h => ry_b 2 (fa2_0 _ _ _ _) ?_⟩
    exact ry_t (fa2_1 _ _ _ _) (by rw [show (132 : Int32) = nI 132 from rfl, ge_nI (by omega) (by omega), Nat.ble_eq]; exact hk) h
  · have en : nI c + 12 = nI (c + 12) := nI_add c 12
    have go : ∀ res, (im f c = im f (c + 12) → RY (mP 63) 62 (LSp b (nI c) (nI l)) [] (LR z f) res) → (im f c ≠ im f (c + 12) → RY (mP 63) 72 (LSp b (nI c) (nI l)) [] (LR z f) res) → RY (mP 63) 50 (LSp b (nI c) (nI l)) [] (LR z f) res := by
      intro res h1 h2
      refine ry_b 2 (fa2_0 _ _ _ _) ?_
      refine ry_f (fa2_1 _ _ _ _) (by rw [show (132 : Int32) = nI 132 from rfl, ge_nI (by omega) (by omega), ble_f]; exact hk) (ry_b 2 (fa2_2 _ _ _ _) (ry_call (fa2_3 _ _ _ _) (cf_49 hc z f) (ry_b 4 (fa2_4 _ _ _ _ _) ?_)))
      rw [en]
      refine ry_call (fa2_5 _ _ _ _ _) (cf_49 (by omega) z f) ?_
      cases hq : pcmp 1 (im f c) (im f (c + 12)) with
      | true => exact ry_t (fa2_6 _ _ _ _) hq (h2 (of_decide_eq_true (cmp_ne.symm.trans hq)))
      | false => exact ry_f (fa2_6 _ _ _ _) hq (h1 (Decidable.of_not_not (of_decide_eq_false (cmp_ne.symm.trans hq))))
    by_cases he : im f c = im f (c + 12)
    · refine ⟨min l (G (c + 12)), Nat.min_le_left _ _, fun res h => go res (fun _ => ?_) (fun hn => absurd he hn)⟩
      refine ry_b 7 (fa2_7 _ _ _ _ _) ?_
      rw [en]
      refine ry_g (fa2_8 _ _ _ _ _) (by rw [pin_nI (by omega) (by omega)]; rfl) ?_
      rw [ix_nI (by omega), hf, MK_at (by omega)]
      exact ry_call (fa2_9 _ _ _ _ _) (cf_62n hl (hG _) z f) (ry_b 1 (fa2_a _ _ _ _ _) h)
    · exact ⟨l, Nat.le_refl _, fun res h => go res (fun q => absurd q he) (fun _ => h)⟩
set_option maxRecDepth 100000 in
theorem fa3_0 (b c l : Int32) (L : QH FA) (F : Nat) : rnY (mP 63) (F + 3) 72 (LSp b c l) [] L = rnY (mP 63) F 75 (LSp b c l) [vI (c - c / 12 * 12)] L := rfl
set_option maxRecDepth 100000 in
theorem fa3_1 (x : Int32) (ls : List (Option PV)) (L : QH FA) (F : Nat) : rnY (mP 63) (F + 1) 75 ls [vI x] L = bif pcmp 5 x 0 then rnY (mP 63) F 95 ls [] L else rnY (mP 63) F 76 ls [] L := rfl
set_option maxRecDepth 100000 in
theorem fa3_2 (b c l : Int32) (L : QH FA) (F : Nat) : rnY (mP 63) (F + 2) 76 (LSp b c l) [] L = rnY (mP 63) F 78 (LSp b c l) [vI c, vR 0] L := rfl
set_option maxRecDepth 100000 in
theorem fa3_3c (call : QC FA) (x : Int32) (ls : List (Option PV)) (z : Nat → Int32) (f : Nat → FA) (F : Nat) : rnC call (F + 1) 78 ls [vI x, vR 0] (LR z f) = cbd (call 49 [vR 0, vI x] (LR z f)) (fun r L' => rnC call F 79 ls (r.toList ++ []) L') := pcY (ih := rnC call F) (call := call) (a := 49) (b := 1) (v := 12) (t := 79) (x := 0) (ls := ls) (As := [vI x]) (st' := []) (L := LR z f) rfl rfl rfl
theorem fa3_3 (x : Int32) (ls : List (Option PV)) (z : Nat → Int32) (f : Nat → FA) (F : Nat) : rnY (mP 63) (F + 1) 78 ls [vI x, vR 0] (LR z f) = cbd (cfl 49 [vR 0, vI x] (LR z f)) (fun r L' => rnY (mP 63) F 79 ls (r.toList ++ []) L') := fa3_3c cfl x ls z f F
set_option maxRecDepth 100000 in
theorem fa3_4 (b c l : Int32) (m : Int32) (L : QH FA) (F : Nat) : rnY (mP 63) (F + 4) 79 (LSp b c l) [vI m] L = rnY (mP 63) F 83 (LSp b c l) [vI (c - 1), vR 0, vI m] L := rfl
set_option maxRecDepth 100000 in
theorem fa3_5c (call : QC FA) (x m : Int32) (ls : List (Option PV)) (z : Nat → Int32) (f : Nat → FA) (F : Nat) : rnC call (F + 1) 83 ls [vI x, vR 0, vI m] (LR z f) = cbd (call 49 [vR 0, vI x] (LR z f)) (fun r L' => rnC call F 84 ls (r.toList ++ [vI m]) L') := pcY (ih := rnC call F) (call := call) (a := 49) (b := 1) (v := 12) (t := 84) (x := 0) (ls := ls) (As := [vI x]) (st' := [vI m]) (L := LR z f) rfl rfl rfl
theorem fa3_5 (x m : Int32) (ls : List (Option PV)) (z : Nat → Int32) (f : Nat → FA) (F : Nat) : rnY (mP 63) (F + 1) 83 ls [vI x, vR 0, vI m] (LR z f) = cbd (cfl 49 [vR 0, vI x] (LR z f)) (fun r L' => rnY (mP 63) F 84 ls (r.toList ++ [vI m]) L') := fa3_5c cfl x m ls z f F
set_option maxRecDepth 100000 in
theorem fa3_6 (x y : Int32) (ls : List (Option PV)) (L : QH FA) (F : Nat) : rnY (mP 63) (F + 1) 84 ls [vI y, vI x] L = bif pcmp 1 x y then rnY (mP 63) F 95 ls [] L else rnY (mP 63) F 85 ls [] L := rfl
set_option maxRecDepth 100000 in
theorem fa3_7 (b c l : Int32) (z : Nat → Int32) (f : Nat → FA) (F : Nat) : rnY (mP 63) (F + 7) 85 (LSp b c l) [] (LR z f) = rnY (mP 63) F 92 (LSp b c l) [vI (c - 1), vR 23, vI l, vR 0] (LR z f) := rfl
set_option maxRecDepth 100000 in
theorem fa3_8 (x l : Int32) (ls : List (Option PV)) (z : Nat → Int32) (f : Nat → FA) (F : Nat) : rnY (mP 63) (F + 1) 92 ls [vI x, vR 23, vI l, vR 0] (LR z f) = bif (Nat.beq 0 0 && pin x 144) then rnY (mP 63) F 93 ls [vI (f 23 (ix x)), vI l, vR 0] (LR z f) else none := rfl
set_option maxRecDepth 100000 in
theorem fa3_9c (call : QC FA) (x y : Int32) (ls : List (Option PV)) (z : Nat → Int32) (f : Nat → FA) (F : Nat) : rnC call (F + 1) 93 ls [vI y, vI x, vR 0] (LR z f) = cbd (call 62 [vR 0, vI x, vI y] (LR z f)) (fun r L' => rnC call F 94 ls (r.toList ++ []) L') := pcY (ih := rnC call F) (call := call) (a := 62) (b := 2) (v := 12) (t := 94) (x := 0) (ls := ls) (As := [vI x, vI y]) (st' := []) (L := LR z f) rfl rfl rfl
theorem fa3_9 (x y : Int32) (ls : List (Option PV)) (z : Nat → Int32) (f : Nat → FA) (F : Nat) : rnY (mP 63) (F + 1) 93 ls [vI y, vI x, vR 0] (LR z f) = cbd (cfl 62 [vR 0, vI x, vI y] (LR z f)) (fun r L' => rnY (mP 63) F 94 ls (r.toList ++ []) L') := fa3_9c cfl x y ls z f F
set_option maxRecDepth 100000 in
theorem fa3_a (b c l : Int32) (x : Int32) (L : QH FA) (F : Nat) : rnY (mP 63) (F + 1) 94 (LSp b c l) [vI x] L = rnY (mP 63) F 95 (LSp b c x) [] L := rfl
theorem fb3 (z : Nat → Int32) (f : Nat → FA) (G : Nat → Nat) (r : FA) (b : Int32) (c l : Nat) (hc : c < 144) (hl : l < 144) (hG : ∀ j, G j < 144) (hf : f 23 = MK G r) : ∃ l', l' ≤ l ∧ ∀ res, RY (mP 63) 95 (LSp b (nI c) (nI l')) [] (LR z f) res → RY (mP 63) 72 (LSp b (nI c) (nI l)) [] (LR z f) res := by
  by_cases hk : c % 12 ≤ 0
  · refine ⟨l, Nat.le_refl _, fun res h => ry_b 3 (fa3_0 _ _ _ _) ?_⟩
    rw [nrem (x := nI c) (y := 12) (a := c) (b := 12) rfl (by omega) (by decide) (by decide) rfl]
    exact ry_t (fa3_1 _ _ _) (by rw [le_nI0 (by omega), Nat.ble_eq]; exact hk) h
  · have en : nI c - 1 = nI (c - 1) := nsub (a := c - 1) (c := 1) (by rw [show c - 1 + 1 = c by omega]) rfl
    have go : ∀ res, (im f c = im f (c - 1) → RY (mP 63) 85 (LSp b (nI c) (nI l)) [] (LR z f) res) → (im f c ≠ im f (c - 1) → RY (mP 63) 95 (LSp b (nI c) (nI l)) [] (LR z f) res) → RY (mP 63) 72 (LSp b (nI c) (nI l)) [] (LR z f) res := by
      intro res h1 h2
      refine ry_b 3 (fa3_0 _ _ _ _) ?_
      rw [nrem (x := nI c) (y := 12) (a := c) (b := 12) rfl (by omega) (by decide) (by decide) rfl]
      refine ry_f (fa3_1 _ _ _) (by rw [le_nI0 (by omega), ble_f]; exact hk) (ry_b 2 (fa3_2 _ _ _ _) (ry_call (fa3_3 _ _ _ _) (cf_49 hc z f) (ry_b 4 (fa3_4 _ _ _ _ _) ?_)))
      rw [en]
      refine ry_call (fa3_5 _ _ _ _ _) (cf_49 (by omega) z f) ?_
      cases hq : pcmp 1 (im f c) (im f (c - 1)) with
      | true => exact ry_t (fa3_6 _ _ _ _) hq (h2 (of_decide_eq_true (cmp_ne.symm.trans hq)))
      | false => exact ry_f (fa3_6 _ _ _ _) hq (h1 (Decidable.of_not_not (of_decide_eq_false (cmp_ne.symm.trans hq))))
    by_cases he : im f c = im f (c - 1)
    · refine ⟨min l (G (c - 1)), Nat.min_le_left _ _, fun res h => go res (fun _ => ?_) (fun hn => absurd he hn)⟩
      refine ry_b 7 (fa3_7 _ _ _ _ _) ?_
      rw [en]
      refine ry_g (fa3_8 _ _ _ _ _) (by rw [pin_nI (by omega) (by omega)]; rfl) ?_
      rw [ix_nI (by omega), hf, MK_at (by omega)]
      exact ry_call (fa3_9 _ _ _ _ _) (cf_62n hl (hG _) z f) (ry_b 1 (fa3_a _ _ _ _ _) h)
    · exact ⟨l, Nat.le_refl _, fun res h => go res (fun q => absurd q he) (fun _ => h)⟩
set_option maxRecDepth 100000 in
theorem fa4_0 (b c l : Int32) (L : QH FA) (F : Nat) : rnY (mP 63) (F + 4) 95 (LSp b c l) [] L = rnY (mP 63) F 99 (LSp b c l) [vI 11, vI (c - c / 12 * 12)] L := rfl
set_option maxRecDepth 100000 in
theorem fa4_1 (x y : Int32) (ls : List (Option PV)) (L : QH FA) (F : Nat) : rnY (mP 63) (F + 1) 99 ls [vI y, vI x] L = bif pcmp 3 x y then rnY (mP 63) F 119 ls [] L else rnY (mP 63) F 100 ls [] L := rfl
set_option maxRecDepth 100000 in
theorem fa4_2 (b c l : Int32) (L : QH FA) (F : Nat) : rnY (mP 63) (F + 2) 100 (LSp b c l) [] L = rnY (mP 63) F 102 (LSp b c l) [vI c, vR 0] L := rfl
set_option maxRecDepth 100000 in
theorem fa4_3c (call : QC FA) (x : Int32) (ls : List (Option PV)) (z : Nat → Int32) (f : Nat → FA) (F : Nat) : rnC call (F + 1) 102 ls [vI x, vR 0] (LR z f) = cbd (call 49 [vR 0, vI x] (LR z f)) (fun r L' => rnC call F 103 ls (r.toList ++ []) L') := pcY (ih := rnC call F) (call := call) (a := 49) (b := 1) (v := 12) (t := 103) (x := 0) (ls := ls) (As := [vI x]) (st' := []) (L := LR z f) rfl rfl rfl
theorem fa4_3 (x : Int32) (ls : List (Option PV)) (z : Nat → Int32) (f : Nat → FA) (F : Nat) : rnY (mP 63) (F + 1) 102 ls [vI x, vR 0] (LR z f) = cbd (cfl 49 [vR 0, vI x] (LR z f)) (fun r L' => rnY (mP 63) F 103 ls (r.toList ++ []) L') := fa4_3c cfl x ls z f F
set_option maxRecDepth 100000 in
theorem fa4_4 (b c l : Int32) (m : Int32) (L : QH FA) (F : Nat) : rnY (mP 63) (F + 4) 103 (LSp b c l) [vI m] L = rnY (mP 63) F 107 (LSp b c l) [vI (c + 1), vR 0, vI m] L := rfl
set_option maxRecDepth 100000 in
theorem fa4_5c (call : QC FA) (x m : Int32) (ls : List (Option PV)) (z : Nat → Int32) (f : Nat → FA) (F : Nat) : rnC call (F + 1) 107 ls [vI x, vR 0, vI m] (LR z f) = cbd (call 49 [vR 0, vI x] (LR z f)) (fun r L' => rnC call F 108 ls (r.toList ++ [vI m]) L') := pcY (ih := rnC call F) (call := call) (a := 49) (b := 1) (v := 12) (t := 108) (x := 0) (ls := ls) (As := [vI x]) (st' := [vI m]) (L := LR z f) rfl rfl rfl
theorem fa4_5 (x m : Int32) (ls : List (Option PV)) (z : Nat → Int32) (f : Nat → FA) (F : Nat) : rnY (mP 63) (F + 1) 107 ls [vI x, vR 0, vI m] (LR z f) = cbd (cfl 49 [vR 0, vI x] (LR z f)) (fun r L' => rnY (mP 63) F 108 ls (r.toList ++ [vI m]) L') := fa4_5c cfl x m ls z f F
set_option maxRecDepth 100000 in
theorem fa4_6 (x y : Int32) (ls : List (Option PV)) (L : QH FA) (F : Nat) : rnY (mP 63) (F + 1) 108 ls [vI y, vI x] L = bif pcmp 1 x y then rnY (mP 63) F 119 ls [] L else rnY (mP 63) F 109 ls [] L := rfl
set_option maxRecDepth 100000 in
theorem fa4_7 (b c l : Int32) (z : Nat → Int32) (f : Nat → FA) (F : Nat) : rnY (mP 63) (F + 7) 109 (LSp b c l) [] (LR z f) = rnY (mP 63) F 116 (LSp b c l) [vI (c + 1), vR 23, vI l, vR 0] (LR z f) := rfl
set_option maxRecDepth 100000 in
theorem fa4_8 (x l : Int32) (ls : List (Option PV)) (z : Nat → Int32) (f : Nat → FA) (F : Nat) : rnY (mP 63) (F + 1) 116 ls [vI x, vR 23, vI l, vR 0] (LR z f) = bif (Nat.beq 0 0 && pin x 144) then rnY (mP 63) F 117 ls [vI (f 23 (ix x)), vI l, vR 0] (LR z f) else none := rfl
set_option maxRecDepth 100000 in
theorem fa4_9c (call : QC FA) (x y : Int32) (ls : List (Option PV)) (z : Nat → Int32) (f : Nat → FA) (F : Nat) : rnC call (F + 1) 117 ls [vI y, vI x, vR 0] (LR z f) = cbd (call 62 [vR 0, vI x, vI y] (LR z f)) (fun r L' => rnC call F 118 ls (r.toList ++ []) L') := pcY (ih := rnC call F) (call := call) (a := 62) (b := 2) (v := 12) (t := 118) (x := 0) (ls := ls) (As := [vI x, vI y]) (st' := []) (L := LR z f) rfl rfl rfl
theorem fa4_9 (x y : Int32) (ls : List (Option PV)) (z : Nat → Int32) (f : Nat → FA) (F : Nat) : rnY (mP 63) (F + 1) 117 ls [vI y, vI x, vR 0] (LR z f) = cbd (cfl 62 [vR 0, vI x, vI y] (LR z f)) (fun r L' => rnY (mP 63) F 118 ls (r.toList ++ []) L') := fa4_9c cfl x y ls z f F
set_option maxRecDepth 100000 in
theorem fa4_a (b c l : Int32) (x : Int32) (L : QH FA) (F : Nat) : rnY (mP 63) (F + 1) 118 (LSp b c l) [vI x] L = rnY (mP 63) F 119 (LSp b c x) [] L := rfl
theorem fb4 (z : Nat → Int32) (f : Nat → FA) (G : Nat → Nat) (r : FA) (b : Int32) (c l : Nat) (hc : c < 144) (hl : l < 144) (hG : ∀ j, G j < 144) (hf : f 23 = MK G r) : ∃ l', l' ≤ l ∧ ∀ res, RY (mP 63) 119 (LSp b (nI c) (nI l')) [] (LR z f) res → RY (mP 63) 95 (LSp b (nI c) (nI l)) [] (LR z f) res := by
  by_cases hk : 11 ≤ c % 12
  · refine ⟨l, Nat.le_refl _, fun res h => ry_b 4 (fa4_0 _ _ _ _) ?_⟩
    rw [nrem (x := nI c) (y := 12) (a := c) (b := 12) rfl (by omega) (by decide) (by decide) rfl]
    exact ry_t (fa4_1 _ _ _ _) (by rw [show (11 : Int32) = nI 11 from rfl, ge_nI (by omega) (by omega), Nat.ble_eq]; exact hk) h
  · have en : nI c + 1 = nI (c + 1) := nI_add c 1
    have go : ∀ res, (im f c = im f (c + 1) → RY (mP 63) 109 (LSp b (nI c) (nI l)) [] (LR z f) res) → (im f c ≠ im f (c + 1) → RY (mP 63) 119 (LSp b (nI c) (nI l)) [] (LR z f) res) → RY (mP 63) 95 (LSp b (nI c) (nI l)) [] (LR z f) res := by
      intro res h1 h2
      refine ry_b 4 (fa4_0 _ _ _ _) ?_
      rw [nrem (x := nI c) (y := 12) (a := c) (b := 12) rfl (by omega) (by decide) (by decide) rfl]
      refine ry_f (fa4_1 _ _ _ _) (by rw [show (11 : Int32) = nI 11 from rfl, ge_nI (by omega) (by omega), ble_f]; exact hk) (ry_b 2 (fa4_2 _ _ _ _) (ry_call (fa4_3 _ _ _ _) (cf_49 hc z f) (ry_b 4 (fa4_4 _ _ _ _ _) ?_)))
      rw [en]
      refine ry_call (fa4_5 _ _ _ _ _) (cf_49 (by omega) z f) ?_
      cases hq : pcmp 1 (im f c) (im f (c + 1)) with
      | true => exact ry_t (fa4_6 _ _ _ _) hq (h2 (of_decide_eq_true (cmp_ne.symm.trans hq)))
      | false => exact ry_f (fa4_6 _ _ _ _) hq (h1 (Decidable.of_not_not (of_decide_eq_false (cmp_ne.symm.trans hq))))
    by_cases he : im f c = im f (c + 1)
    · refine ⟨min l (G (c + 1)), Nat.min_le_left _ _, fun res h => go res (fun _ => ?_) (fun hn => absurd he hn)⟩
      refine ry_b 7 (fa4_7 _ _ _ _ _) ?_
      rw [en]
      refine ry_g (fa4_8 _ _ _ _ _) (by rw [pin_nI (by omega) (by omega)]; rfl) ?_
      rw [ix_nI (by omega), hf, MK_at (by omega)]
      exact ry_call (fa4_9 _ _ _ _ _) (cf_62n hl (hG _) z f) (ry_b 1 (fa4_a _ _ _ _ _) h)
    · exact ⟨l, Nat.le_refl _, fun res h => go res (fun q => absurd q he) (fun _ => h)⟩
