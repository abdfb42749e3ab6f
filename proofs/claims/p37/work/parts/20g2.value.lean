variable {bb : Int32}
theorem slot_up {w x : Int32} {r s : Nat} (hr : r < 16) (hs : s < 16) (hx : ix x < 4) : ((w ||| (x <<< (((2 : Int32) * nI r) &&& 31))) >>> (((2 : Int32) * nI s) &&& 31)) &&& 3 = if s = r then ((w >>> (((2 : Int32) * nI r) &&& 31)) &&& 3) ||| x else (w >>> (((2 : Int32) * nI s) &&& 31)) &&& 3 := by
  have hl : ∀ (y : Int32) (k : Nat), k < 16 → (y <<< (((2 : Int32) * nI k) &&& 31)).toBitVec = y.toBitVec <<< (2 * k) := by
    intro y k hk
    show y.toBitVec <<< ((((2 : Int32) * nI k) &&& 31).toBitVec.smod 32#32) = _
    rw [BitVec.shiftLeft_eq', sh_n k hk]
  have hr' : ∀ (y : Int32) (k : Nat), k < 16 → (y >>> (((2 : Int32) * nI k) &&& 31)).toBitVec = y.toBitVec.sshiftRight (2 * k) := by
    intro y k hk
    show y.toBitVec.sshiftRight' ((((2 : Int32) * nI k) &&& 31).toBitVec.smod 32#32) = _
    rw [BitVec.sshiftRight', sh_n k hk]
  have hb := sl_bits w.toBitVec x.toBitVec r s hr hs hx
  apply Int32.toBitVec_inj.mp
  rw [Int32.toBitVec_and, hr' _ s hs, Int32.toBitVec_or, hl _ r hr]
  refine hb.trans ?_
  split
  · rw [Int32.toBitVec_or, Int32.toBitVec_and, hr' _ r hr]
    rfl
  · rw [Int32.toBitVec_and, hr' _ s hs]
    rfl
def KI (K : FA) : Prop := ∀ c, c < 19683 → slotI K c = 0 ∨ slotI K c = Vc c + 2
theorem Vc_rng (c : Nat) : rng (Vc c) := gv_rng _ _ _
def keepK (K : FA) (c : Nat) (v : Int32) : FA := upd K (c / 16) (K (c / 16) ||| (v + 2) <<< ((2 * nI (c % 16)) &&& 31))
theorem KI_0 : KI (fun _ => 0) := by
  intro c hc
  left
  have h : ∀ r, r < 16 → ((0 : Int32) >>> (((2 : Int32) * nI r) &&& 31)) &&& 3 = 0 := by decide +kernel
  exact h (c % 16) (Nat.mod_lt _ (by decide))
theorem KI_keep {K : FA} {c : Nat} (hc : c < 19683) (h : KI K) : KI (keepK K c (Vc c)) := by
  intro c2 h2
  have hx : ix (Vc c + 2) < 4 := by rcases Vc_rng c with q | q | q <;> rw [q] <;> decide
  unfold slotI keepK
  by_cases e : c2 / 16 = c / 16
  · rw [e, pk_us, slot_up (Nat.mod_lt _ (by decide)) (Nat.mod_lt _ (by decide)) hx]
    by_cases e2 : c2 % 16 = c % 16
    · obtain rfl : c2 = c := by omega
      rw [if_pos rfl]
      right
      have h1 := h c2 hc
      unfold slotI at h1
      rcases h1 with q | q
      · rw [q, Int32.zero_or]
      · rw [q, Int32.or_self]
    · rw [if_neg e2]
      have h1 := h c2 h2
      unfold slotI at h1
      rw [e] at h1
      exact h1
  · rw [pk_un e]
    exact h c2 h2
theorem pow_i : ∀ i, i < 9 → sF 1 i = nI (3 ^ (8 - i)) := by decide +kernel
theorem rn_max {d k i t : Nat} {ls : List (Option PV)} {st : List PV} {L : QH FA} {res : Option PV × QH FA} {x y : Int32} (hs : ∀ Fu F, rnF Fu d k (F + 1) i ls (vI y :: vI x :: st) L = bif Nat.ble st.length 8 then (bif pcmp 2 x y then rnF Fu d k F t ls (vI y :: st) L else rnF Fu d k F t ls (vI x :: st) L) else none) (h8 : Nat.ble st.length 8 = true) (h : Rn d k t ls (vI (gmax x y) :: st) L res) : Rn d k i ls (vI y :: vI x :: st) L res := by
  have e : gmax x y = bif pcmp 2 x y then y else x := by rw [cmp_lt, Bool.cond_decide]; rfl
  cases hb : pcmp 2 x y with
  | true => rw [e, hb] at h; exact rb 1 (fun Fu F => by rw [hs, h8, hb]; rfl) h
  | false => rw [e, hb] at h; exact rb 1 (fun Fu F => by rw [hs, h8, hb]; rfl) h
theorem g_recall {d c : Nat} {K f : FA} {s l : Int32} (hc : c < 19683) : MC (d + 1) 39 [vR 0, vI (nI c)] (gL bb K f s l) (some (vI (slotI K c - 2)), gL bb K f s l) := by
  refine mc_of rfl ?_
  show Rn (d) 39 0 [some (vR 0), some (vI (nI c)), none] [] (gL bb K f s l) _
  refine rb (i' := 3) (ls' := [some (vR 0), some (vI (nI c)), none]) (st' := [vI ((nI c) / 16)]) (L' := (gL bb K f s l)) 3 (fun _ _ => rfl) ?_
  refine rn_top (x := (nI c) / 16) (y := nI (c / 16)) (ndiv rfl (by omega) (by decide) (by decide)) ?_
  refine rb (i' := 5) (ls' := [some (vR 0), some (vI (nI c)), some (vI (nI (c / 16)))]) (st' := [vI (nI c)]) (L' := (gL bb K f s l)) 2 (fun _ _ => rfl) ?_
  refine rn_if (b := 2) (x := nI c) (y := 0) (it := 11) (ie := 6) (ls' := [some (vR 0), some (vI (nI c)), some (vI (nI (c / 16)))]) (st' := []) (fun Fu F => bq_39_5 _ Fu F _ _ _ _) (fun k1 => absurd (of_decide_eq_true (cmp_lt.symm.trans k1)) (show ¬ ((nI c : Int32) < (0 : Int32)) from nI_pos (by omega))) (fun _ => ?_)
  refine rb (i' := 10) (ls' := [some (vR 0), some (vI (nI c)), some (vI (nI (c / 16)))]) (st' := [vI (Int32.ofNat 1231), vI (nI (c / 16))]) (L' := (gL bb K f s l)) 4 (fun _ _ => rfl) ?_
  refine rn_if (b := 2) (x := nI (c / 16)) (y := Int32.ofNat 1231) (it := 13) (ie := 11) (ls' := [some (vR 0), some (vI (nI c)), some (vI (nI (c / 16)))]) (st' := []) (fun Fu F => bq_39_10 _ Fu F _ _ _ _ _) (fun _ => ?_) (fun k2 => absurd (show (nI (c / 16) : Int32) < (Int32.ofNat 1231 : Int32) from nI_lt (by omega) (by decide)) (of_decide_eq_false (cmp_lt.symm.trans k2)))
  refine rb (i' := 16) (ls' := [some (vR 0), some (vI (nI c)), some (vI (nI (c / 16)))]) (st' := [vI (nI (c / 16)), vR 1]) (L' := (gL bb K f s l)) 3 (fun _ _ => rfl) ?_
  refine rn_g (g := (Nat.beq 0 0 && pin (nI (c / 16)) 1231)) (i' := 17) (ls' := [some (vR 0), some (vI (nI c)), some (vI (nI (c / 16)))]) (st' := [vI (K (ix (nI (c / 16))))]) (L' := (gL bb K f s l)) (fun _ _ => rfl) (gpin_nI (by omega) (by decide)) ?_
  refine rn_top (x := K (ix (nI (c / 16)))) (y := K (c / 16)) (congrArg K (gix_nI (by omega))) ?_
  refine rb (i' := 21) (ls' := [some (vR 0), some (vI (nI c)), some (vI (nI (c / 16)))]) (st' := [vI ((nI c) - (nI c) / 16 * 16), vI 2, vI (K (c / 16))]) (L' := (gL bb K f s l)) 4 (fun _ _ => rfl) ?_
  refine rn_top (x := (nI c) - (nI c) / 16 * 16) (y := nI (c % 16)) (nrem rfl (by omega) (by decide) (by decide)) ?_
  refine rb (i' := 27) (ls' := [some (vR 0), some (vI (nI c)), some (vI (nI (c / 16)))]) (st' := [vI ((((K (c / 16)) >>> ((2 * (nI (c % 16))) &&& 31)) &&& 3) - 2)]) (L' := (gL bb K f s l)) 6 (fun _ _ => rfl) ?_
  exact rn_fin (fun _ _ => rfl) (rfl)
theorem g_keep {d c : Nat} {K f : FA} {s l v : Int32} (hc : c < 19683) : MC (d + 1) 42 [vR 0, vI (nI c), vI v] (gL bb K f s l) (none, gL bb (keepK K c v) f s l) := by
  refine mc_of rfl ?_
  show Rn (d) 42 0 [some (vR 0), some (vI (nI c)), some (vI v), none] [] (gL bb K f s l) _
  refine rb (i' := 3) (ls' := [some (vR 0), some (vI (nI c)), some (vI v), none]) (st' := [vI ((nI c) / 16)]) (L' := (gL bb K f s l)) 3 (fun _ _ => rfl) ?_
  refine rn_top (x := (nI c) / 16) (y := nI (c / 16)) (ndiv rfl (by omega) (by decide) (by decide)) ?_
  refine rb (i' := 5) (ls' := [some (vR 0), some (vI (nI c)), some (vI v), some (vI (nI (c / 16)))]) (st' := [vI (nI c)]) (L' := (gL bb K f s l)) 2 (fun _ _ => rfl) ?_
  refine rn_if (b := 2) (x := nI c) (y := 0) (it := 27) (ie := 6) (ls' := [some (vR 0), some (vI (nI c)), some (vI v), some (vI (nI (c / 16)))]) (st' := []) (fun Fu F => bq_42_5 _ Fu F _ _ _ _) (fun k1 => absurd (of_decide_eq_true (cmp_lt.symm.trans k1)) (show ¬ ((nI c : Int32) < (0 : Int32)) from nI_pos (by omega))) (fun _ => ?_)
  refine rb (i' := 10) (ls' := [some (vR 0), some (vI (nI c)), some (vI v), some (vI (nI (c / 16)))]) (st' := [vI (Int32.ofNat 1231), vI (nI (c / 16))]) (L' := (gL bb K f s l)) 4 (fun _ _ => rfl) ?_
  refine rn_if (b := 3) (x := nI (c / 16)) (y := Int32.ofNat 1231) (it := 27) (ie := 11) (ls' := [some (vR 0), some (vI (nI c)), some (vI v), some (vI (nI (c / 16)))]) (st' := []) (fun Fu F => bq_42_10 _ Fu F _ _ _ _ _) (fun k2 => absurd (of_decide_eq_true (cmp_ge.symm.trans k2)) (show ¬ ((Int32.ofNat 1231 : Int32) ≤ (nI (c / 16) : Int32)) from nI_ge (by omega) (by decide))) (fun _ => ?_)
  refine rb (i' := 15) (ls' := [some (vR 0), some (vI (nI c)), some (vI v), some (vI (nI (c / 16)))]) (st' := [vI (nI (c / 16)), vR 1, vI (nI (c / 16)), vR 1]) (L' := (gL bb K f s l)) 4 (fun _ _ => rfl) ?_
  refine rn_g (g := (Nat.beq 0 0 && pin (nI (c / 16)) 1231)) (i' := 16) (ls' := [some (vR 0), some (vI (nI c)), some (vI v), some (vI (nI (c / 16)))]) (st' := [vI (K (ix (nI (c / 16)))), vI (nI (c / 16)), vR 1]) (L' := (gL bb K f s l)) (fun _ _ => rfl) (gpin_nI (by omega) (by decide)) ?_
  refine rn_top (x := K (ix (nI (c / 16)))) (y := K (c / 16)) (congrArg K (gix_nI (by omega))) ?_
  refine rb (i' := 23) (ls' := [some (vR 0), some (vI (nI c)), some (vI v), some (vI (nI (c / 16)))]) (st' := [vI ((nI c) - (nI c) / 16 * 16), vI 2, vI (v + 2), vI (K (c / 16)), vI (nI (c / 16)), vR 1]) (L' := (gL bb K f s l)) 7 (fun _ _ => rfl) ?_
  refine rn_top (x := (nI c) - (nI c) / 16 * 16) (y := nI (c % 16)) (nrem rfl (by omega) (by decide) (by decide)) ?_
  refine rb (i' := 26) (ls' := [some (vR 0), some (vI (nI c)), some (vI v), some (vI (nI (c / 16)))]) (st' := [vI ((K (c / 16)) ||| ((v + 2) <<< ((2 * (nI (c % 16))) &&& 31))), vI (nI (c / 16)), vR 1]) (L' := (gL bb K f s l)) 3 (fun _ _ => rfl) ?_
  refine rn_g (g := (Nat.beq 0 0 && pin (nI (c / 16)) 1231)) (i' := 27) (ls' := [some (vR 0), some (vI (nI c)), some (vI v), some (vI (nI (c / 16)))]) (st' := []) (L' := (gL bb (upd K (ix (nI (c / 16))) ((K (c / 16)) ||| ((v + 2) <<< ((2 * (nI (c % 16))) &&& 31)))) f s l)) (fun _ _ => rfl) (gpin_nI (by omega) (by decide)) ?_
  refine rn_eq (ls' := [some (vR 0), some (vI (nI c)), some (vI v), some (vI (nI (c / 16)))]) (st' := []) (L' := (gL bb (upd K (c / 16) ((K (c / 16)) ||| ((v + 2) <<< ((2 * (nI (c % 16))) &&& 31)))) f s l)) rfl rfl (by rw [gix_nI (by omega)]) ?_
  exact rn_ret (fun _ _ => rfl)
theorem g_move {D i c m : Nat} {K K' f : FA} {s l x : Int32} (hi : i < 9) (hm : m < 9) (h0 : f i = 0) (hV : MC (D + 1) 38 [vR 0, vI (nI (c + wn m * 3 ^ (8 - i))), vI (nI (m + 1))] (gL bb K (upd f i (nI (wn m))) s l) (some (vI x), gL bb K' (upd f i (nI (wn m))) s l)) : MC (D + 1 + 1) 41 [vR 0, vI (nI i), vI (nI c), vI (nI m)] (gL bb K f s l) (some (vI (-x)), gL bb K' f s l) := by
  refine mc_of rfl ?_
  show Rn (D + 1) 41 0 [some (vR 0), some (vI (nI i)), some (vI (nI c)), some (vI (nI m)), none, none] [] (gL bb K f s l) _
  refine rb (i' := 1) (ls' := [some (vR 0), some (vI (nI i)), some (vI (nI c)), some (vI (nI m)), none, none]) (st' := [vI (nI i)]) (L' := (gL bb K f s l)) 1 (fun _ _ => rfl) ?_
  refine rn_if (b := 2) (x := nI i) (y := 0) (it := 8) (ie := 2) (ls' := [some (vR 0), some (vI (nI i)), some (vI (nI c)), some (vI (nI m)), none, none]) (st' := []) (fun Fu F => bq_41_1 _ Fu F _ _ _ _) (fun k1 => absurd (of_decide_eq_true (cmp_lt.symm.trans k1)) (show ¬ ((nI i : Int32) < (0 : Int32)) from nI_pos (by omega))) (fun _ => ?_)
  refine rb (i' := 4) (ls' := [some (vR 0), some (vI (nI i)), some (vI (nI c)), some (vI (nI m)), none, none]) (st' := [vI 9, vI (nI i)]) (L' := (gL bb K f s l)) 2 (fun _ _ => rfl) ?_
  refine rn_if (b := 3) (x := nI i) (y := 9) (it := 8) (ie := 5) (ls' := [some (vR 0), some (vI (nI i)), some (vI (nI c)), some (vI (nI m)), none, none]) (st' := []) (fun Fu F => bq_41_4 _ Fu F _ _ _ _ _) (fun k2 => absurd (of_decide_eq_true (cmp_ge.symm.trans k2)) (show ¬ ((9 : Int32) ≤ (nI i : Int32)) from nI_ge hi (by decide))) (fun _ => ?_)
  refine rb (i' := 7) (ls' := [some (vR 0), some (vI (nI i)), some (vI (nI c)), some (vI (nI m)), none, none]) (st' := [vI 9, vI (nI m)]) (L' := (gL bb K f s l)) 2 (fun _ _ => rfl) ?_
  refine rn_if (b := 2) (x := nI m) (y := 9) (it := 10) (ie := 8) (ls' := [some (vR 0), some (vI (nI i)), some (vI (nI c)), some (vI (nI m)), none, none]) (st' := []) (fun Fu F => bq_41_7 _ Fu F _ _ _ _ _) (fun _ => ?_) (fun k3 => absurd (show (nI m : Int32) < (9 : Int32) from nI_lt hm (by decide)) (of_decide_eq_false (cmp_lt.symm.trans k3)))
  refine rb (i' := 11) (ls' := [some (vR 0), some (vI (nI i)), some (vI (nI c)), some (vI (nI m)), none, none]) (st' := [vI (nI m)]) (L' := (gL bb K f s l)) 1 (fun _ _ => rfl) ?_
  refine rn_call (a := 40) (As := [vI (nI m)]) (t := 12) (ls' := [some (vR 0), some (vI (nI i)), some (vI (nI c)), some (vI (nI m)), none, none]) (st' := []) (fun Fu F => cq_41_11 (evF Fu _) F _ _ _ _ _ _) (g_who _ m _ (by omega)) ?_
  refine rn_eq (ls' := [some (vR 0), some (vI (nI i)), some (vI (nI c)), some (vI (nI m)), none, none]) (st' := [vI (nI (wn m))]) (L' := (gL bb K f s l)) rfl rfl rfl ?_
  refine rb (i' := 17) (ls' := [some (vR 0), some (vI (nI i)), some (vI (nI c)), some (vI (nI m)), some (vI (nI (wn m))), none]) (st' := [vI (nI (wn m)), vI (nI i), vR 2]) (L' := (gL bb K f s l)) 5 (fun _ _ => rfl) ?_
  refine rn_g (g := (Nat.beq 0 0 && pin (nI i) 9)) (i' := 18) (ls' := [some (vR 0), some (vI (nI i)), some (vI (nI c)), some (vI (nI m)), some (vI (nI (wn m))), none]) (st' := []) (L' := (gL bb K (upd f (ix (nI i)) (nI (wn m))) s l)) (fun _ _ => rfl) (gpin_nI hi (by decide)) ?_
  refine rn_eq (ls' := [some (vR 0), some (vI (nI i)), some (vI (nI c)), some (vI (nI m)), some (vI (nI (wn m))), none]) (st' := []) (L' := (gL bb K (upd f i (nI (wn m))) s l)) rfl rfl (by rw [gix_nI (by omega)]) ?_
  refine rb (i' := 23) (ls' := [some (vR 0), some (vI (nI i)), some (vI (nI c)), some (vI (nI m)), some (vI (nI (wn m))), none]) (st' := [vI (nI i), vS 1, vI (nI (wn m)), vI (nI c), vR 0]) (L' := (gL bb K (upd f i (nI (wn m))) s l)) 5 (fun _ _ => rfl) ?_
  refine rn_g (g := (Nat.blt 1 3 && pin (nI i) (sN 1))) (i' := 24) (ls' := [some (vR 0), some (vI (nI i)), some (vI (nI c)), some (vI (nI m)), some (vI (nI (wn m))), none]) (st' := [vI (sF 1 (ix (nI i))), vI (nI (wn m)), vI (nI c), vR 0]) (L' := (gL bb K (upd f i (nI (wn m))) s l)) (fun _ _ => rfl) (gpin_nI hi (by decide)) ?_
  refine rn_top (x := sF 1 (ix (nI i))) (y := nI (3 ^ (8 - i))) ((congrArg (sF 1) (gix_nI (by omega))).trans (pow_i i hi)) ?_
  refine rb (i' := 25) (ls' := [some (vR 0), some (vI (nI i)), some (vI (nI c)), some (vI (nI m)), some (vI (nI (wn m))), none]) (st' := [vI ((nI (wn m)) * (nI (3 ^ (8 - i)))), vI (nI c), vR 0]) (L' := (gL bb K (upd f i (nI (wn m))) s l)) 1 (fun _ _ => rfl) ?_
  refine rn_top (x := (nI (wn m)) * (nI (3 ^ (8 - i)))) (y := nI (wn m * 3 ^ (8 - i))) (nmul rfl rfl) ?_
  refine rb (i' := 26) (ls' := [some (vR 0), some (vI (nI i)), some (vI (nI c)), some (vI (nI m)), some (vI (nI (wn m))), none]) (st' := [vI ((nI c) + (nI (wn m * 3 ^ (8 - i)))), vR 0]) (L' := (gL bb K (upd f i (nI (wn m))) s l)) 1 (fun _ _ => rfl) ?_
  refine rn_top (x := (nI c) + (nI (wn m * 3 ^ (8 - i)))) (y := nI (c + wn m * 3 ^ (8 - i))) (nadd rfl rfl) ?_
  refine rb (i' := 29) (ls' := [some (vR 0), some (vI (nI i)), some (vI (nI c)), some (vI (nI m)), some (vI (nI (wn m))), none]) (st' := [vI ((nI m) + 1), vI (nI (c + wn m * 3 ^ (8 - i))), vR 0]) (L' := (gL bb K (upd f i (nI (wn m))) s l)) 3 (fun _ _ => rfl) ?_
  refine rn_top (x := (nI m) + 1) (y := nI (m + 1)) (nadd rfl (rfl : (1 : Int32) = nI 1)) ?_
  refine rn_call (a := 38) (As := [vR 0, vI (nI (c + wn m * 3 ^ (8 - i))), vI (nI (m + 1))]) (t := 30) (ls' := [some (vR 0), some (vI (nI i)), some (vI (nI c)), some (vI (nI m)), some (vI (nI (wn m))), none]) (st' := []) (fun Fu F => cq_41_29 (evF Fu _) F _ _ _ _ _ _ _) (hV) ?_
  refine rn_eq (ls' := [some (vR 0), some (vI (nI i)), some (vI (nI c)), some (vI (nI m)), some (vI (nI (wn m))), none]) (st' := [vI x]) (L' := (gL bb K' (upd f i (nI (wn m))) s l)) rfl rfl rfl ?_
  refine rb (i' := 36) (ls' := [some (vR 0), some (vI (nI i)), some (vI (nI c)), some (vI (nI m)), some (vI (nI (wn m))), some (vI (-x))]) (st' := [vI 0, vI (nI i), vR 2]) (L' := (gL bb K' (upd f i (nI (wn m))) s l)) 6 (fun _ _ => rfl) ?_
  refine rn_g (g := (Nat.beq 0 0 && pin (nI i) 9)) (i' := 37) (ls' := [some (vR 0), some (vI (nI i)), some (vI (nI c)), some (vI (nI m)), some (vI (nI (wn m))), some (vI (-x))]) (st' := []) (L' := (gL bb K' (upd (upd f i (nI (wn m))) (ix (nI i)) 0) s l)) (fun _ _ => rfl) (gpin_nI hi (by decide)) ?_
  refine rn_eq (ls' := [some (vR 0), some (vI (nI i)), some (vI (nI c)), some (vI (nI m)), some (vI (nI (wn m))), some (vI (-x))]) (st' := []) (L' := (gL bb K' f s l)) rfl rfl (by rw [gix_nI (by omega), upd_back h0]) ?_
  refine rb (i' := 38) (ls' := [some (vR 0), some (vI (nI i)), some (vI (nI c)), some (vI (nI m)), some (vI (nI (wn m))), some (vI (-x))]) (st' := [vI (-x)]) (L' := (gL bb K' f s l)) 1 (fun _ _ => rfl) ?_
  exact rn_fin (fun _ _ => rfl) (rfl)
theorem v_tail {D c m : Nat} {K f : FA} {s l : Int32} {v : Int32} {l4 l5 : Option PV} (hc : c < 19683) : Rn (D + 1) 38 59 [some (vR 0), some (vI (nI c)), some (vI (nI m)), some (vI v), l4, l5] [] (gL bb K f s l) (some (vI v), gL bb (keepK K c v) f s l) := by
  refine rb (i' := 62) (ls' := [some (vR 0), some (vI (nI c)), some (vI (nI m)), some (vI v), l4, l5]) (st' := [vI v, vI (nI c), vR 0]) (L' := (gL bb K f s l)) 3 (fun _ _ => rfl) ?_
  refine rn_call (a := 42) (As := [vR 0, vI (nI c), vI v]) (t := 63) (ls' := [some (vR 0), some (vI (nI c)), some (vI (nI m)), some (vI v), l4, l5]) (st' := []) (fun Fu F => cq_38_62 (evF Fu _) F _ _ _ _ _ _ _) (g_keep hc) ?_
  refine rn_eq (ls' := [some (vR 0), some (vI (nI c)), some (vI (nI m)), some (vI v), l4, l5]) (st' := []) (L' := (gL bb (keepK K c v) f s l)) rfl rfl rfl ?_
  refine rb (i' := 64) (ls' := [some (vR 0), some (vI (nI c)), some (vI (nI m)), some (vI v), l4, l5]) (st' := [vI v]) (L' := (gL bb (keepK K c v) f s l)) 1 (fun _ _ => rfl) ?_
  exact rn_fin (fun _ _ => rfl) (rfl)
theorem v_known {D c m : Nat} {K f : FA} {s l : Int32} (hc : c < 19683) (hne : ¬ slotI K c - 2 = -2) : Rn (D + 1) 38 0 [some (vR 0), some (vI (nI c)), some (vI (nI m)), none, none, none] [] (gL bb K f s l) (some (vI (slotI K c - 2)), gL bb K f s l) := by
  refine rb (i' := 2) (ls' := [some (vR 0), some (vI (nI c)), some (vI (nI m)), none, none, none]) (st' := [vI (nI c), vR 0]) (L' := (gL bb K f s l)) 2 (fun _ _ => rfl) ?_
  refine rn_call (a := 39) (As := [vR 0, vI (nI c)]) (t := 3) (ls' := [some (vR 0), some (vI (nI c)), some (vI (nI m)), none, none, none]) (st' := []) (fun Fu F => cq_38_2 (evF Fu _) F _ _ _ _ _ _) (g_recall hc) ?_
  refine rn_eq (ls' := [some (vR 0), some (vI (nI c)), some (vI (nI m)), none, none, none]) (st' := [vI (slotI K c - 2)]) (L' := (gL bb K f s l)) rfl rfl rfl ?_
  refine rb (i' := 6) (ls' := [some (vR 0), some (vI (nI c)), some (vI (nI m)), some (vI (slotI K c - 2)), none, none]) (st' := [vI ((-2)), vI (slotI K c - 2)]) (L' := (gL bb K f s l)) 3 (fun _ _ => rfl) ?_
  refine rn_if (b := 0) (x := slotI K c - 2) (y := (-2)) (it := 9) (ie := 7) (ls' := [some (vR 0), some (vI (nI c)), some (vI (nI m)), some (vI (slotI K c - 2)), none, none]) (st' := []) (fun Fu F => bq_38_6 _ Fu F _ _ _ _ _) (fun k1 => absurd (of_decide_eq_true (cmp_eq.symm.trans k1)) (show ¬ ((slotI K c - 2 : Int32) = ((-2) : Int32)) from hne)) (fun _ => ?_)
  refine rb (i' := 8) (ls' := [some (vR 0), some (vI (nI c)), some (vI (nI m)), some (vI (slotI K c - 2)), none, none]) (st' := [vI (slotI K c - 2)]) (L' := (gL bb K f s l)) 1 (fun _ _ => rfl) ?_
  exact rn_fin (fun _ _ => rfl) (rfl)
theorem v_pre {D c m : Nat} {K f : FA} {s l : Int32} {res : Option PV × QH FA} (hc : c < 19683) (hm : m < 10) (hB : Bd f c) (heq : slotI K c - 2 = -2) (hk : Rn (D + 1) 38 15 [some (vR 0), some (vI (nI c)), some (vI (nI m)), some (vI (slotI K c - 2)), some (vI (nI (wn m))), none] [vI (bzb (three c (wn m)))] (gL bb K f s l) res) : Rn (D + 1) 38 0 [some (vR 0), some (vI (nI c)), some (vI (nI m)), none, none, none] [] (gL bb K f s l) res := by
  refine rb (i' := 2) (ls' := [some (vR 0), some (vI (nI c)), some (vI (nI m)), none, none, none]) (st' := [vI (nI c), vR 0]) (L' := (gL bb K f s l)) 2 (fun _ _ => rfl) ?_
  refine rn_call (a := 39) (As := [vR 0, vI (nI c)]) (t := 3) (ls' := [some (vR 0), some (vI (nI c)), some (vI (nI m)), none, none, none]) (st' := []) (fun Fu F => cq_38_2 (evF Fu _) F _ _ _ _ _ _) (g_recall hc) ?_
  refine rn_eq (ls' := [some (vR 0), some (vI (nI c)), some (vI (nI m)), none, none, none]) (st' := [vI (slotI K c - 2)]) (L' := (gL bb K f s l)) rfl rfl rfl ?_
  refine rb (i' := 6) (ls' := [some (vR 0), some (vI (nI c)), some (vI (nI m)), some (vI (slotI K c - 2)), none, none]) (st' := [vI ((-2)), vI (slotI K c - 2)]) (L' := (gL bb K f s l)) 3 (fun _ _ => rfl) ?_
  refine rn_if (b := 0) (x := slotI K c - 2) (y := (-2)) (it := 9) (ie := 7) (ls' := [some (vR 0), some (vI (nI c)), some (vI (nI m)), some (vI (slotI K c - 2)), none, none]) (st' := []) (fun Fu F => bq_38_6 _ Fu F _ _ _ _ _) (fun _ => ?_) (fun k1 => absurd (show (slotI K c - 2 : Int32) = ((-2) : Int32) from heq) (of_decide_eq_false (cmp_eq.symm.trans k1)))
  refine rb (i' := 10) (ls' := [some (vR 0), some (vI (nI c)), some (vI (nI m)), some (vI (slotI K c - 2)), none, none]) (st' := [vI (nI m)]) (L' := (gL bb K f s l)) 1 (fun _ _ => rfl) ?_
  refine rn_call (a := 40) (As := [vI (nI m)]) (t := 11) (ls' := [some (vR 0), some (vI (nI c)), some (vI (nI m)), some (vI (slotI K c - 2)), none, none]) (st' := []) (fun Fu F => cq_38_10 (evF Fu _) F _ _ _ _ _ _) (g_who _ m _ hm) ?_
  refine rn_eq (ls' := [some (vR 0), some (vI (nI c)), some (vI (nI m)), some (vI (slotI K c - 2)), none, none]) (st' := [vI (nI (wn m))]) (L' := (gL bb K f s l)) rfl rfl rfl ?_
  refine rb (i' := 14) (ls' := [some (vR 0), some (vI (nI c)), some (vI (nI m)), some (vI (slotI K c - 2)), some (vI (nI (wn m))), none]) (st' := [vI (nI (wn m)), vR 0]) (L' := (gL bb K f s l)) 3 (fun _ _ => rfl) ?_
  refine rn_call (a := 36) (As := [vR 0, vI (nI (wn m))]) (t := 15) (ls' := [some (vR 0), some (vI (nI c)), some (vI (nI m)), some (vI (slotI K c - 2)), some (vI (nI (wn m))), none]) (st' := []) (fun Fu F => cq_38_14 (evF Fu _) F _ _ _ _ _ _) (g_three hB (by have := wn_12 m; omega)) ?_
  refine rn_eq (ls' := [some (vR 0), some (vI (nI c)), some (vI (nI m)), some (vI (slotI K c - 2)), some (vI (nI (wn m))), none]) (st' := [vI (bzb (three c (wn m)))]) (L' := (gL bb K f s l)) rfl rfl rfl ?_
  exact hk
theorem v_b1 {D c m : Nat} {K f : FA} {s l : Int32} (hc : c < 19683) (ht : three c (wn m) = true) : Rn (D + 1) 38 15 [some (vR 0), some (vI (nI c)), some (vI (nI m)), some (vI (slotI K c - 2)), some (vI (nI (wn m))), none] [vI (bzb (three c (wn m)))] (gL bb K f s l) (some (vI 1), gL bb (keepK K c 1) f s l) := by
  refine rn_if (b := 0) (x := bzb (three c (wn m))) (y := 0) (it := 19) (ie := 16) (ls' := [some (vR 0), some (vI (nI c)), some (vI (nI m)), some (vI (slotI K c - 2)), some (vI (nI (wn m))), none]) (st' := []) (fun Fu F => bq_38_15 _ Fu F _ _ _ _) (fun k1 => absurd (of_decide_eq_true (cmp_eq.symm.trans k1)) (show ¬ ((bzb (three c (wn m)) : Int32) = (0 : Int32)) from by rw [ht]; decide)) (fun _ => ?_)
  refine rb (i' := 59) (ls' := [some (vR 0), some (vI (nI c)), some (vI (nI m)), some (vI 1), some (vI (nI (wn m))), none]) (st' := []) (L' := (gL bb K f s l)) 3 (fun _ _ => rfl) ?_
  exact v_tail hc
theorem v_b2 {D c m : Nat} {K f : FA} {s l : Int32} (hc : c < 19683) (hB : Bd f c) (ht : three c (wn m) = false) (ht2 : three c (3 - wn m) = true) : Rn (D + 1) 38 15 [some (vR 0), some (vI (nI c)), some (vI (nI m)), some (vI (slotI K c - 2)), some (vI (nI (wn m))), none] [vI (bzb (three c (wn m)))] (gL bb K f s l) (some (vI (-1)), gL bb (keepK K c (-1)) f s l) := by
  refine rn_if (b := 0) (x := bzb (three c (wn m))) (y := 0) (it := 19) (ie := 16) (ls' := [some (vR 0), some (vI (nI c)), some (vI (nI m)), some (vI (slotI K c - 2)), some (vI (nI (wn m))), none]) (st' := []) (fun Fu F => bq_38_15 _ Fu F _ _ _ _) (fun _ => ?_) (fun k1 => absurd (show (bzb (three c (wn m)) : Int32) = (0 : Int32) from by rw [ht]; rfl) (of_decide_eq_false (cmp_eq.symm.trans k1)))
  refine rb (i' := 23) (ls' := [some (vR 0), some (vI (nI c)), some (vI (nI m)), some (vI (slotI K c - 2)), some (vI (nI (wn m))), none]) (st' := [vI (3 - (nI (wn m))), vR 0]) (L' := (gL bb K f s l)) 4 (fun _ _ => rfl) ?_
  refine rn_top (x := 3 - (nI (wn m))) (y := nI (3 - wn m)) ((show (3 : Int32) - nI (wn m) = nI (3 - wn m) by rcases wn_12 m with e | e <;> rw [e] <;> decide)) ?_
  refine rn_call (a := 36) (As := [vR 0, vI (nI (3 - wn m))]) (t := 24) (ls' := [some (vR 0), some (vI (nI c)), some (vI (nI m)), some (vI (slotI K c - 2)), some (vI (nI (wn m))), none]) (st' := []) (fun Fu F => cq_38_23 (evF Fu _) F _ _ _ _ _ _) (g_three hB (by have := wn_12 m; omega)) ?_
  refine rn_eq (ls' := [some (vR 0), some (vI (nI c)), some (vI (nI m)), some (vI (slotI K c - 2)), some (vI (nI (wn m))), none]) (st' := [vI (bzb (three c (3 - wn m)))]) (L' := (gL bb K f s l)) rfl rfl rfl ?_
  refine rn_if (b := 0) (x := bzb (three c (3 - wn m))) (y := 0) (it := 28) (ie := 25) (ls' := [some (vR 0), some (vI (nI c)), some (vI (nI m)), some (vI (slotI K c - 2)), some (vI (nI (wn m))), none]) (st' := []) (fun Fu F => bq_38_24 _ Fu F _ _ _ _) (fun k2 => absurd (of_decide_eq_true (cmp_eq.symm.trans k2)) (show ¬ ((bzb (three c (3 - wn m)) : Int32) = (0 : Int32)) from by rw [ht2]; decide)) (fun _ => ?_)
  refine rb (i' := 59) (ls' := [some (vR 0), some (vI (nI c)), some (vI (nI m)), some (vI ((-1))), some (vI (nI (wn m))), none]) (st' := []) (L' := (gL bb K f s l)) 3 (fun _ _ => rfl) ?_
  exact v_tail hc
theorem v_b3 {D c m : Nat} {K f : FA} {s l : Int32} (hc : c < 19683) (hm : 9 ≤ m) (hm2 : m < 10) (hB : Bd f c) (ht : three c (wn m) = false) (ht2 : three c (3 - wn m) = false) : Rn (D + 1) 38 15 [some (vR 0), some (vI (nI c)), some (vI (nI m)), some (vI (slotI K c - 2)), some (vI (nI (wn m))), none] [vI (bzb (three c (wn m)))] (gL bb K f s l) (some (vI 0), gL bb (keepK K c 0) f s l) := by
  refine rn_if (b := 0) (x := bzb (three c (wn m))) (y := 0) (it := 19) (ie := 16) (ls' := [some (vR 0), some (vI (nI c)), some (vI (nI m)), some (vI (slotI K c - 2)), some (vI (nI (wn m))), none]) (st' := []) (fun Fu F => bq_38_15 _ Fu F _ _ _ _) (fun _ => ?_) (fun k1 => absurd (show (bzb (three c (wn m)) : Int32) = (0 : Int32) from by rw [ht]; rfl) (of_decide_eq_false (cmp_eq.symm.trans k1)))
  refine rb (i' := 23) (ls' := [some (vR 0), some (vI (nI c)), some (vI (nI m)), some (vI (slotI K c - 2)), some (vI (nI (wn m))), none]) (st' := [vI (3 - (nI (wn m))), vR 0]) (L' := (gL bb K f s l)) 4 (fun _ _ => rfl) ?_
  refine rn_top (x := 3 - (nI (wn m))) (y := nI (3 - wn m)) ((show (3 : Int32) - nI (wn m) = nI (3 - wn m) by rcases wn_12 m with e | e <;> rw [e] <;> decide)) ?_
  refine rn_call (a := 36) (As := [vR 0, vI (nI (3 - wn m))]) (t := 24) (ls' := [some (vR 0), some (vI (nI c)), some (vI (nI m)), some (vI (slotI K c - 2)), some (vI (nI (wn m))), none]) (st' := []) (fun Fu F => cq_38_23 (evF Fu _) F _ _ _ _ _ _) (g_three hB (by have := wn_12 m; omega)) ?_
  refine rn_eq (ls' := [some (vR 0), some (vI (nI c)), some (vI (nI m)), some (vI (slotI K c - 2)), some (vI (nI (wn m))), none]) (st' := [vI (bzb (three c (3 - wn m)))]) (L' := (gL bb K f s l)) rfl rfl rfl ?_
  refine rn_if (b := 0) (x := bzb (three c (3 - wn m))) (y := 0) (it := 28) (ie := 25) (ls' := [some (vR 0), some (vI (nI c)), some (vI (nI m)), some (vI (slotI K c - 2)), some (vI (nI (wn m))), none]) (st' := []) (fun Fu F => bq_38_24 _ Fu F _ _ _ _) (fun _ => ?_) (fun k2 => absurd (show (bzb (three c (3 - wn m)) : Int32) = (0 : Int32) from by rw [ht2]; rfl) (of_decide_eq_false (cmp_eq.symm.trans k2)))
  refine rb (i' := 30) (ls' := [some (vR 0), some (vI (nI c)), some (vI (nI m)), some (vI (slotI K c - 2)), some (vI (nI (wn m))), none]) (st' := [vI 9, vI (nI m)]) (L' := (gL bb K f s l)) 2 (fun _ _ => rfl) ?_
  refine rn_if (b := 2) (x := nI m) (y := 9) (it := 34) (ie := 31) (ls' := [some (vR 0), some (vI (nI c)), some (vI (nI m)), some (vI (slotI K c - 2)), some (vI (nI (wn m))), none]) (st' := []) (fun Fu F => bq_38_30 _ Fu F _ _ _ _ _) (fun k3 => absurd (of_decide_eq_true (cmp_lt.symm.trans k3)) (show ¬ ((nI m : Int32) < (9 : Int32)) from nI_nlt (by omega) (by omega))) (fun _ => ?_)
  refine rb (i' := 59) (ls' := [some (vR 0), some (vI (nI c)), some (vI (nI m)), some (vI 0), some (vI (nI (wn m))), none]) (st' := []) (L' := (gL bb K f s l)) 3 (fun _ _ => rfl) ?_
  exact v_tail hc
theorem v_b4 {D c m : Nat} {K f : FA} {s l : Int32} {res : Option PV × QH FA} (hc : c < 19683) (hm : m < 9) (hB : Bd f c) (ht : three c (wn m) = false) (ht2 : three c (3 - wn m) = false) (hk : Rn (D + 1) 38 38 [some (vR 0), some (vI (nI c)), some (vI (nI m)), some (vI (-1)), some (vI (nI (wn m))), some (vI 0)] [] (gL bb K f s l) res) : Rn (D + 1) 38 15 [some (vR 0), some (vI (nI c)), some (vI (nI m)), some (vI (slotI K c - 2)), some (vI (nI (wn m))), none] [vI (bzb (three c (wn m)))] (gL bb K f s l) res := by
  refine rn_if (b := 0) (x := bzb (three c (wn m))) (y := 0) (it := 19) (ie := 16) (ls' := [some (vR 0), some (vI (nI c)), some (vI (nI m)), some (vI (slotI K c - 2)), some (vI (nI (wn m))), none]) (st' := []) (fun Fu F => bq_38_15 _ Fu F _ _ _ _) (fun _ => ?_) (fun k1 => absurd (show (bzb (three c (wn m)) : Int32) = (0 : Int32) from by rw [ht]; rfl) (of_decide_eq_false (cmp_eq.symm.trans k1)))
  refine rb (i' := 23) (ls' := [some (vR 0), some (vI (nI c)), some (vI (nI m)), some (vI (slotI K c - 2)), some (vI (nI (wn m))), none]) (st' := [vI (3 - (nI (wn m))), vR 0]) (L' := (gL bb K f s l)) 4 (fun _ _ => rfl) ?_
  refine rn_top (x := 3 - (nI (wn m))) (y := nI (3 - wn m)) ((show (3 : Int32) - nI (wn m) = nI (3 - wn m) by rcases wn_12 m with e | e <;> rw [e] <;> decide)) ?_
  refine rn_call (a := 36) (As := [vR 0, vI (nI (3 - wn m))]) (t := 24) (ls' := [some (vR 0), some (vI (nI c)), some (vI (nI m)), some (vI (slotI K c - 2)), some (vI (nI (wn m))), none]) (st' := []) (fun Fu F => cq_38_23 (evF Fu _) F _ _ _ _ _ _) (g_three hB (by have := wn_12 m; omega)) ?_
  refine rn_eq (ls' := [some (vR 0), some (vI (nI c)), some (vI (nI m)), some (vI (slotI K c - 2)), some (vI (nI (wn m))), none]) (st' := [vI (bzb (three c (3 - wn m)))]) (L' := (gL bb K f s l)) rfl rfl rfl ?_
  refine rn_if (b := 0) (x := bzb (three c (3 - wn m))) (y := 0) (it := 28) (ie := 25) (ls' := [some (vR 0), some (vI (nI c)), some (vI (nI m)), some (vI (slotI K c - 2)), some (vI (nI (wn m))), none]) (st' := []) (fun Fu F => bq_38_24 _ Fu F _ _ _ _) (fun _ => ?_) (fun k2 => absurd (show (bzb (three c (3 - wn m)) : Int32) = (0 : Int32) from by rw [ht2]; rfl) (of_decide_eq_false (cmp_eq.symm.trans k2)))
  refine rb (i' := 30) (ls' := [some (vR 0), some (vI (nI c)), some (vI (nI m)), some (vI (slotI K c - 2)), some (vI (nI (wn m))), none]) (st' := [vI 9, vI (nI m)]) (L' := (gL bb K f s l)) 2 (fun _ _ => rfl) ?_
  refine rn_if (b := 2) (x := nI m) (y := 9) (it := 34) (ie := 31) (ls' := [some (vR 0), some (vI (nI c)), some (vI (nI m)), some (vI (slotI K c - 2)), some (vI (nI (wn m))), none]) (st' := []) (fun Fu F => bq_38_30 _ Fu F _ _ _ _ _) (fun _ => ?_) (fun k3 => absurd (show (nI m : Int32) < (9 : Int32) from nI_lt hm (by decide)) (of_decide_eq_false (cmp_lt.symm.trans k3)))
  refine rb (i' := 38) (ls' := [some (vR 0), some (vI (nI c)), some (vI (nI m)), some (vI ((-1))), some (vI (nI (wn m))), some (vI 0)]) (st' := []) (L' := (gL bb K f s l)) 4 (fun _ _ => rfl) ?_
  exact hk
theorem v_l9 {D c m i : Nat} {K f : FA} {s l v : Int32} {res : Option PV × QH FA} (h9 : i = 9) (hk : Rn (D + 1) 38 59 [some (vR 0), some (vI (nI c)), some (vI (nI m)), some (vI v), some (vI (nI (wn m))), some (vI (nI 9))] [] (gL bb K f s l) res) : Rn (D + 1) 38 38 [some (vR 0), some (vI (nI c)), some (vI (nI m)), some (vI v), some (vI (nI (wn m))), some (vI (nI i))] [] (gL bb K f s l) res := by
  subst h9
  refine rb (i' := 40) (ls' := [some (vR 0), some (vI (nI c)), some (vI (nI m)), some (vI v), some (vI (nI (wn m))), some (vI (nI 9))]) (st' := [vI 9, vI (nI 9)]) (L' := (gL bb K f s l)) 2 (fun _ _ => rfl) ?_
  refine rn_if (b := 3) (x := nI 9) (y := 9) (it := 59) (ie := 41) (ls' := [some (vR 0), some (vI (nI c)), some (vI (nI m)), some (vI v), some (vI (nI (wn m))), some (vI (nI 9))]) (st' := []) (fun Fu F => bq_38_40 _ Fu F _ _ _ _ _) (fun _ => ?_) (fun k1 => absurd (show (9 : Int32) ≤ (nI 9 : Int32) from Int32.le_refl _) (of_decide_eq_false (cmp_ge.symm.trans k1)))
  exact hk
theorem v_l1 {D c m i : Nat} {K f : FA} {s l v : Int32} {res : Option PV × QH FA} (hi : i < 9) (h1 : ¬ v < 1) (hk : Rn (D + 1) 38 59 [some (vR 0), some (vI (nI c)), some (vI (nI m)), some (vI v), some (vI (nI (wn m))), some (vI (nI i))] [] (gL bb K f s l) res) : Rn (D + 1) 38 38 [some (vR 0), some (vI (nI c)), some (vI (nI m)), some (vI v), some (vI (nI (wn m))), some (vI (nI i))] [] (gL bb K f s l) res := by
  refine rb (i' := 40) (ls' := [some (vR 0), some (vI (nI c)), some (vI (nI m)), some (vI v), some (vI (nI (wn m))), some (vI (nI i))]) (st' := [vI 9, vI (nI i)]) (L' := (gL bb K f s l)) 2 (fun _ _ => rfl) ?_
  refine rn_if (b := 3) (x := nI i) (y := 9) (it := 59) (ie := 41) (ls' := [some (vR 0), some (vI (nI c)), some (vI (nI m)), some (vI v), some (vI (nI (wn m))), some (vI (nI i))]) (st' := []) (fun Fu F => bq_38_40 _ Fu F _ _ _ _ _) (fun k1 => absurd (of_decide_eq_true (cmp_ge.symm.trans k1)) (show ¬ ((9 : Int32) ≤ (nI i : Int32)) from nI_ge hi (by decide))) (fun _ => ?_)
  refine rb (i' := 43) (ls' := [some (vR 0), some (vI (nI c)), some (vI (nI m)), some (vI v), some (vI (nI (wn m))), some (vI (nI i))]) (st' := [vI 1, vI v]) (L' := (gL bb K f s l)) 2 (fun _ _ => rfl) ?_
  refine rn_if (b := 3) (x := v) (y := 1) (it := 59) (ie := 44) (ls' := [some (vR 0), some (vI (nI c)), some (vI (nI m)), some (vI v), some (vI (nI (wn m))), some (vI (nI i))]) (st' := []) (fun Fu F => bq_38_43 _ Fu F _ _ _ _ _) (fun _ => ?_) (fun k2 => absurd (show (1 : Int32) ≤ (v : Int32) from Int32.not_lt.mp h1) (of_decide_eq_false (cmp_ge.symm.trans k2)))
  exact hk
theorem v_lk {D c m i : Nat} {K f : FA} {s l v : Int32} {res : Option PV × QH FA} (hi : i < 9) (h1 : v < 1) (hB : Bd f c) (hd : ¬ dg c i = 0) (hk : Rn (D + 1) 38 38 [some (vR 0), some (vI (nI c)), some (vI (nI m)), some (vI v), some (vI (nI (wn m))), some (vI (nI (i + 1)))] [] (gL bb K f s l) res) : Rn (D + 1) 38 38 [some (vR 0), some (vI (nI c)), some (vI (nI m)), some (vI v), some (vI (nI (wn m))), some (vI (nI i))] [] (gL bb K f s l) res := by
  refine rb (i' := 40) (ls' := [some (vR 0), some (vI (nI c)), some (vI (nI m)), some (vI v), some (vI (nI (wn m))), some (vI (nI i))]) (st' := [vI 9, vI (nI i)]) (L' := (gL bb K f s l)) 2 (fun _ _ => rfl) ?_
  refine rn_if (b := 3) (x := nI i) (y := 9) (it := 59) (ie := 41) (ls' := [some (vR 0), some (vI (nI c)), some (vI (nI m)), some (vI v), some (vI (nI (wn m))), some (vI (nI i))]) (st' := []) (fun Fu F => bq_38_40 _ Fu F _ _ _ _ _) (fun k1 => absurd (of_decide_eq_true (cmp_ge.symm.trans k1)) (show ¬ ((9 : Int32) ≤ (nI i : Int32)) from nI_ge hi (by decide))) (fun _ => ?_)
  refine rb (i' := 43) (ls' := [some (vR 0), some (vI (nI c)), some (vI (nI m)), some (vI v), some (vI (nI (wn m))), some (vI (nI i))]) (st' := [vI 1, vI v]) (L' := (gL bb K f s l)) 2 (fun _ _ => rfl) ?_
  refine rn_if (b := 3) (x := v) (y := 1) (it := 59) (ie := 44) (ls' := [some (vR 0), some (vI (nI c)), some (vI (nI m)), some (vI v), some (vI (nI (wn m))), some (vI (nI i))]) (st' := []) (fun Fu F => bq_38_43 _ Fu F _ _ _ _ _) (fun k2 => absurd (of_decide_eq_true (cmp_ge.symm.trans k2)) (show ¬ ((1 : Int32) ≤ (v : Int32)) from Int32.not_le.mpr h1)) (fun _ => ?_)
  refine rb (i' := 47) (ls' := [some (vR 0), some (vI (nI c)), some (vI (nI m)), some (vI v), some (vI (nI (wn m))), some (vI (nI i))]) (st' := [vI (nI i), vR 2]) (L' := (gL bb K f s l)) 3 (fun _ _ => rfl) ?_
  refine rn_g (g := (Nat.beq 0 0 && pin (nI i) 9)) (i' := 48) (ls' := [some (vR 0), some (vI (nI c)), some (vI (nI m)), some (vI v), some (vI (nI (wn m))), some (vI (nI i))]) (st' := [vI (f (ix (nI i)))]) (L' := (gL bb K f s l)) (fun _ _ => rfl) (gpin_nI hi (by decide)) ?_
  refine rn_top (x := f (ix (nI i))) (y := nI (dg c i)) ((congrArg f (gix_nI (by omega))).trans (hB i hi)) ?_
  refine rn_if (b := 1) (x := nI (dg c i)) (y := 0) (it := 57) (ie := 49) (ls' := [some (vR 0), some (vI (nI c)), some (vI (nI m)), some (vI v), some (vI (nI (wn m))), some (vI (nI i))]) (st' := []) (fun Fu F => bq_38_48 _ Fu F _ _ _ _) (fun _ => ?_) (fun k3 => absurd (show ¬ (nI (dg c i) : Int32) = (0 : Int32) from fun z => hd ((gnI_inj (by have := dg_lt c i; omega) (by decide)).mp z)) (of_decide_eq_false (cmp_ne.symm.trans k3)))
  refine rb (i' := 38) (ls' := [some (vR 0), some (vI (nI c)), some (vI (nI m)), some (vI v), some (vI (nI (wn m))), some (vI (nI i + 1))]) (st' := []) (L' := (gL bb K f s l)) 2 (fun _ _ => rfl) ?_
  rw [nadd (rfl : nI i = nI i) (rfl : (1 : Int32) = nI 1)]
  exact hk
theorem v_lm {D c m i : Nat} {K K' f : FA} {s l v x : Int32} {res : Option PV × QH FA} (hi : i < 9) (h1 : v < 1) (hB : Bd f c) (hd : dg c i = 0) (hM : MC (D + 1) 41 [vR 0, vI (nI i), vI (nI c), vI (nI m)] (gL bb K f s l) (some (vI x), gL bb K' f s l)) (hk : Rn (D + 1) 38 38 [some (vR 0), some (vI (nI c)), some (vI (nI m)), some (vI (gmax v x)), some (vI (nI (wn m))), some (vI (nI (i + 1)))] [] (gL bb K' f s l) res) : Rn (D + 1) 38 38 [some (vR 0), some (vI (nI c)), some (vI (nI m)), some (vI v), some (vI (nI (wn m))), some (vI (nI i))] [] (gL bb K f s l) res := by
  refine rb (i' := 40) (ls' := [some (vR 0), some (vI (nI c)), some (vI (nI m)), some (vI v), some (vI (nI (wn m))), some (vI (nI i))]) (st' := [vI 9, vI (nI i)]) (L' := (gL bb K f s l)) 2 (fun _ _ => rfl) ?_
  refine rn_if (b := 3) (x := nI i) (y := 9) (it := 59) (ie := 41) (ls' := [some (vR 0), some (vI (nI c)), some (vI (nI m)), some (vI v), some (vI (nI (wn m))), some (vI (nI i))]) (st' := []) (fun Fu F => bq_38_40 _ Fu F _ _ _ _ _) (fun k1 => absurd (of_decide_eq_true (cmp_ge.symm.trans k1)) (show ¬ ((9 : Int32) ≤ (nI i : Int32)) from nI_ge hi (by decide))) (fun _ => ?_)
  refine rb (i' := 43) (ls' := [some (vR 0), some (vI (nI c)), some (vI (nI m)), some (vI v), some (vI (nI (wn m))), some (vI (nI i))]) (st' := [vI 1, vI v]) (L' := (gL bb K f s l)) 2 (fun _ _ => rfl) ?_
  refine rn_if (b := 3) (x := v) (y := 1) (it := 59) (ie := 44) (ls' := [some (vR 0), some (vI (nI c)), some (vI (nI m)), some (vI v), some (vI (nI (wn m))), some (vI (nI i))]) (st' := []) (fun Fu F => bq_38_43 _ Fu F _ _ _ _ _) (fun k2 => absurd (of_decide_eq_true (cmp_ge.symm.trans k2)) (show ¬ ((1 : Int32) ≤ (v : Int32)) from Int32.not_le.mpr h1)) (fun _ => ?_)
  refine rb (i' := 47) (ls' := [some (vR 0), some (vI (nI c)), some (vI (nI m)), some (vI v), some (vI (nI (wn m))), some (vI (nI i))]) (st' := [vI (nI i), vR 2]) (L' := (gL bb K f s l)) 3 (fun _ _ => rfl) ?_
  refine rn_g (g := (Nat.beq 0 0 && pin (nI i) 9)) (i' := 48) (ls' := [some (vR 0), some (vI (nI c)), some (vI (nI m)), some (vI v), some (vI (nI (wn m))), some (vI (nI i))]) (st' := [vI (f (ix (nI i)))]) (L' := (gL bb K f s l)) (fun _ _ => rfl) (gpin_nI hi (by decide)) ?_
  refine rn_top (x := f (ix (nI i))) (y := nI (dg c i)) ((congrArg f (gix_nI (by omega))).trans (hB i hi)) ?_
  refine rn_if (b := 1) (x := nI (dg c i)) (y := 0) (it := 57) (ie := 49) (ls' := [some (vR 0), some (vI (nI c)), some (vI (nI m)), some (vI v), some (vI (nI (wn m))), some (vI (nI i))]) (st' := []) (fun Fu F => bq_38_48 _ Fu F _ _ _ _) (fun k3 => absurd (of_decide_eq_true (cmp_ne.symm.trans k3)) (show ¬ (¬ (nI (dg c i) : Int32) = (0 : Int32)) from fun z => z (by rw [hd]; rfl))) (fun _ => ?_)
  refine rb (i' := 54) (ls' := [some (vR 0), some (vI (nI c)), some (vI (nI m)), some (vI v), some (vI (nI (wn m))), some (vI (nI i))]) (st' := [vI (nI m), vI (nI c), vI (nI i), vR 0, vI v]) (L' := (gL bb K f s l)) 5 (fun _ _ => rfl) ?_
  refine rn_call (a := 41) (As := [vR 0, vI (nI i), vI (nI c), vI (nI m)]) (t := 55) (ls' := [some (vR 0), some (vI (nI c)), some (vI (nI m)), some (vI v), some (vI (nI (wn m))), some (vI (nI i))]) (st' := [vI v]) (fun Fu F => cq_38_54 (evF Fu _) F _ _ _ _ _ _ _ _ _) (hM) ?_
  refine rn_eq (ls' := [some (vR 0), some (vI (nI c)), some (vI (nI m)), some (vI v), some (vI (nI (wn m))), some (vI (nI i))]) (st' := [vI x, vI v]) (L' := (gL bb K' f s l)) rfl rfl rfl ?_
  refine rn_max (t := 56) (st := []) (fun Fu F => mq_38_55 (evF Fu _) F _ _ _ _) rfl ?_
  refine rb (i' := 57) (ls' := [some (vR 0), some (vI (nI c)), some (vI (nI m)), some (vI (gmax v x)), some (vI (nI (wn m))), some (vI (nI i))]) (st' := []) (L' := (gL bb K' f s l)) 1 (fun _ _ => rfl) ?_
  refine rb (i' := 38) (ls' := [some (vR 0), some (vI (nI c)), some (vI (nI m)), some (vI (gmax v x)), some (vI (nI (wn m))), some (vI (nI i + 1))]) (st' := []) (L' := (gL bb K' f s l)) 2 (fun _ _ => rfl) ?_
  rw [nadd (rfl : nI i = nI i) (rfl : (1 : Int32) = nI 1)]
  exact hk
