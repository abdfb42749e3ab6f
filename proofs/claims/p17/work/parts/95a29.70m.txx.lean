/-! the reference's text, exactly -/
def tz0 (z : Nat → Int32) : Nat → Int32 := uZ (uZ (uZ (uZ (uZ (uZ z 0 0) 32 0) 33 (-1)) 13 0) 26 0) 27 0
def TZL : List Nat := [0, 3, 12, 13, 14, 15, 16, 25, 26, 27, 29, 30, 31, 32, 33, 34, 36, 38]
def TZF (z z' : Nat → Int32) : Prop := ∀ j, j ∉ TZL → z' j = z j
theorem TZF.u {z z' : Nat → Int32} {k : Nat} {x : Int32} (h : TZF z z') (hk : k ∈ TZL) : TZF z (uZ z' k x) := fun j hj => by
  have ne : j ≠ k := fun e => hj (by rw [e]; exact hk)
  rw [uZ_n ne]
  exact h j hj
theorem TZF.rf (z : Nat → Int32) : TZF z z := fun _ _ => rfl
theorem TZF.tr {z1 z2 z3 : Nat → Int32} (h1 : TZF z1 z2) (h2 : TZF z2 z3) : TZF z1 z3 := fun j hj => (h2 j hj).trans (h1 j hj)
theorem TZF.t0 (z : Nat → Int32) : TZF z (tz0 z) := (((((((TZF.rf z).u (k := 0) (by decide)).u (k := 32) (by decide)).u (k := 33) (by decide)).u (k := 13) (by decide)).u (k := 26) (by decide)).u (k := 27) (by decide))
theorem RDZ.f {z z' : Nat → Int32} (h : RDZ z z') : TZF z z' := fun j hj => h j (fun e => hj (by rw [e]; decide)) (fun e => hj (by rw [e]; decide)) (fun e => hj (by rw [e]; decide)) (fun e => hj (by rw [e]; decide))
theorem MLF.z {z z' : Nat → Int32} {f f' : Nat → FA} (h : MLF z f z' f') : TZF z z' := RDZ.f h.1
theorem PRH.z {z z' : Nat → Int32} {f f' : Nat → FA} (h : PRH z f z' f') : TZF z z' := fun j hj => h.1 j (fun e => hj (by rw [e]; decide)) (fun e => hj (by rw [e]; decide)) (fun e => hj (by rw [e]; decide)) (fun e => hj (by rw [e]; decide)) (fun e => hj (by rw [e]; decide)) (fun e => hj (by rw [e]; decide)) (fun e => hj (by rw [e]; decide))
/-- the drafts apart, all rows stay -/
def TFF (f f' : Nat → FA) : Prop := (∀ k, (k < 11 ∨ 20 < k) → f' k = f k) ∧ (∀ k j, 11 ≤ k → k ≤ 14 → j < 32 → f' k j = f k j) ∧ (∀ j, j < 800 → f' 15 j = f 15 j ∧ f' 16 j = f 16 j) ∧ (∀ j, j < 48 → f' 18 j = f 18 j) ∧ (∀ j, j < 80 → f' 19 j = f 19 j) ∧ ∀ j, j < 20 → f' 20 j = f 20 j
theorem MLF.t {z z' : Nat → Int32} {f f' : Nat → FA} (h : MLF z f z' f') : TFF f f' := ⟨fun k a => h.2.1 k (by omega) (by omega) (by omega), fun k j a b _ => by rw [h.2.1 k (by omega) (by omega) (by omega)], fun j _ => by rw [h.2.1 15 (by decide) (by decide) (by decide), h.2.1 16 (by decide) (by decide) (by decide)]; exact ⟨rfl, rfl⟩, h.2.2.1, h.2.2.2.1, h.2.2.2.2⟩
theorem PRH.t {z z' : Nat → Int32} {f f' : Nat → FA} (h : PRH z f z' f') : TFF f f' := ⟨fun k a => h.2.1 k (by omega), h.2.2.1, h.2.2.2, fun j _ => by rw [h.2.1 18 (by omega)], fun j _ => by rw [h.2.1 19 (by omega)], fun j _ => by rw [h.2.1 20 (by omega)]⟩
section MTX
variable {d k : Nat} {z z' : Nat → Int32} {f f' : Nat → FA}
theorem mtx_bad {e : Nat × Nat} (hk : k < 4) (h : mcall (d + 10) 270 [vR 0, vI (nI k)] (LR (tz0 z) f) = some (some (vI (-1)), LR (uZ (uZ z' 30 (nI e.1)) 31 (nI e.2)) f')) : mcall (d + 11) 280 [vR 0, vI (nI k)] (LR z f) = some (some (vI (-1)), LR (uZ (uZ (uZ (uZ (uZ z' 30 (nI e.1)) 31 (nI e.2)) 32 (nI e.1)) 33 (nI e.2)) 12 0) f') := by
  have ik : I (nI k) = k := I_nI (by omega)
  refine mcall_i (mq280 (cu := [])).2.2 rfl (vc280_0 d (nI k) none z f _ ⟨fun _ => ⟨_, _, _, h, fun q => absurd rfl q, fun _ => vcc41_280_41 d (nI k) (-1) _ _ _ ⟨fun q => absurd rfl q, fun _ => ?_⟩⟩, fun q => absurd ⟨by omega, by omega⟩ q⟩)
  rw [uZ_n (show 30 ≠ 31 by decide), uZ_s, uZ_s]
theorem mtx_ok {n : Nat} (hk : k < 4) (hn : n ≤ 16) (h : mcall (d + 10) 270 [vR 0, vI (nI k)] (LR (tz0 z) f) = some (some (vI (nI n)), LR z' f')) {z2 : Nat → Int32} {f2 : Nat → FA} (h0 : k = 0 → mcall (d + 10) 278 [vR 0, vI (nI n)] (LR (uZ z' 12 0) f') = some (none, LR z2 f2)) (h1 : k ≠ 0 → mcall (d + 10) 279 [vR 0, vI (nI k), vI (nI n)] (LR (uZ z' 12 0) f') = some (none, LR z2 f2)) : mcall (d + 11) 280 [vR 0, vI (nI k)] (LR z f) = some (some (vI (nI n)), LR z2 f2) := by
  have ik : I (nI k) = k := I_nI (by omega)
  have n1 : ¬ nI n = -1 := nI_n1 (by omega)
  refine mcall_i (mq280 (cu := [])).2.2 rfl (vc280_0 d (nI k) none z f _ ⟨fun _ => ⟨_, _, _, h, fun _ => vcc41_280_41 d (nI k) (nI n) _ _ _ ⟨fun _ => ⟨fun q => ⟨_, _, h1 (fun e => q (by rw [e]; rfl)), rfl⟩, fun q => ⟨_, _, h0 (nI_inj (a := k) (b := 0) (by omega) (by omega) q), rfl⟩⟩, fun q => absurd q n1⟩, fun q => absurd q n1⟩, fun q => absurd ⟨by omega, by omega⟩ q⟩)
/-- no such text -/
theorem mtx_no {x : Int32} (hx : ¬ (0 ≤ I x ∧ I x ≤ 3)) : mcall (d + 11) 280 [vR 0, vI x] (LR z f) = some (some (vI (-1)), LR (uZ (tz0 z) 12 0) f) :=
  mcall_i (mq280 (cu := [])).2.2 rfl (vc280_0 d x none z f _ ⟨fun q => absurd q hx, fun _ => vcc41_280_41 d x (-1) _ _ _ ⟨fun q => absurd rfl q, fun _ => rfl⟩⟩)
end MTX
/-- the reader at the tape's start -/
theorem mtx_st (d : Nat) {t : FA} {n : Nat} {z : Nat → Int32} {f : Nat → FA} (h8 : f 8 = t) (hY : pxY (f 9) 0 pxV = true) (h12 : z 12 = nI n) (hn : n ≤ 400) (hb : ∀ j, j < n → ¬ t j = -1) : ∃ z1, mcall (d + 9) 269 [vR 0] (LR (uZ (tz0 z) 25 0) f) = some (none, LR z1 f) ∧ prR t n (pxA t n (n + 1) 0) [] z1 f ∧ RDZ (uZ (tz0 z) 25 0) z1 ∧ TZF z z1 ∧ z1 27 = nI 0 := by
  have e13 : uZ (tz0 z) 25 0 13 = nI 0 := by
    rw [uZ_n (by decide)]
    show uZ (uZ (uZ _ 13 0) 26 0) 27 0 13 = _
    rw [uZ_n (by decide), uZ_n (by decide), uZ_s]
    rfl
  have e12 : uZ (tz0 z) 25 0 12 = nI n := by
    rw [uZ_n (by decide)]
    show uZ (uZ (uZ (uZ (uZ (uZ z 0 0) 32 0) 33 (-1)) 13 0) 26 0) 27 0 12 = _
    rw [uZ_n (by decide), uZ_n (by decide), uZ_n (by decide), uZ_n (by decide), uZ_n (by decide), uZ_n (by decide)]
    exact h12
  have e26 : uZ (tz0 z) 25 0 26 = nI 0 := by
    rw [uZ_n (by decide)]
    show uZ (uZ _ 26 0) 27 0 26 = _
    rw [uZ_n (by decide), uZ_s]
    rfl
  have e27 : uZ (tz0 z) 25 0 27 = nI 0 := by
    rw [uZ_n (by decide)]
    show uZ _ 27 0 27 = _
    rw [uZ_s]
    rfl
  obtain ⟨z1, k1, k2, k3, k4, k5⟩ := reads_x (d + 6) hY hn (by rw [h8]; exact hb) (Nat.zero_le n) e12 e13
  have hA := pxAt_0 t n
  rw [h8] at k3 k4 k5
  refine ⟨z1, k1, ⟨⟨h8, hY, (k2 12 (by decide) (by decide) (by decide) (by decide)).trans e12, hn, hb⟩, ⟨_, _, _, _, hA, k3, k4, k5⟩, (k2 26 (by decide) (by decide) (by decide) (by decide)).trans e26, rfl⟩, k2, ((TZF.t0 z).u (k := 25) (by decide)).tr (RDZ.f k2), (k2 27 (by decide) (by decide) (by decide) (by decide)).trans e27⟩
/-- how a text's reading ends -/
def MTo (d k : Nat) (z : Nat → Int32) (f : Nat → FA) (p : (Nat × Nat) ⊕ Nat) (G : (Nat → Int32) → (Nat → FA) → Prop) : Prop := match p with
  | .inl e => ∃ z' f', mcall (d + 11) 280 [vR 0, vI (nI k)] (LR z f) = some (some (vI (-1)), LR z' f') ∧ TZF z z' ∧ z' 12 = 0 ∧ z' 32 = nI e.1 ∧ z' 33 = nI e.2 ∧ z' 3 = z 3 ∧ z' 34 = z 34 ∧ z' 36 = z 36 ∧ z' 38 = z 38 ∧ TFF f f'
  | .inr n => ∃ z' f', mcall (d + 11) 280 [vR 0, vI (nI k)] (LR z f) = some (some (vI (nI n)), LR z' f') ∧ n ≤ 16 ∧ TZF z z' ∧ z' 12 = 0 ∧ z' 32 = 0 ∧ z' 33 = -1 ∧ G z' f'
theorem t0_k {z : Nat → Int32} {j : Nat} (h : j ∉ [0, 32, 33, 13, 26, 27]) : tz0 z j = z j := by
  unfold tz0
  rw [uZ_n (fun e => h (by rw [e]; decide)), uZ_n (fun e => h (by rw [e]; decide)), uZ_n (fun e => h (by rw [e]; decide)), uZ_n (fun e => h (by rw [e]; decide)), uZ_n (fun e => h (by rw [e]; decide)), uZ_n (fun e => h (by rw [e]; decide))]
theorem t0_32 {z : Nat → Int32} : tz0 z 32 = 0 ∧ tz0 z 33 = -1 := by
  unfold tz0
  rw [uZ_n (by decide), uZ_n (by decide), uZ_n (by decide), uZ_n (by decide), uZ_s, uZ_n (by decide), uZ_n (by decide), uZ_n (by decide), uZ_s]
  exact ⟨rfl, rfl⟩
theorem mto_bad {d k : Nat} {z z1 z' : Nat → Int32} {f f' : Nat → FA} {e : Nat × Nat} {G : (Nat → Int32) → (Nat → FA) → Prop} (hk : k < 4) (h : mcall (d + 10) 270 [vR 0, vI (nI k)] (LR (tz0 z) f) = some (some (vI (-1)), LR (uZ (uZ z' 30 (nI e.1)) 31 (nI e.2)) f')) (h1 : RDZ (uZ (tz0 z) 25 0) z1) (h2 : ∀ j, j ≠ 13 → j ≠ 14 → j ≠ 15 → j ≠ 16 → j ≠ 26 → j ≠ 27 → j ≠ 29 → z' j = z1 j) (hf : TFF f f') : MTo d k z f (.inl e) G := by
  have q : ∀ j, j ≠ 13 → j ≠ 14 → j ≠ 15 → j ≠ 16 → j ≠ 26 → j ≠ 27 → j ≠ 29 → j ≠ 25 → z' j = tz0 z j := fun j a1 a2 a3 a4 a5 a6 a7 a8 => by rw [h2 j a1 a2 a3 a4 a5 a6 a7, h1 j a1 a2 a3 a4, uZ_n a8]
  have k3 : ∀ j, j = 3 ∨ j = 34 ∨ j = 36 ∨ j = 38 → uZ (uZ (uZ (uZ (uZ z' 30 (nI e.1)) 31 (nI e.2)) 32 (nI e.1)) 33 (nI e.2)) 12 0 j = z j := fun j hj => by
    rw [uZ_n (by omega), uZ_n (by omega), uZ_n (by omega), uZ_n (by omega), uZ_n (by omega), q j (by omega) (by omega) (by omega) (by omega) (by omega) (by omega) (by omega) (by omega)]
    exact t0_k (fun hm => by
      rcases hj with rfl | rfl | rfl | rfl <;> revert hm <;> decide)
  refine ⟨_, f', mtx_bad hk h, ?_, uZ_s, ?_, ?_, k3 3 (by omega), k3 34 (by omega), k3 36 (by omega), k3 38 (by omega), hf⟩
  · have hz : TZF z z' := fun j hj => by
      have ne : ∀ a, a ∈ TZL → j ≠ a := fun a ha e => hj (e ▸ ha)
      rw [q j (ne _ (by decide)) (ne _ (by decide)) (ne _ (by decide)) (ne _ (by decide)) (ne _ (by decide)) (ne _ (by decide)) (ne _ (by decide)) (ne _ (by decide))]
      exact TZF.t0 z j hj
    exact ((((hz.u (k := 30) (by decide)).u (k := 31) (by decide)).u (k := 32) (by decide)).u (k := 33) (by decide)).u (k := 12) (by decide)
  · rw [uZ_n (by decide), uZ_n (by decide), uZ_s]
  · rw [uZ_n (by decide), uZ_s]
def pcnt {α : Type} (p : (Nat × Nat) ⊕ List α) : (Nat × Nat) ⊕ Nat := match p with
  | .inl e => .inl e
  | .inr L => .inr L.length
section MT4
variable {t : FA} {n m : Nat} {z : Nat → Int32} {f : Nat → FA}
theorem mtext1 (d : Nat) (h8 : f 8 = t) (hY : pxY (f 9) 0 pxV = true) (h12 : z 12 = nI n) (hn : n ≤ 400) (hb : ∀ j, j < n → ¬ t j = -1) (h6 : z 6 = nI m) (hm : m ≤ 20) : MTo d 1 z f (pcnt (pXL 1 m 18 0 (pxA t n (n + 1) 0))) (fun z' f' => ∃ L f1, pXL 1 m 18 0 (pxA t n (n + 1) 0) = .inr L ∧ pLw m (f1 18) 0 L ∧ f' = uA f1 18 (cpr (f1 18) 48 (3 * L.length)) ∧ TFF f f1 ∧ z' 3 = 0 ∧ z' 34 = nI L.length ∧ z' 36 = z 36 ∧ z' 38 = z 38) := by
  obtain ⟨z1, k1, k2, k3, k4, k5⟩ := mtx_st d h8 hY h12 hn hb
  have z16 : z1 6 = nI m := (k4 6 (by decide)).trans h6
  have key := prways (t := t) (n := n) (C := []) (d + 2) hm 18 0 (pxA t n (n + 1) 0) z1 f rfl (by decide) k2 z16
  have call : ∀ res, RC (mcall (d + 8)) (mP 268) 2 [some (vR 0), some (vI (nI 0))] [] (LR z1 f) res → mcall (d + 9) 268 [vR 0] (LR z1 f) = some res := fun res hr => mcall_i (mq268 (cu := [])).2.2 rfl (vc268_0 (d + 2) none z1 f res hr)
  have rt : ∀ (r : Int32) (z2 : Nat → Int32) (f2 : Nat → FA), mcall (d + 9) 268 [vR 0] (LR z1 f) = some (some (vI r), LR z2 f2) → mcall (d + 10) 270 [vR 0, vI (nI 1)] (LR (tz0 z) f) = some (some (vI r), LR z2 f2) := fun r z2 f2 hr => mcall_i (mq270 (cu := [])).2.2 rfl (vc270_0 d (nI 1) (tz0 z) f _ ⟨z1, f, k1, fun q => absurd rfl q, fun _ => ⟨_, _, _, hr, rfl⟩⟩)
  cases hL : pXL 1 m 18 0 (pxA t n (n + 1) 0) with
  | inl e =>
    rw [hL] at key
    obtain ⟨z', f', q1, q2⟩ := key
    exact mto_bad (by decide) (rt _ _ _ (call _ q1)) k3 (fun j a1 a2 a3 a4 _ _ _ => q2.1 j a1 a2 a3 a4) q2.t
  | inr L =>
    rw [hL] at key
    obtain ⟨z', f', q1, q2, q3, q4, q5⟩ := key
    rw [Nat.zero_add] at q1 q2
    refine ⟨_, _, mtx_ok (k := 1) (by decide) q2 (rt _ _ _ (call _ q1)) (fun e => absurd e (by decide)) (fun _ => takes1_r (d + 9) L.length q2 (uZ z' 12 0) f'), q2, ?_, ?_, ?_, ?_, L, f', rfl, q4, rfl, q3.t, uZ_s, ?_, ?_, ?_⟩
    · exact ((((k4.tr q3.z).u (k := 12) (by decide)).u (k := 34) (by decide)).u (k := 3) (by decide))
    · rw [uZ_n (by decide), uZ_n (by decide), uZ_s]
    · rw [uZ_n (by decide), uZ_n (by decide), uZ_n (by decide), q3.1 32 (by decide) (by decide) (by decide) (by decide), k3 32 (by decide) (by decide) (by decide) (by decide), uZ_n (by decide)]
      exact t0_32.1
    · rw [uZ_n (by decide), uZ_n (by decide), uZ_n (by decide), q3.1 33 (by decide) (by decide) (by decide) (by decide), k3 33 (by decide) (by decide) (by decide) (by decide), uZ_n (by decide)]
      exact t0_32.2
    · rw [uZ_n (by decide), uZ_s]
    · rw [uZ_n (by decide), uZ_n (by decide), uZ_n (by decide), q3.1 36 (by decide) (by decide) (by decide) (by decide), k3 36 (by decide) (by decide) (by decide) (by decide), uZ_n (by decide)]
      exact t0_k (by decide)
    · rw [uZ_n (by decide), uZ_n (by decide), uZ_n (by decide), q3.1 38 (by decide) (by decide) (by decide) (by decide), k3 38 (by decide) (by decide) (by decide) (by decide), uZ_n (by decide)]
      exact t0_k (by decide)
theorem mtext2 (d : Nat) (h8 : f 8 = t) (hY : pxY (f 9) 0 pxV = true) (h12 : z 12 = nI n) (hn : n ≤ 400) (hb : ∀ j, j < n → ¬ t j = -1) (h6 : z 6 = nI m) (hm : m ≤ 20) : MTo d 2 z f (pcnt (pXL 2 m 18 0 (pxA t n (n + 1) 0))) (fun z' f' => ∃ L f1, pXL 2 m 18 0 (pxA t n (n + 1) 0) = .inr L ∧ pLs m (f1 19) 0 L ∧ f' = uA f1 19 (cpr (f1 19) 80 (5 * L.length)) ∧ TFF f f1 ∧ z' 3 = 0 ∧ z' 36 = nI L.length ∧ z' 34 = z 34 ∧ z' 38 = z 38) := by
  obtain ⟨z1, k1, k2, k3, k4, k5⟩ := mtx_st d h8 hY h12 hn hb
  have z16 : z1 6 = nI m := (k4 6 (by decide)).trans h6
  have key := prskys (t := t) (n := n) (C := []) (d + 1) hm 18 0 (pxA t n (n + 1) 0) z1 f rfl (by decide) k2 z16
  have call : ∀ res, RC (mcall (d + 8)) (mP 261) 2 [some (vR 0), some (vI (nI 0))] [] (LR z1 f) res → mcall (d + 9) 261 [vR 0] (LR z1 f) = some res := fun res hr => mcall_i (mq261 (cu := [])).2.2 rfl (vc261_0 (d + 1) none z1 f res hr)
  have rt : ∀ (r : Int32) (z2 : Nat → Int32) (f2 : Nat → FA), mcall (d + 9) 261 [vR 0] (LR z1 f) = some (some (vI r), LR z2 f2) → mcall (d + 10) 270 [vR 0, vI (nI 2)] (LR (tz0 z) f) = some (some (vI r), LR z2 f2) := fun r z2 f2 hr => mcall_i (mq270 (cu := [])).2.2 rfl (vc270_0 d (nI 2) (tz0 z) f _ ⟨z1, f, k1, fun _ => ⟨fun q => absurd rfl q, fun _ => ⟨_, _, _, hr, rfl⟩⟩, fun q => absurd q (by decide)⟩)
  cases hL : pXL 2 m 18 0 (pxA t n (n + 1) 0) with
  | inl e =>
    rw [hL] at key
    obtain ⟨z', f', q1, q2⟩ := key
    exact mto_bad (by decide) (rt _ _ _ (call _ q1)) k3 (fun j a1 a2 a3 a4 _ _ _ => q2.1 j a1 a2 a3 a4) q2.t
  | inr L =>
    rw [hL] at key
    obtain ⟨z', f', q1, q2, q3, q4, q5⟩ := key
    rw [Nat.zero_add] at q1 q2
    refine ⟨_, _, mtx_ok (k := 2) (by decide) q2 (rt _ _ _ (call _ q1)) (fun e => absurd e (by decide)) (fun _ => takes2_r (d + 9) L.length q2 (uZ z' 12 0) f'), q2, ?_, ?_, ?_, ?_, L, f', rfl, q4, rfl, q3.t, uZ_s, ?_, ?_, ?_⟩
    · exact ((((k4.tr q3.z).u (k := 12) (by decide)).u (k := 36) (by decide)).u (k := 3) (by decide))
    · rw [uZ_n (by decide), uZ_n (by decide), uZ_s]
    · rw [uZ_n (by decide), uZ_n (by decide), uZ_n (by decide), q3.1 32 (by decide) (by decide) (by decide) (by decide), k3 32 (by decide) (by decide) (by decide) (by decide), uZ_n (by decide)]
      exact t0_32.1
    · rw [uZ_n (by decide), uZ_n (by decide), uZ_n (by decide), q3.1 33 (by decide) (by decide) (by decide) (by decide), k3 33 (by decide) (by decide) (by decide) (by decide), uZ_n (by decide)]
      exact t0_32.2
    · rw [uZ_n (by decide), uZ_s]
    · rw [uZ_n (by decide), uZ_n (by decide), uZ_n (by decide), q3.1 34 (by decide) (by decide) (by decide) (by decide), k3 34 (by decide) (by decide) (by decide) (by decide), uZ_n (by decide)]
      exact t0_k (by decide)
    · rw [uZ_n (by decide), uZ_n (by decide), uZ_n (by decide), q3.1 38 (by decide) (by decide) (by decide) (by decide), k3 38 (by decide) (by decide) (by decide) (by decide), uZ_n (by decide)]
      exact t0_k (by decide)
/-- the twins' draft is bare first -/
def tw0 (g : FA) (k : Nat) : FA := fun j => if 20 ≤ j ∧ j < 20 + k then 0 else g j
theorem tw0_s (g : FA) (k : Nat) : upd (tw0 g k) (20 + k) 0 = tw0 g (k + 1) := by
  funext j
  by_cases c : j = 20 + k
  · subst c
    rw [pk_us]
    exact (if_pos ⟨by omega, by omega⟩).symm
  · rw [pk_un c]
    unfold tw0
    by_cases c2 : 20 ≤ j ∧ j < 20 + k
    · rw [if_pos c2, if_pos ⟨c2.1, by omega⟩]
    · rw [if_neg c2, if_neg (by omega)]
theorem mtw0 (d : Nat) {z1 : Nat → Int32} {res : Option PV × QH FA} (H : RC (mcall (d + 6)) (mP 265) 16 [some (vR 0), some (vI 0)] [] (LR z1 (uA f 20 (tw0 (f 20) 20))) res) : ∀ u k, k + u = 20 → RC (mcall (d + 6)) (mP 265) 2 [some (vR 0), some (vI (nI k))] [] (LR z1 (uA f 20 (tw0 (f 20) k))) res := by
  intro u
  induction u with
  | zero =>
    intro k hk
    obtain rfl : k = 20 := by omega
    exact vcc2_265_2 d (nI 20) z1 _ res ⟨fun _ => H, fun q => absurd q (by decide)⟩
  | succ u ih =>
    intro k hk
    have ik : I (nI k) = k := I_nI (by omega)
    have e : 20 + nI k = nI (20 + k) := by rw [show (20 : Int32) = nI 20 from rfl, nI_add]
    refine vcc2_265_2 d (nI k) z1 _ res ⟨fun q => by omega, fun _ => ⟨by rw [e]; exact pin_nI (by omega) (by omega), ?_⟩⟩
    rw [e, ix_nI (j := 20 + k) (by omega), uA_self, uA_uA, tw0_s, show nI k + 1 = nI (k + 1) from nI_add k 1]
    exact ih (k + 1) (by omega)
theorem mtext3 (d : Nat) (h8 : f 8 = t) (hY : pxY (f 9) 0 pxV = true) (h12 : z 12 = nI n) (hn : n ≤ 400) (hb : ∀ j, j < n → ¬ t j = -1) (h6 : z 6 = nI m) (hm : m ≤ 20) : MTo d 3 z f (pcnt (pXL 3 m 18 0 (pxA t n (n + 1) 0))) (fun z' f' => ∃ L f1, pXL 3 m 18 0 (pxA t n (n + 1) 0) = .inr L ∧ pLt m (tw0 (f 20) 20) L (f1 20) ∧ f' = uA f1 20 (cpr (f1 20) 20 20) ∧ TFF f f1 ∧ z' 3 = z 3 ∧ z' 34 = z 34 ∧ z' 36 = z 36 ∧ z' 38 = nI L.length) := by
  obtain ⟨z1, k1, k2, k3, k4, k5⟩ := mtx_st d h8 hY h12 hn hb
  have z16 : z1 6 = nI m := (k4 6 (by decide)).trans h6
  have k2' := prR_u (g := tw0 (f 20) 20) k2 (Or.inr (Or.inr rfl))
  have key := prtwins (t := t) (n := n) (C := []) (d + 2) hm 18 0 (pxA t n (n + 1) 0) z1 _ rfl (by decide) k2' z16
  have call : ∀ res, RC (mcall (d + 8)) (mP 265) 16 [some (vR 0), some (vI (nI 0))] [] (LR z1 (uA f 20 (tw0 (f 20) 20))) res → mcall (d + 9) 265 [vR 0] (LR z1 f) = some res := fun res hr => by
    have h2 := mtw0 (d + 2) (f := f) (z1 := z1) hr 20 0 rfl
    rw [show tw0 (f 20) 0 = f 20 from funext (fun j => if_neg (by omega)), uA_id rfl] at h2
    exact mcall_i (mq265 (cu := [])).2.2 rfl (vc265_0 (d + 2) none z1 f res h2)
  have rt : ∀ (r : Int32) (z2 : Nat → Int32) (f2 : Nat → FA), mcall (d + 9) 265 [vR 0] (LR z1 f) = some (some (vI r), LR z2 f2) → mcall (d + 10) 270 [vR 0, vI (nI 3)] (LR (tz0 z) f) = some (some (vI r), LR z2 f2) := fun r z2 f2 hr => mcall_i (mq270 (cu := [])).2.2 rfl (vc270_0 d (nI 3) (tz0 z) f _ ⟨z1, f, k1, fun _ => ⟨fun _ => ⟨fun q => absurd rfl q, fun _ => ⟨_, _, _, hr, rfl⟩⟩, fun q => absurd q (by decide)⟩, fun q => absurd q (by decide)⟩)
  have g0 : TFF f (uA f 20 (tw0 (f 20) 20)) := ⟨fun k a => uA_ne (by omega), fun k j a b _ => by rw [uA_ne (by omega)], fun j _ => by rw [uA_ne (by decide), uA_ne (by decide)]; exact ⟨rfl, rfl⟩, fun j _ => by rw [uA_ne (by decide)], fun j _ => by rw [uA_ne (by decide)], fun j hj => by rw [uA_self]; exact if_neg (by omega)⟩
  have tr : ∀ f', TFF (uA f 20 (tw0 (f 20) 20)) f' → TFF f f' := fun f' h => ⟨fun k a => (h.1 k a).trans (g0.1 k a), fun k j a b c => (h.2.1 k j a b c).trans (g0.2.1 k j a b c), fun j hj => ⟨(h.2.2.1 j hj).1.trans (g0.2.2.1 j hj).1, (h.2.2.1 j hj).2.trans (g0.2.2.1 j hj).2⟩, fun j hj => (h.2.2.2.1 j hj).trans (g0.2.2.2.1 j hj), fun j hj => (h.2.2.2.2.1 j hj).trans (g0.2.2.2.2.1 j hj), fun j hj => (h.2.2.2.2.2 j hj).trans (g0.2.2.2.2.2 j hj)⟩
  cases hL : pXL 3 m 18 0 (pxA t n (n + 1) 0) with
  | inl e =>
    rw [hL] at key
    obtain ⟨z', f', q1, q2⟩ := key
    exact mto_bad (by decide) (rt _ _ _ (call _ q1)) k3 (fun j a1 a2 a3 a4 _ _ _ => q2.1 j a1 a2 a3 a4) (tr _ q2.t)
  | inr L =>
    rw [hL] at key
    obtain ⟨z', f', q1, q2, q3, q4⟩ := key
    rw [Nat.zero_add] at q1 q2
    rw [uA_self] at q4
    refine ⟨_, _, mtx_ok (k := 3) (by decide) q2 (rt _ _ _ (call _ q1)) (fun e => absurd e (by decide)) (fun _ => takes3_r (d + 9) (nI L.length) (uZ z' 12 0) f'), q2, ?_, ?_, ?_, ?_, L, f', rfl, q4, rfl, tr _ q3.t, ?_, ?_, ?_, uZ_s⟩
    · exact (((k4.tr q3.z).u (k := 12) (by decide)).u (k := 38) (by decide))
    · rw [uZ_n (by decide), uZ_s]
    · rw [uZ_n (by decide), uZ_n (by decide), q3.1 32 (by decide) (by decide) (by decide) (by decide), k3 32 (by decide) (by decide) (by decide) (by decide), uZ_n (by decide)]
      exact t0_32.1
    · rw [uZ_n (by decide), uZ_n (by decide), q3.1 33 (by decide) (by decide) (by decide) (by decide), k3 33 (by decide) (by decide) (by decide) (by decide), uZ_n (by decide)]
      exact t0_32.2
    · rw [uZ_n (by decide), uZ_n (by decide), q3.1 3 (by decide) (by decide) (by decide) (by decide), k3 3 (by decide) (by decide) (by decide) (by decide), uZ_n (by decide)]
      exact t0_k (by decide)
    · rw [uZ_n (by decide), uZ_n (by decide), q3.1 34 (by decide) (by decide) (by decide) (by decide), k3 34 (by decide) (by decide) (by decide) (by decide), uZ_n (by decide)]
      exact t0_k (by decide)
    · rw [uZ_n (by decide), uZ_n (by decide), q3.1 36 (by decide) (by decide) (by decide) (by decide), k3 36 (by decide) (by decide) (by decide) (by decide), uZ_n (by decide)]
      exact t0_k (by decide)
theorem mtext0 (d : Nat) (h8 : f 8 = t) (hY : pxY (f 9) 0 pxV = true) (h12 : z 12 = nI n) (hn : n ≤ 400) (hb : ∀ j, j < n → ¬ t j = -1) : MTo d 0 z f (pcnt (pG 18 0 (pxA t n (n + 1) 0))) (fun z' f' => ∃ L, pG 18 0 (pxA t n (n + 1) 0) = .inr L ∧ LRM f' (pLAW L) L.length ∧ LOK (pLAW L) L.length ∧ (∀ k, (k < 10 ∨ 17 < k) → f' k = f k) ∧ z' 3 = z 3 ∧ z' 34 = z 34 ∧ z' 36 = z 36 ∧ z' 38 = z 38) := by
  obtain ⟨z1, k1, k2, k3, k4, k5⟩ := mtx_st d h8 hY h12 hn hb
  have hlen : (pxA t n (n + 1) 0).length ≤ 401 := by
    have := pxA_len t n (n + 1) 0 (by omega) (by omega)
    omega
  have key := prlaw d 18 0 (pxA t n (n + 1) 0) [] z1 f none rfl (by decide) k2 k5 (by show 0 + _ ≤ 401; omega)
  have call : ∀ res, RC (mcall (d + 8)) (mP 255) 2 [some (vR 0), some (vI (nI 0)), none] [] (LR z1 f) res → mcall (d + 9) 255 [vR 0] (LR z1 f) = some res := fun res hr => mcall_i (mq255 (cu := [])).2.2 rfl (vc255_0 d none none z1 f res hr)
  have rt : ∀ (r : Int32) (z2 : Nat → Int32) (f2 : Nat → FA), mcall (d + 9) 255 [vR 0] (LR z1 f) = some (some (vI r), LR z2 f2) → mcall (d + 10) 270 [vR 0, vI (nI 0)] (LR (tz0 z) f) = some (some (vI r), LR z2 f2) := fun r z2 f2 hr => mcall_i (mq270 (cu := [])).2.2 rfl (vc270_0 d (nI 0) (tz0 z) f _ ⟨z1, f, k1, fun _ => ⟨fun _ => ⟨fun _ => ⟨_, _, _, hr, rfl⟩, fun q => absurd q (by decide)⟩, fun q => absurd q (by decide)⟩, fun q => absurd q (by decide)⟩)
  cases hL : pG 18 0 (pxA t n (n + 1) 0) with
  | inl e =>
    rw [hL] at key
    obtain ⟨z', f', q1, q2⟩ := key
    exact mto_bad (by decide) (rt _ _ _ (call _ q1)) k3 (fun j a1 a2 a3 a4 a5 a6 a7 => q2.1 j a1 a2 a3 a4 a5 a6 a7) q2.t
  | inr L =>
    rw [hL] at key
    obtain ⟨z', f', q1, q2, ⟨ts', q3, q3'⟩, q4, q5, q6⟩ := key
    rw [Nat.zero_add] at q1 q2
    rw [List.nil_append] at q3 q3'
    have q4 : pLl f' 0 0 L := q4
    have hc : prl (pfl L) ≤ 400 := by
      obtain ⟨x, r, rfl⟩ := prR_ne q3
      have q3' : prl (pfl L) + (r.length + 1) ≤ 401 := q3'
      omega
    have z25 : uZ z' 12 0 25 = 0 := by
      rw [uZ_n (by decide), q6.1 25 (by decide) (by decide) (by decide) (by decide) (by decide) (by decide) (by decide), k3 25 (by decide) (by decide) (by decide) (by decide), uZ_s]
    have z26 : uZ z' 12 0 26 = nI (prl (pfl L)) := by
      rw [uZ_n (by decide)]
      exact q3.2.2.1
    obtain ⟨t1, t2⟩ := ptakes q4 q3.2.2.2 q2 hc
    have rest : ∀ j, j ≠ 13 → j ≠ 14 → j ≠ 15 → j ≠ 16 → j ≠ 26 → j ≠ 27 → j ≠ 29 → j ≠ 25 → j ≠ 12 → uZ z' 12 0 j = tz0 z j := fun j a1 a2 a3 a4 a5 a6 a7 a8 a9 => by rw [uZ_n a9, q6.1 j a1 a2 a3 a4 a5 a6 a7, k3 j a1 a2 a3 a4, uZ_n a8]
    refine ⟨_, _, mtx_ok (k := 0) (by decide) q2 (rt _ _ _ (call _ q1)) (fun _ => takesLaw_r (d + 9) (prl (pfl L)) L.length (uZ z' 12 0) f' z25 z26 hc q2) (fun e => absurd rfl e), q2, (k4.tr q6.z).u (k := 12) (by decide), uZ_s, ?_, ?_, L, rfl, t1, t2, fun k hk => ?_, ?_, ?_, ?_, ?_⟩
    · rw [rest 32 (by decide) (by decide) (by decide) (by decide) (by decide) (by decide) (by decide) (by decide) (by decide)]
      exact t0_32.1
    · rw [rest 33 (by decide) (by decide) (by decide) (by decide) (by decide) (by decide) (by decide) (by decide) (by decide)]
      exact t0_32.2
    · rw [uA_ne (by omega), F2_o (by omega), F1_o (by omega), q6.2.1 k (by omega)]
    · rw [rest 3 (by decide) (by decide) (by decide) (by decide) (by decide) (by decide) (by decide) (by decide) (by decide)]
      exact t0_k (by decide)
    · rw [rest 34 (by decide) (by decide) (by decide) (by decide) (by decide) (by decide) (by decide) (by decide) (by decide)]
      exact t0_k (by decide)
    · rw [rest 36 (by decide) (by decide) (by decide) (by decide) (by decide) (by decide) (by decide) (by decide) (by decide)]
      exact t0_k (by decide)
    · rw [rest 38 (by decide) (by decide) (by decide) (by decide) (by decide) (by decide) (by decide) (by decide) (by decide)]
      exact t0_k (by decide)
end MT4
