/-! fresh objects hold the templates -/
def frC (n : Nat) : PH := [eO 11 [vR (n + 1), vR (n + 30), vI 0, vR (n + 59), vR (n + 79), vR (n + 83), vR (n + 95), vR (n + 99), vR (n + 86), vR (n + 89), vR (n + 92)], eO 10 [vR (n + 2), vR (n + 5), vR (n + 7), vR (n + 8)], eO 0 [vR (n + 3), vR (n + 4), vI 0, vI 0, vI 0, vI 0, vI 0, vI 0, vI 0, vI 0], eI 120 (fun _ => 0), eI 144 (fun _ => 0), eO 3 [vR (n + 6)], eI 750 (fun _ => 0), eR 2 4 (va_up (va_up (va_up (va_up (fun _ => none) (0 : Int32).toNatClampNeg (some (n + 9))) (1 : Int32).toNatClampNeg (some (n + 9))) (2 : Int32).toNatClampNeg (some (n + 9))) (3 : Int32).toNatClampNeg (some (n + 9))), eR 3 9 (va_up (va_up (va_up (va_up (va_up (va_up (va_up (va_up (va_up (fun _ => none) (0 : Int32).toNatClampNeg (some (n + 12))) (1 : Int32).toNatClampNeg (some (n + 14))) (2 : Int32).toNatClampNeg (some (n + 16))) (3 : Int32).toNatClampNeg (some (n + 18))) (4 : Int32).toNatClampNeg (some (n + 20))) (5 : Int32).toNatClampNeg (some (n + 22))) (6 : Int32).toNatClampNeg (some (n + 24))) (7 : Int32).toNatClampNeg (some (n + 26))) (8 : Int32).toNatClampNeg (some (n + 28))), eO 8 [vR (n + 10), vI 0, vR (n + 11)], eI 0 (fun _ => 0), eI 0 (fun _ => 0), eO 9 [vR (n + 13), vI 0], eI 6 (fun _ => 0), eO 9 [vR (n + 15), vI 0], eI 16 (fun _ => 0), eO 9 [vR (n + 17), vI 0], eI 15 (fun _ => 0), eO 9 [vR (n + 19), vI 0], eI 15 (fun _ => 0), eO 9 [vR (n + 21), vI 0], eI 8 (fun _ => 0), eO 9 [vR (n + 23), vI 0], eI 8 (fun _ => 0), eO 9 [vR (n + 25), vI 0], eI 12 (fun _ => 0), eO 9 [vR (n + 27), vI 0], eI 12 (fun _ => 0), eO 9 [vR (n + 29), vI 0], eI 12 (fun _ => 0), eO 10 [vR (n + 31), vR (n + 34), vR (n + 36), vR (n + 37)], eO 0 [vR (n + 32), vR (n + 33), vI 0, vI 0, vI 0, vI 0, vI 0, vI 0, vI 0, vI 0], eI 120 (fun _ => 0), eI 144 (fun _ => 0), eO 3 [vR (n + 35)], eI 750 (fun _ => 0), eR 2 4 (va_up (va_up (va_up (va_up (fun _ => none) (0 : Int32).toNatClampNeg (some (n + 38))) (1 : Int32).toNatClampNeg (some (n + 38))) (2 : Int32).toNatClampNeg (some (n + 38))) (3 : Int32).toNatClampNeg (some (n + 38))), eR 3 9 (va_up (va_up (va_up (va_up (va_up (va_up (va_up (va_up (va_up (fun _ => none) (0 : Int32).toNatClampNeg (some (n + 41))) (1 : Int32).toNatClampNeg (some (n + 43))) (2 : Int32).toNatClampNeg (some (n + 45))) (3 : Int32).toNatClampNeg (some (n + 47))) (4 : Int32).toNatClampNeg (some (n + 49))) (5 : Int32).toNatClampNeg (some (n + 51))) (6 : Int32).toNatClampNeg (some (n + 53))) (7 : Int32).toNatClampNeg (some (n + 55))) (8 : Int32).toNatClampNeg (some (n + 57))), eO 8 [vR (n + 39), vI 0, vR (n + 40)], eI 0 (fun _ => 0), eI 0 (fun _ => 0), eO 9 [vR (n + 42), vI 0], eI 6 (fun _ => 0), eO 9 [vR (n + 44), vI 0], eI 16 (fun _ => 0), eO 9 [vR (n + 46), vI 0], eI 15 (fun _ => 0), eO 9 [vR (n + 48), vI 0], eI 15 (fun _ => 0), eO 9 [vR (n + 50), vI 0], eI 8 (fun _ => 0), eO 9 [vR (n + 52), vI 0], eI 8 (fun _ => 0), eO 9 [vR (n + 54), vI 0], eI 12 (fun _ => 0), eO 9 [vR (n + 56), vI 0], eI 12 (fun _ => 0), eO 9 [vR (n + 58), vI 0], eI 12 (fun _ => 0), eO 7 [vR (n + 60), vI 0, vI 0], eR 1 6 (va_up (va_up (va_up (va_up (va_up (va_up (fun _ => none) (0 : Int32).toNatClampNeg (some (n + 61))) (1 : Int32).toNatClampNeg (some (n + 64))) (2 : Int32).toNatClampNeg (some (n + 67))) (3 : Int32).toNatClampNeg (some (n + 70))) (4 : Int32).toNatClampNeg (some (n + 73))) (5 : Int32).toNatClampNeg (some (n + 76))), eO 0 [vR (n + 62), vR (n + 63), vI 0, vI 0, vI 0, vI 0, vI 0, vI 0, vI 0, vI 0], eI 120 (fun _ => 0), eI 144 (fun _ => 0), eO 0 [vR (n + 65), vR (n + 66), vI 0, vI 0, vI 0, vI 0, vI 0, vI 0, vI 0, vI 0], eI 120 (fun _ => 0), eI 144 (fun _ => 0), eO 0 [vR (n + 68), vR (n + 69), vI 0, vI 0, vI 0, vI 0, vI 0, vI 0, vI 0, vI 0], eI 120 (fun _ => 0), eI 144 (fun _ => 0), eO 0 [vR (n + 71), vR (n + 72), vI 0, vI 0, vI 0, vI 0, vI 0, vI 0, vI 0, vI 0], eI 120 (fun _ => 0), eI 144 (fun _ => 0), eO 0 [vR (n + 74), vR (n + 75), vI 0, vI 0, vI 0, vI 0, vI 0, vI 0, vI 0, vI 0], eI 120 (fun _ => 0), eI 144 (fun _ => 0), eO 0 [vR (n + 77), vR (n + 78), vI 0, vI 0, vI 0, vI 0, vI 0, vI 0, vI 0, vI 0], eI 120 (fun _ => 0), eI 144 (fun _ => 0), eO 5 [vR (n + 80), vI 0, vI 0, vI 0, vI 0, vI 2, vI 0, vI 0, vI ((-1)), vI 0, vR (n + 81), vI 0, vR (n + 82), vI 0], eI 400 (fun _ => 0), eI 80 (fun _ => 0), eI 400 (fun _ => 0), eO 0 [vR (n + 84), vR (n + 85), vI 0, vI 0, vI 0, vI 0, vI 0, vI 0, vI 0, vI 0], eI 120 (fun _ => 0), eI 144 (fun _ => 0), eO 6 [vR (n + 87), vR (n + 88), vI 0, vI 0], eI 144 (fun _ => 0), eI 144 (fun _ => 0), eO 4 [vR (n + 90), vR (n + 91)], eI 401 (fun _ => 0), eI 401 (fun _ => 0), eO 2 [vR (n + 93), vR (n + 94), vI 0, vI 0], eI 1231 (fun _ => 0), eI 9 (fun _ => 0), eO 1 [vR (n + 2), vR (n + 7), vR (n + 5), vR (n + 96), vR (n + 97), vR (n + 98)], eI 10 (fun _ => 0), eI 32 (fun _ => 0), eI 100 (fun _ => 0), eO 1 [vR (n + 83), vR (n + 7), vN, vR (n + 100), vR (n + 101), vR (n + 102)], eI 10 (fun _ => 0), eI 32 (fun _ => 0), eI 100 (fun _ => 0)]
def frM (n : Nat) (wf : Nat → Int32) : PH := [eO 12 [vI 0, vR (n + 1), vR (n + 2), vI 0, vR (n + 3), vI 0, vI 0, vR (n + 4), vR (n + 5), vR (n + 6), vR (n + 7), vR (n + 8), vI 0, vI 0, vI 0, vI 0, vI 0, vR (n + 9), vR (n + 10), vR (n + 11), vR (n + 12), vR (n + 13), vR (n + 14), vR (n + 15), vR (n + 16), vI 0, vI 0, vI 0, vR (n + 17), vI 0, vI 0, vI 0, vI 0, vI ((-1)), vI 0, vR (n + 18), vI 0, vR (n + 19), vI 0, vR (n + 20), vR (n + 21), vR (n + 22), vR (n + 23), vI 0, vR (n + 24), vR (n + 25), vI 0, vR (n + 26), vR (n + 27), vR (n + 28), vI 0, vR (n + 29), vI 0, vR (n + 30), vI 0, vR (n + 31), vR (n + 32), vI 0, vR (n + 33), vR (n + 34), vR (n + 35), vI 0, vR (n + 36), vI 0, vR (n + 37), vI 0, vR (n + 38), vR (n + 39), vR (n + 40), vR (n + 41), vI 0, vI 0, vI 0, vI 0, vI 0, vR (n + 42)], eI 499 (fun _ => 0), eI 2994 (fun _ => 0), eI 499 (fun _ => 0), eI 20 (fun _ => 0), eI 20 (fun _ => 0), eI 20 (fun _ => 0), eI 750 (fun _ => 0), eI 400 (fun _ => 0), eI 133 wf, eI 2 (fun _ => 0), eI 48 (fun _ => 0), eI 48 (fun _ => 0), eI 48 (fun _ => 0), eI 48 (fun _ => 0), eI 1200 (fun _ => 0), eI 1200 (fun _ => 0), eI 40 (fun _ => 0), eI 96 (fun _ => 0), eI 160 (fun _ => 0), eI 40 (fun _ => 0), eI 10 (fun _ => 0), eI 420 (fun _ => 0), eI 144 (fun _ => 0), eI 6 (fun _ => 0), eI 6 (fun _ => 0), eI 16 (fun _ => 0), eI 153 (fun _ => 0), eI 153 (fun _ => 0), eI 15 (fun _ => 0), eI 15 (fun _ => 0), eI 8 (fun _ => 0), eI 401 (fun _ => 0), eI 8 (fun _ => 0), eI 8 (fun _ => 0), eI 256 (fun _ => 0), eI 12 (fun _ => 0), eI 8 (fun _ => 0), eI 8 (fun _ => 0), eI 256 (fun _ => 0), eI 19683 (fun _ => 0), eI 9 (fun _ => 0), eI 2900 (fun _ => 0)]
def seg0 (sg : List (Nat × Nat × Nat)) : Bool := match sg with
  | [] => true
  | s :: t => (Nat.ble s.2.1 2147483648 && Nat.ble 2147483648 s.2.2) && seg0 t
theorem inb_0 {lo hi : Nat} (h1 : lo ≤ 2147483648) (h2 : 2147483648 ≤ hi) : inb lo hi (0 : Int32) := by
  unfold inb
  rw [show ky (0 : Int32) = 2147483648 by decide]
  exact ⟨h1, h2⟩
theorem seg0_ok {sg : List (Nat × Nat × Nat)} (h : seg0 sg = true) : SegOK sg (fun _ => (0 : Int32)) := by
  induction sg with
  | nil => trivial
  | cons s t ih =>
    have h : ((Nat.ble s.2.1 2147483648 && Nat.ble 2147483648 s.2.2) && seg0 t) = true := h
    rw [Bool.and_eq_true, Bool.and_eq_true, Nat.ble_eq, Nat.ble_eq] at h
    exact ⟨fun j _ => inb_0 h.1.1 h.1.2, ih h.2⟩
/-- the reference, fresh -/
def zM : Nat → Int32 := fun j => if j = 33 then -1 else 0
def fM (wf : Nat → Int32) : Nat → FA := fun k => if k = 9 then wf else fun _ => 0
theorem zM_b : BNDz zM := by
  intro e he
  have key : ∀ e, e ∈ FBl → e.1 ≠ 33 ∧ e.2.1 ≤ 2147483648 ∧ 2147483648 ≤ e.2.2 := by decide
  obtain ⟨h1, h2, h3⟩ := key e he
  show inb e.2.1 e.2.2 (if e.1 = 33 then -1 else 0)
  rw [if_neg h1]
  exact inb_0 h2 h3
theorem z0_b : BNDz (fun _ => 0) := by
  intro e he
  have key : ∀ e, e ∈ FBl → e.2.1 ≤ 2147483648 ∧ 2147483648 ≤ e.2.2 := by decide
  obtain ⟨h2, h3⟩ := key e he
  exact inb_0 h2 h3
theorem LK_0 : LK (fun _ => (0 : Int32)) := fun _ _ _ => rfl
theorem PRD_z {p : Nat} (hp : p = 0 ∨ p = 1 ∨ p = 2) : PRD [] p (fun _ => (0 : Int32)) := by
  rcases hp with rfl | rfl | rfl
  · exact PRD_0
  · unfold PRD; rw [if_pos rfl]; exact LK_0
  · unfold PRD; rw [if_neg (by decide), if_pos rfl]; exact fun _ _ => LK_0
theorem sg_0 : ∀ k, k < 43 → seg0 (sgOf k) = true ∧ (pOf k = 0 ∨ pOf k = 1 ∨ pOf k = 2) := by decide +kernel
theorem f0_b : BNDf (fun _ _ => 0) := fun k _ h2 => ⟨seg0_ok (sg_0 k (by omega)).1, PRD_z (sg_0 k (by omega)).2⟩
theorem fM_b (wf : Nat → Int32) : BNDf (fM wf) := by
  intro k h1 h2
  by_cases c : k = 9
  · subst c
    exact ⟨⟨fun j _ => inb_top _, trivial⟩, PRD_0⟩
  · have e : fM wf k = fun _ => 0 := if_neg c
    rw [e]
    exact f0_b k h1 h2
theorem LWF_0 {f : Nat → FA} (h : f 10 0 = 0) : LWF f := ⟨0, h, by omega, fun l hl => absurd hl (by omega)⟩
theorem DD_0 : DD (fun _ => (0 : Int32)) := fun j _ e => absurd (show (0 : Int32) = 1 from e) (by decide)
theorem IMG_0 : IMG (fun _ => (0 : Int32)) := by
  refine ⟨fun p hp => ?_, LK_0, LWF_0 rfl, DD_0⟩
  have h1 := (lay_rows p hp).1
  generalize layp p = q at *
  obtain ⟨r, j⟩ := q
  by_cases c : r = 0
  · subst c
    rw [tb_0, RDs_0]
    exact fbAt_ok z0_b j
  · rw [tb_r c, RDs_r c]
    exact SegOK_at (f0_b r (by omega) (by have : r ≤ 38 := h1; omega)).1 j
theorem EXF_0 {wf : Nat → Int32} (hw : wf 132 = 32) : EXF (fM wf) := ⟨hw, LWF_0 rfl, DD_0, IMG_0⟩
def lamM (n : Nat) : Nat → Nat := fun k => n + k
theorem lamM_i (n : Nat) : LbI (lamM n) 43 := fun i _ j _ e => Nat.add_left_cancel e
theorem lamM_r (n : Nat) : LAMR (lamM n) := fun _ _ _ e => Nat.add_left_cancel e
theorem at_r {h0 L L1 : PH} {n k : Nat} {x : PE} (hn : h0.length = n) (hx : L[k]? = some x) : (h0 ++ (L ++ L1))[n + k]? = some x := by
  have hk : k < L.length := (List.getElem?_eq_some_iff.mp hx).1
  rw [List.getElem?_append_right (by omega), show n + k - h0.length = k by omega, List.getElem?_append_left hk]
  exact hx
theorem LR_fresh {h0 L1 : PH} {n : Nat} {wf : Nat → Int32} (hn : h0.length = n) : Rep rdF (h0 ++ (frM n wf ++ L1)) (lamM n) 43 (LR zM (fM wf)) (h0 ++ (frM n wf ++ L1)) := by
  refine ⟨rfl, ?_, rfl, fun _ _ => rfl⟩
  intro k x hx
  have hk : k < 43 := (List.getElem?_eq_some_iff.mp hx).1
  match k, hk, hx with
  | 0, _, hx => have hx := Option.some.inj hx; subst hx; exact at_r (L := frM n wf) hn rfl
  | 1, _, hx => have hx := Option.some.inj hx; subst hx; exact at_r (L := frM n wf) hn rfl
  | 2, _, hx => have hx := Option.some.inj hx; subst hx; exact at_r (L := frM n wf) hn rfl
  | 3, _, hx => have hx := Option.some.inj hx; subst hx; exact at_r (L := frM n wf) hn rfl
  | 4, _, hx => have hx := Option.some.inj hx; subst hx; exact at_r (L := frM n wf) hn rfl
  | 5, _, hx => have hx := Option.some.inj hx; subst hx; exact at_r (L := frM n wf) hn rfl
  | 6, _, hx => have hx := Option.some.inj hx; subst hx; exact at_r (L := frM n wf) hn rfl
  | 7, _, hx => have hx := Option.some.inj hx; subst hx; exact at_r (L := frM n wf) hn rfl
  | 8, _, hx => have hx := Option.some.inj hx; subst hx; exact at_r (L := frM n wf) hn rfl
  | 9, _, hx => have hx := Option.some.inj hx; subst hx; exact at_r (L := frM n wf) hn rfl
  | 10, _, hx => have hx := Option.some.inj hx; subst hx; exact at_r (L := frM n wf) hn rfl
  | 11, _, hx => have hx := Option.some.inj hx; subst hx; exact at_r (L := frM n wf) hn rfl
  | 12, _, hx => have hx := Option.some.inj hx; subst hx; exact at_r (L := frM n wf) hn rfl
  | 13, _, hx => have hx := Option.some.inj hx; subst hx; exact at_r (L := frM n wf) hn rfl
  | 14, _, hx => have hx := Option.some.inj hx; subst hx; exact at_r (L := frM n wf) hn rfl
  | 15, _, hx => have hx := Option.some.inj hx; subst hx; exact at_r (L := frM n wf) hn rfl
  | 16, _, hx => have hx := Option.some.inj hx; subst hx; exact at_r (L := frM n wf) hn rfl
  | 17, _, hx => have hx := Option.some.inj hx; subst hx; exact at_r (L := frM n wf) hn rfl
  | 18, _, hx => have hx := Option.some.inj hx; subst hx; exact at_r (L := frM n wf) hn rfl
  | 19, _, hx => have hx := Option.some.inj hx; subst hx; exact at_r (L := frM n wf) hn rfl
  | 20, _, hx => have hx := Option.some.inj hx; subst hx; exact at_r (L := frM n wf) hn rfl
  | 21, _, hx => have hx := Option.some.inj hx; subst hx; exact at_r (L := frM n wf) hn rfl
  | 22, _, hx => have hx := Option.some.inj hx; subst hx; exact at_r (L := frM n wf) hn rfl
  | 23, _, hx => have hx := Option.some.inj hx; subst hx; exact at_r (L := frM n wf) hn rfl
  | 24, _, hx => have hx := Option.some.inj hx; subst hx; exact at_r (L := frM n wf) hn rfl
  | 25, _, hx => have hx := Option.some.inj hx; subst hx; exact at_r (L := frM n wf) hn rfl
  | 26, _, hx => have hx := Option.some.inj hx; subst hx; exact at_r (L := frM n wf) hn rfl
  | 27, _, hx => have hx := Option.some.inj hx; subst hx; exact at_r (L := frM n wf) hn rfl
  | 28, _, hx => have hx := Option.some.inj hx; subst hx; exact at_r (L := frM n wf) hn rfl
  | 29, _, hx => have hx := Option.some.inj hx; subst hx; exact at_r (L := frM n wf) hn rfl
  | 30, _, hx => have hx := Option.some.inj hx; subst hx; exact at_r (L := frM n wf) hn rfl
  | 31, _, hx => have hx := Option.some.inj hx; subst hx; exact at_r (L := frM n wf) hn rfl
  | 32, _, hx => have hx := Option.some.inj hx; subst hx; exact at_r (L := frM n wf) hn rfl
  | 33, _, hx => have hx := Option.some.inj hx; subst hx; exact at_r (L := frM n wf) hn rfl
  | 34, _, hx => have hx := Option.some.inj hx; subst hx; exact at_r (L := frM n wf) hn rfl
  | 35, _, hx => have hx := Option.some.inj hx; subst hx; exact at_r (L := frM n wf) hn rfl
  | 36, _, hx => have hx := Option.some.inj hx; subst hx; exact at_r (L := frM n wf) hn rfl
  | 37, _, hx => have hx := Option.some.inj hx; subst hx; exact at_r (L := frM n wf) hn rfl
  | 38, _, hx => have hx := Option.some.inj hx; subst hx; exact at_r (L := frM n wf) hn rfl
  | 39, _, hx => have hx := Option.some.inj hx; subst hx; exact at_r (L := frM n wf) hn rfl
  | 40, _, hx => have hx := Option.some.inj hx; subst hx; exact at_r (L := frM n wf) hn rfl
  | 41, _, hx => have hx := Option.some.inj hx; subst hx; exact at_r (L := frM n wf) hn rfl
  | 42, _, hx => have hx := Option.some.inj hx; subst hx; exact at_r (L := frM n wf) hn rfl
theorem M_fresh {h0 L1 : PH} {n : Nat} {wf : Nat → Int32} (hn : h0.length = n) (hw : wf 132 = 32) : HOK (lamM n) [] TRf (h0 ++ (frM n wf ++ L1)) ∧ EXR (lamM n) (h0 ++ (frM n wf ++ L1)) := ⟨HOK_of (LR_fresh hn) zM_b (fM_b wf), EXR_of (LR_fresh hn) (EXF_0 hw)⟩
/-- the class, fresh: all texts are one, in either world -/
def mpC (k : Nat) : Nat := if k < 103 then k else if k < 115 then 9 + (k - 103) % 3 else 38 + (k - 115) % 3
def lamC (n : Nat) : Nat → Nat := fun k => n + mpC k
theorem lamC_r (n : Nat) : LAMC (lamC n) := by
  intro k hk k' e
  have e : mpC k = mpC k' := Nat.add_left_cancel e
  have h1 : (Nat.blt k 103 && !(Nat.beq k 9 || Nat.beq k 10 || Nat.beq k 11 || Nat.beq k 38 || Nat.beq k 39 || Nat.beq k 40)) = true := hk
  simp only [Bool.and_eq_true, Nat.blt_eq, Bool.not_eq_true', Bool.or_eq_false_iff] at h1
  obtain ⟨h2, ⟨⟨⟨⟨h3, h4⟩, h5⟩, h6⟩, h7⟩, h8⟩ := h1
  have b : ∀ a : Nat, Nat.beq k a = false → k ≠ a := fun a h q => by
    rw [q] at h
    have : Nat.beq a a = true := by rw [Nat.beq_eq]
    rw [this] at h
    cases h
  have b3 := b _ h3
  have b4 := b _ h4
  have b5 := b _ h5
  have b6 := b _ h6
  have b7 := b _ h7
  have b8 := b _ h8
  have ek : mpC k = k := if_pos h2
  rw [ek] at e
  unfold mpC at e
  split at e
  · exact e
  · split at e
    · omega
    · omega
theorem C_fresh {h0 L1 : PH} {n : Nat} (hn : h0.length = n) : HOK (lamC n) [] (TBc 0) (h0 ++ (frC n ++ L1)) := by
  intro k c hk
  have h127 : k < 127 := by
    rw [nth_eq] at hk
    have h1 := (List.getElem?_eq_some_iff.mp hk).1
    have h2 : (TBc 0).length = 127 := by decide +kernel
    omega
  match k, h127, hk with
  | 0, _, hk =>
    have hk := Option.some.inj hk
    subst hk
    exact ⟨_, at_r (L := frC n) hn (k := 0) rfl, _, rfl, rfl, rfl, ⟨0, rfl, inb_0 (by decide) (by decide)⟩, rfl, rfl, rfl, rfl, rfl, rfl, rfl, rfl, trivial⟩
  | 1, _, hk =>
    have hk := Option.some.inj hk
    subst hk
    exact ⟨_, at_r (L := frC n) hn (k := 1) rfl, _, rfl, rfl, rfl, rfl, rfl, trivial⟩
  | 2, _, hk =>
    have hk := Option.some.inj hk
    subst hk
    exact ⟨_, at_r (L := frC n) hn (k := 2) rfl, _, rfl, rfl, rfl, ⟨_, rfl, inb_top _⟩, ⟨_, rfl, inb_top _⟩, ⟨_, rfl, inb_top _⟩, ⟨_, rfl, inb_top _⟩, ⟨_, rfl, inb_top _⟩, ⟨_, rfl, inb_top _⟩, ⟨_, rfl, inb_top _⟩, ⟨_, rfl, inb_top _⟩, trivial⟩
  | 3, _, hk =>
    have hk := Option.some.inj hk
    subst hk
    exact ⟨_, at_r (L := frC n) hn (k := 3) rfl, 120, (fun _ => 0), rfl, by decide, ⟨_, val_c (by decide), by decide⟩, seg0_ok (by decide), PRD_0⟩
  | 4, _, hk =>
    have hk := Option.some.inj hk
    subst hk
    exact ⟨_, at_r (L := frC n) hn (k := 4) rfl, 144, (fun _ => 0), rfl, by decide, ⟨_, val_c (by decide), by decide⟩, seg0_ok (by decide), PRD_0⟩
  | 5, _, hk =>
    have hk := Option.some.inj hk
    subst hk
    exact ⟨_, at_r (L := frC n) hn (k := 5) rfl, _, rfl, rfl, trivial⟩
  | 6, _, hk =>
    have hk := Option.some.inj hk
    subst hk
    exact ⟨_, at_r (L := frC n) hn (k := 6) rfl, 750, (fun _ => 0), rfl, by decide, ⟨_, val_c (by decide), by decide⟩, seg0_ok (by decide), PRD_0⟩
  | 7, _, hk =>
    have hk := Option.some.inj hk
    subst hk
    exact ⟨_, at_r (L := frC n) hn (k := 7) rfl, _, rfl, fun j o hj => (match j, hj with
    | 0, hj => by have hj := Option.some.inj hj; subst hj; rfl
    | 1, hj => by have hj := Option.some.inj hj; subst hj; rfl
    | 2, hj => by have hj := Option.some.inj hj; subst hj; rfl
    | 3, hj => by have hj := Option.some.inj hj; subst hj; rfl
    | _ + 4, hj => by cases hj)⟩
  | 8, _, hk =>
    have hk := Option.some.inj hk
    subst hk
    exact ⟨_, at_r (L := frC n) hn (k := 8) rfl, _, rfl, fun j o hj => (match j, hj with
    | 0, hj => by have hj := Option.some.inj hj; subst hj; rfl
    | 1, hj => by have hj := Option.some.inj hj; subst hj; rfl
    | 2, hj => by have hj := Option.some.inj hj; subst hj; rfl
    | 3, hj => by have hj := Option.some.inj hj; subst hj; rfl
    | 4, hj => by have hj := Option.some.inj hj; subst hj; rfl
    | 5, hj => by have hj := Option.some.inj hj; subst hj; rfl
    | 6, hj => by have hj := Option.some.inj hj; subst hj; rfl
    | 7, hj => by have hj := Option.some.inj hj; subst hj; rfl
    | 8, hj => by have hj := Option.some.inj hj; subst hj; rfl
    | _ + 9, hj => by cases hj)⟩
  | 9, _, hk =>
    have hk := Option.some.inj hk
    subst hk
    exact ⟨_, at_r (L := frC n) hn (k := 9) rfl, _, rfl, rfl, ⟨0, rfl, inb_0 (by decide) (by decide)⟩, rfl, trivial⟩
  | 10, _, hk =>
    have hk := Option.some.inj hk
    subst hk
    exact ⟨_, at_r (L := frC n) hn (k := 10) rfl, 0, (fun _ => 0), rfl, by decide, ⟨_, val_c (by decide), by decide⟩, seg0_ok (by decide), PRD_0⟩
  | 11, _, hk =>
    have hk := Option.some.inj hk
    subst hk
    exact ⟨_, at_r (L := frC n) hn (k := 11) rfl, 0, (fun _ => 0), rfl, by decide, ⟨_, val_c (by decide), by decide⟩, seg0_ok (by decide), PRD_0⟩
  | 12, _, hk =>
    have hk := Option.some.inj hk
    subst hk
    exact ⟨_, at_r (L := frC n) hn (k := 12) rfl, _, rfl, rfl, ⟨0, rfl, inb_0 (by decide) (by decide)⟩, trivial⟩
  | 13, _, hk =>
    have hk := Option.some.inj hk
    subst hk
    exact ⟨_, at_r (L := frC n) hn (k := 13) rfl, 6, (fun _ => 0), rfl, by decide, ⟨_, val_c (by decide), by decide⟩, seg0_ok (by decide), PRD_0⟩
  | 14, _, hk =>
    have hk := Option.some.inj hk
    subst hk
    exact ⟨_, at_r (L := frC n) hn (k := 14) rfl, _, rfl, rfl, ⟨0, rfl, inb_0 (by decide) (by decide)⟩, trivial⟩
  | 15, _, hk =>
    have hk := Option.some.inj hk
    subst hk
    exact ⟨_, at_r (L := frC n) hn (k := 15) rfl, 16, (fun _ => 0), rfl, by decide, ⟨_, val_c (by decide), by decide⟩, seg0_ok (by decide), PRD_0⟩
  | 16, _, hk =>
    have hk := Option.some.inj hk
    subst hk
    exact ⟨_, at_r (L := frC n) hn (k := 16) rfl, _, rfl, rfl, ⟨0, rfl, inb_0 (by decide) (by decide)⟩, trivial⟩
  | 17, _, hk =>
    have hk := Option.some.inj hk
    subst hk
    exact ⟨_, at_r (L := frC n) hn (k := 17) rfl, 15, (fun _ => 0), rfl, by decide, ⟨_, val_c (by decide), by decide⟩, seg0_ok (by decide), PRD_0⟩
  | 18, _, hk =>
    have hk := Option.some.inj hk
    subst hk
    exact ⟨_, at_r (L := frC n) hn (k := 18) rfl, _, rfl, rfl, ⟨0, rfl, inb_0 (by decide) (by decide)⟩, trivial⟩
  | 19, _, hk =>
    have hk := Option.some.inj hk
    subst hk
    exact ⟨_, at_r (L := frC n) hn (k := 19) rfl, 15, (fun _ => 0), rfl, by decide, ⟨_, val_c (by decide), by decide⟩, seg0_ok (by decide), PRD_0⟩
  | 20, _, hk =>
    have hk := Option.some.inj hk
    subst hk
    exact ⟨_, at_r (L := frC n) hn (k := 20) rfl, _, rfl, rfl, ⟨0, rfl, inb_0 (by decide) (by decide)⟩, trivial⟩
  | 21, _, hk =>
    have hk := Option.some.inj hk
    subst hk
    exact ⟨_, at_r (L := frC n) hn (k := 21) rfl, 8, (fun _ => 0), rfl, by decide, ⟨_, val_c (by decide), by decide⟩, seg0_ok (by decide), PRD_0⟩
  | 22, _, hk =>
    have hk := Option.some.inj hk
    subst hk
    exact ⟨_, at_r (L := frC n) hn (k := 22) rfl, _, rfl, rfl, ⟨0, rfl, inb_0 (by decide) (by decide)⟩, trivial⟩
  | 23, _, hk =>
    have hk := Option.some.inj hk
    subst hk
    exact ⟨_, at_r (L := frC n) hn (k := 23) rfl, 8, (fun _ => 0), rfl, by decide, ⟨_, val_c (by decide), by decide⟩, seg0_ok (by decide), PRD_0⟩
  | 24, _, hk =>
    have hk := Option.some.inj hk
    subst hk
    exact ⟨_, at_r (L := frC n) hn (k := 24) rfl, _, rfl, rfl, ⟨0, rfl, inb_0 (by decide) (by decide)⟩, trivial⟩
  | 25, _, hk =>
    have hk := Option.some.inj hk
    subst hk
    exact ⟨_, at_r (L := frC n) hn (k := 25) rfl, 12, (fun _ => 0), rfl, by decide, ⟨_, val_c (by decide), by decide⟩, seg0_ok (by decide), PRD_0⟩
  | 26, _, hk =>
    have hk := Option.some.inj hk
    subst hk
    exact ⟨_, at_r (L := frC n) hn (k := 26) rfl, _, rfl, rfl, ⟨0, rfl, inb_0 (by decide) (by decide)⟩, trivial⟩
  | 27, _, hk =>
    have hk := Option.some.inj hk
    subst hk
    exact ⟨_, at_r (L := frC n) hn (k := 27) rfl, 12, (fun _ => 0), rfl, by decide, ⟨_, val_c (by decide), by decide⟩, seg0_ok (by decide), PRD_0⟩
  | 28, _, hk =>
    have hk := Option.some.inj hk
    subst hk
    exact ⟨_, at_r (L := frC n) hn (k := 28) rfl, _, rfl, rfl, ⟨0, rfl, inb_0 (by decide) (by decide)⟩, trivial⟩
  | 29, _, hk =>
    have hk := Option.some.inj hk
    subst hk
    exact ⟨_, at_r (L := frC n) hn (k := 29) rfl, 12, (fun _ => 0), rfl, by decide, ⟨_, val_c (by decide), by decide⟩, seg0_ok (by decide), PRD_0⟩
  | 30, _, hk =>
    have hk := Option.some.inj hk
    subst hk
    exact ⟨_, at_r (L := frC n) hn (k := 30) rfl, _, rfl, rfl, rfl, rfl, rfl, trivial⟩
  | 31, _, hk =>
    have hk := Option.some.inj hk
    subst hk
    exact ⟨_, at_r (L := frC n) hn (k := 31) rfl, _, rfl, rfl, rfl, ⟨_, rfl, inb_top _⟩, ⟨_, rfl, inb_top _⟩, ⟨_, rfl, inb_top _⟩, ⟨_, rfl, inb_top _⟩, ⟨_, rfl, inb_top _⟩, ⟨_, rfl, inb_top _⟩, ⟨_, rfl, inb_top _⟩, ⟨_, rfl, inb_top _⟩, trivial⟩
  | 32, _, hk =>
    have hk := Option.some.inj hk
    subst hk
    exact ⟨_, at_r (L := frC n) hn (k := 32) rfl, 120, (fun _ => 0), rfl, by decide, ⟨_, val_c (by decide), by decide⟩, seg0_ok (by decide), PRD_0⟩
  | 33, _, hk =>
    have hk := Option.some.inj hk
    subst hk
    exact ⟨_, at_r (L := frC n) hn (k := 33) rfl, 144, (fun _ => 0), rfl, by decide, ⟨_, val_c (by decide), by decide⟩, seg0_ok (by decide), PRD_0⟩
  | 34, _, hk =>
    have hk := Option.some.inj hk
    subst hk
    exact ⟨_, at_r (L := frC n) hn (k := 34) rfl, _, rfl, rfl, trivial⟩
  | 35, _, hk =>
    have hk := Option.some.inj hk
    subst hk
    exact ⟨_, at_r (L := frC n) hn (k := 35) rfl, 750, (fun _ => 0), rfl, by decide, ⟨_, val_c (by decide), by decide⟩, seg0_ok (by decide), PRD_0⟩
  | 36, _, hk =>
    have hk := Option.some.inj hk
    subst hk
    exact ⟨_, at_r (L := frC n) hn (k := 36) rfl, _, rfl, fun j o hj => (match j, hj with
    | 0, hj => by have hj := Option.some.inj hj; subst hj; rfl
    | 1, hj => by have hj := Option.some.inj hj; subst hj; rfl
    | 2, hj => by have hj := Option.some.inj hj; subst hj; rfl
    | 3, hj => by have hj := Option.some.inj hj; subst hj; rfl
    | _ + 4, hj => by cases hj)⟩
  | 37, _, hk =>
    have hk := Option.some.inj hk
    subst hk
    exact ⟨_, at_r (L := frC n) hn (k := 37) rfl, _, rfl, fun j o hj => (match j, hj with
    | 0, hj => by have hj := Option.some.inj hj; subst hj; rfl
    | 1, hj => by have hj := Option.some.inj hj; subst hj; rfl
    | 2, hj => by have hj := Option.some.inj hj; subst hj; rfl
    | 3, hj => by have hj := Option.some.inj hj; subst hj; rfl
    | 4, hj => by have hj := Option.some.inj hj; subst hj; rfl
    | 5, hj => by have hj := Option.some.inj hj; subst hj; rfl
    | 6, hj => by have hj := Option.some.inj hj; subst hj; rfl
    | 7, hj => by have hj := Option.some.inj hj; subst hj; rfl
    | 8, hj => by have hj := Option.some.inj hj; subst hj; rfl
    | _ + 9, hj => by cases hj)⟩
  | 38, _, hk =>
    have hk := Option.some.inj hk
    subst hk
    exact ⟨_, at_r (L := frC n) hn (k := 38) rfl, _, rfl, rfl, ⟨0, rfl, inb_0 (by decide) (by decide)⟩, rfl, trivial⟩
  | 39, _, hk =>
    have hk := Option.some.inj hk
    subst hk
    exact ⟨_, at_r (L := frC n) hn (k := 39) rfl, 0, (fun _ => 0), rfl, by decide, ⟨_, val_c (by decide), by decide⟩, seg0_ok (by decide), PRD_0⟩
  | 40, _, hk =>
    have hk := Option.some.inj hk
    subst hk
    exact ⟨_, at_r (L := frC n) hn (k := 40) rfl, 0, (fun _ => 0), rfl, by decide, ⟨_, val_c (by decide), by decide⟩, seg0_ok (by decide), PRD_0⟩
  | 41, _, hk =>
    have hk := Option.some.inj hk
    subst hk
    exact ⟨_, at_r (L := frC n) hn (k := 41) rfl, _, rfl, rfl, ⟨0, rfl, inb_0 (by decide) (by decide)⟩, trivial⟩
  | 42, _, hk =>
    have hk := Option.some.inj hk
    subst hk
    exact ⟨_, at_r (L := frC n) hn (k := 42) rfl, 6, (fun _ => 0), rfl, by decide, ⟨_, val_c (by decide), by decide⟩, seg0_ok (by decide), PRD_0⟩
  | 43, _, hk =>
    have hk := Option.some.inj hk
    subst hk
    exact ⟨_, at_r (L := frC n) hn (k := 43) rfl, _, rfl, rfl, ⟨0, rfl, inb_0 (by decide) (by decide)⟩, trivial⟩
  | 44, _, hk =>
    have hk := Option.some.inj hk
    subst hk
    exact ⟨_, at_r (L := frC n) hn (k := 44) rfl, 16, (fun _ => 0), rfl, by decide, ⟨_, val_c (by decide), by decide⟩, seg0_ok (by decide), PRD_0⟩
  | 45, _, hk =>
    have hk := Option.some.inj hk
    subst hk
    exact ⟨_, at_r (L := frC n) hn (k := 45) rfl, _, rfl, rfl, ⟨0, rfl, inb_0 (by decide) (by decide)⟩, trivial⟩
  | 46, _, hk =>
    have hk := Option.some.inj hk
    subst hk
    exact ⟨_, at_r (L := frC n) hn (k := 46) rfl, 15, (fun _ => 0), rfl, by decide, ⟨_, val_c (by decide), by decide⟩, seg0_ok (by decide), PRD_0⟩
  | 47, _, hk =>
    have hk := Option.some.inj hk
    subst hk
    exact ⟨_, at_r (L := frC n) hn (k := 47) rfl, _, rfl, rfl, ⟨0, rfl, inb_0 (by decide) (by decide)⟩, trivial⟩
  | 48, _, hk =>
    have hk := Option.some.inj hk
    subst hk
    exact ⟨_, at_r (L := frC n) hn (k := 48) rfl, 15, (fun _ => 0), rfl, by decide, ⟨_, val_c (by decide), by decide⟩, seg0_ok (by decide), PRD_0⟩
  | 49, _, hk =>
    have hk := Option.some.inj hk
    subst hk
    exact ⟨_, at_r (L := frC n) hn (k := 49) rfl, _, rfl, rfl, ⟨0, rfl, inb_0 (by decide) (by decide)⟩, trivial⟩
  | 50, _, hk =>
    have hk := Option.some.inj hk
    subst hk
    exact ⟨_, at_r (L := frC n) hn (k := 50) rfl, 8, (fun _ => 0), rfl, by decide, ⟨_, val_c (by decide), by decide⟩, seg0_ok (by decide), PRD_0⟩
  | 51, _, hk =>
    have hk := Option.some.inj hk
    subst hk
    exact ⟨_, at_r (L := frC n) hn (k := 51) rfl, _, rfl, rfl, ⟨0, rfl, inb_0 (by decide) (by decide)⟩, trivial⟩
  | 52, _, hk =>
    have hk := Option.some.inj hk
    subst hk
    exact ⟨_, at_r (L := frC n) hn (k := 52) rfl, 8, (fun _ => 0), rfl, by decide, ⟨_, val_c (by decide), by decide⟩, seg0_ok (by decide), PRD_0⟩
  | 53, _, hk =>
    have hk := Option.some.inj hk
    subst hk
    exact ⟨_, at_r (L := frC n) hn (k := 53) rfl, _, rfl, rfl, ⟨0, rfl, inb_0 (by decide) (by decide)⟩, trivial⟩
  | 54, _, hk =>
    have hk := Option.some.inj hk
    subst hk
    exact ⟨_, at_r (L := frC n) hn (k := 54) rfl, 12, (fun _ => 0), rfl, by decide, ⟨_, val_c (by decide), by decide⟩, seg0_ok (by decide), PRD_0⟩
  | 55, _, hk =>
    have hk := Option.some.inj hk
    subst hk
    exact ⟨_, at_r (L := frC n) hn (k := 55) rfl, _, rfl, rfl, ⟨0, rfl, inb_0 (by decide) (by decide)⟩, trivial⟩
  | 56, _, hk =>
    have hk := Option.some.inj hk
    subst hk
    exact ⟨_, at_r (L := frC n) hn (k := 56) rfl, 12, (fun _ => 0), rfl, by decide, ⟨_, val_c (by decide), by decide⟩, seg0_ok (by decide), PRD_0⟩
  | 57, _, hk =>
    have hk := Option.some.inj hk
    subst hk
    exact ⟨_, at_r (L := frC n) hn (k := 57) rfl, _, rfl, rfl, ⟨0, rfl, inb_0 (by decide) (by decide)⟩, trivial⟩
  | 58, _, hk =>
    have hk := Option.some.inj hk
    subst hk
    exact ⟨_, at_r (L := frC n) hn (k := 58) rfl, 12, (fun _ => 0), rfl, by decide, ⟨_, val_c (by decide), by decide⟩, seg0_ok (by decide), PRD_0⟩
  | 59, _, hk =>
    have hk := Option.some.inj hk
    subst hk
    exact ⟨_, at_r (L := frC n) hn (k := 59) rfl, _, rfl, rfl, ⟨0, rfl, inb_0 (by decide) (by decide)⟩, ⟨0, rfl, inb_0 (by decide) (by decide)⟩, trivial⟩
  | 60, _, hk =>
    have hk := Option.some.inj hk
    subst hk
    exact ⟨_, at_r (L := frC n) hn (k := 60) rfl, _, rfl, fun j o hj => (match j, hj with
    | 0, hj => by have hj := Option.some.inj hj; subst hj; rfl
    | 1, hj => by have hj := Option.some.inj hj; subst hj; rfl
    | 2, hj => by have hj := Option.some.inj hj; subst hj; rfl
    | 3, hj => by have hj := Option.some.inj hj; subst hj; rfl
    | 4, hj => by have hj := Option.some.inj hj; subst hj; rfl
    | 5, hj => by have hj := Option.some.inj hj; subst hj; rfl
    | _ + 6, hj => by cases hj)⟩
  | 61, _, hk =>
    have hk := Option.some.inj hk
    subst hk
    exact ⟨_, at_r (L := frC n) hn (k := 61) rfl, _, rfl, rfl, rfl, ⟨_, rfl, inb_top _⟩, ⟨_, rfl, inb_top _⟩, ⟨_, rfl, inb_top _⟩, ⟨_, rfl, inb_top _⟩, ⟨_, rfl, inb_top _⟩, ⟨_, rfl, inb_top _⟩, ⟨_, rfl, inb_top _⟩, ⟨_, rfl, inb_top _⟩, trivial⟩
  | 62, _, hk =>
    have hk := Option.some.inj hk
    subst hk
    exact ⟨_, at_r (L := frC n) hn (k := 62) rfl, 120, (fun _ => 0), rfl, by decide, ⟨_, val_c (by decide), by decide⟩, seg0_ok (by decide), PRD_0⟩
  | 63, _, hk =>
    have hk := Option.some.inj hk
    subst hk
    exact ⟨_, at_r (L := frC n) hn (k := 63) rfl, 144, (fun _ => 0), rfl, by decide, ⟨_, val_c (by decide), by decide⟩, seg0_ok (by decide), PRD_0⟩
  | 64, _, hk =>
    have hk := Option.some.inj hk
    subst hk
    exact ⟨_, at_r (L := frC n) hn (k := 64) rfl, _, rfl, rfl, rfl, ⟨_, rfl, inb_top _⟩, ⟨_, rfl, inb_top _⟩, ⟨_, rfl, inb_top _⟩, ⟨_, rfl, inb_top _⟩, ⟨_, rfl, inb_top _⟩, ⟨_, rfl, inb_top _⟩, ⟨_, rfl, inb_top _⟩, ⟨_, rfl, inb_top _⟩, trivial⟩
  | 65, _, hk =>
    have hk := Option.some.inj hk
    subst hk
    exact ⟨_, at_r (L := frC n) hn (k := 65) rfl, 120, (fun _ => 0), rfl, by decide, ⟨_, val_c (by decide), by decide⟩, seg0_ok (by decide), PRD_0⟩
  | 66, _, hk =>
    have hk := Option.some.inj hk
    subst hk
    exact ⟨_, at_r (L := frC n) hn (k := 66) rfl, 144, (fun _ => 0), rfl, by decide, ⟨_, val_c (by decide), by decide⟩, seg0_ok (by decide), PRD_0⟩
  | 67, _, hk =>
    have hk := Option.some.inj hk
    subst hk
    exact ⟨_, at_r (L := frC n) hn (k := 67) rfl, _, rfl, rfl, rfl, ⟨_, rfl, inb_top _⟩, ⟨_, rfl, inb_top _⟩, ⟨_, rfl, inb_top _⟩, ⟨_, rfl, inb_top _⟩, ⟨_, rfl, inb_top _⟩, ⟨_, rfl, inb_top _⟩, ⟨_, rfl, inb_top _⟩, ⟨_, rfl, inb_top _⟩, trivial⟩
  | 68, _, hk =>
    have hk := Option.some.inj hk
    subst hk
    exact ⟨_, at_r (L := frC n) hn (k := 68) rfl, 120, (fun _ => 0), rfl, by decide, ⟨_, val_c (by decide), by decide⟩, seg0_ok (by decide), PRD_0⟩
  | 69, _, hk =>
    have hk := Option.some.inj hk
    subst hk
    exact ⟨_, at_r (L := frC n) hn (k := 69) rfl, 144, (fun _ => 0), rfl, by decide, ⟨_, val_c (by decide), by decide⟩, seg0_ok (by decide), PRD_0⟩
  | 70, _, hk =>
    have hk := Option.some.inj hk
    subst hk
    exact ⟨_, at_r (L := frC n) hn (k := 70) rfl, _, rfl, rfl, rfl, ⟨_, rfl, inb_top _⟩, ⟨_, rfl, inb_top _⟩, ⟨_, rfl, inb_top _⟩, ⟨_, rfl, inb_top _⟩, ⟨_, rfl, inb_top _⟩, ⟨_, rfl, inb_top _⟩, ⟨_, rfl, inb_top _⟩, ⟨_, rfl, inb_top _⟩, trivial⟩
  | 71, _, hk =>
    have hk := Option.some.inj hk
    subst hk
    exact ⟨_, at_r (L := frC n) hn (k := 71) rfl, 120, (fun _ => 0), rfl, by decide, ⟨_, val_c (by decide), by decide⟩, seg0_ok (by decide), PRD_0⟩
  | 72, _, hk =>
    have hk := Option.some.inj hk
    subst hk
    exact ⟨_, at_r (L := frC n) hn (k := 72) rfl, 144, (fun _ => 0), rfl, by decide, ⟨_, val_c (by decide), by decide⟩, seg0_ok (by decide), PRD_0⟩
  | 73, _, hk =>
    have hk := Option.some.inj hk
    subst hk
    exact ⟨_, at_r (L := frC n) hn (k := 73) rfl, _, rfl, rfl, rfl, ⟨_, rfl, inb_top _⟩, ⟨_, rfl, inb_top _⟩, ⟨_, rfl, inb_top _⟩, ⟨_, rfl, inb_top _⟩, ⟨_, rfl, inb_top _⟩, ⟨_, rfl, inb_top _⟩, ⟨_, rfl, inb_top _⟩, ⟨_, rfl, inb_top _⟩, trivial⟩
  | 74, _, hk =>
    have hk := Option.some.inj hk
    subst hk
    exact ⟨_, at_r (L := frC n) hn (k := 74) rfl, 120, (fun _ => 0), rfl, by decide, ⟨_, val_c (by decide), by decide⟩, seg0_ok (by decide), PRD_0⟩
  | 75, _, hk =>
    have hk := Option.some.inj hk
    subst hk
    exact ⟨_, at_r (L := frC n) hn (k := 75) rfl, 144, (fun _ => 0), rfl, by decide, ⟨_, val_c (by decide), by decide⟩, seg0_ok (by decide), PRD_0⟩
  | 76, _, hk =>
    have hk := Option.some.inj hk
    subst hk
    exact ⟨_, at_r (L := frC n) hn (k := 76) rfl, _, rfl, rfl, rfl, ⟨_, rfl, inb_top _⟩, ⟨_, rfl, inb_top _⟩, ⟨_, rfl, inb_top _⟩, ⟨_, rfl, inb_top _⟩, ⟨_, rfl, inb_top _⟩, ⟨_, rfl, inb_top _⟩, ⟨_, rfl, inb_top _⟩, ⟨_, rfl, inb_top _⟩, trivial⟩
  | 77, _, hk =>
    have hk := Option.some.inj hk
    subst hk
    exact ⟨_, at_r (L := frC n) hn (k := 77) rfl, 120, (fun _ => 0), rfl, by decide, ⟨_, val_c (by decide), by decide⟩, seg0_ok (by decide), PRD_0⟩
  | 78, _, hk =>
    have hk := Option.some.inj hk
    subst hk
    exact ⟨_, at_r (L := frC n) hn (k := 78) rfl, 144, (fun _ => 0), rfl, by decide, ⟨_, val_c (by decide), by decide⟩, seg0_ok (by decide), PRD_0⟩
  | 79, _, hk =>
    have hk := Option.some.inj hk
    subst hk
    exact ⟨_, at_r (L := frC n) hn (k := 79) rfl, _, rfl, rfl, ⟨0, rfl, inb_0 (by decide) (by decide)⟩, ⟨0, rfl, inb_0 (by decide) (by decide)⟩, ⟨0, rfl, inb_0 (by decide) (by decide)⟩, ⟨0, rfl, inb_0 (by decide) (by decide)⟩, ⟨_, rfl, inb_top _⟩, ⟨_, rfl, inb_top _⟩, ⟨_, rfl, inb_top _⟩, ⟨_, rfl, inb_top _⟩, ⟨_, rfl, inb_top _⟩, rfl, ⟨0, rfl, inb_0 (by decide) (by decide)⟩, rfl, ⟨0, rfl, inb_0 (by decide) (by decide)⟩, trivial⟩
  | 80, _, hk =>
    have hk := Option.some.inj hk
    subst hk
    exact ⟨_, at_r (L := frC n) hn (k := 80) rfl, 400, (fun _ => 0), rfl, by decide, ⟨_, val_c (by decide), by decide⟩, seg0_ok (by decide), PRD_0⟩
  | 81, _, hk =>
    have hk := Option.some.inj hk
    subst hk
    exact ⟨_, at_r (L := frC n) hn (k := 81) rfl, 80, (fun _ => 0), rfl, by decide, ⟨_, val_c (by decide), by decide⟩, seg0_ok (by decide), PRD_0⟩
  | 82, _, hk =>
    have hk := Option.some.inj hk
    subst hk
    exact ⟨_, at_r (L := frC n) hn (k := 82) rfl, 400, (fun _ => 0), rfl, by decide, ⟨_, val_c (by decide), by decide⟩, seg0_ok (by decide), PRD_0⟩
  | 83, _, hk =>
    have hk := Option.some.inj hk
    subst hk
    exact ⟨_, at_r (L := frC n) hn (k := 83) rfl, _, rfl, rfl, rfl, ⟨_, rfl, inb_top _⟩, ⟨_, rfl, inb_top _⟩, ⟨_, rfl, inb_top _⟩, ⟨_, rfl, inb_top _⟩, ⟨_, rfl, inb_top _⟩, ⟨_, rfl, inb_top _⟩, ⟨_, rfl, inb_top _⟩, ⟨_, rfl, inb_top _⟩, trivial⟩
  | 84, _, hk =>
    have hk := Option.some.inj hk
    subst hk
    exact ⟨_, at_r (L := frC n) hn (k := 84) rfl, 120, (fun _ => 0), rfl, by decide, ⟨_, val_c (by decide), by decide⟩, seg0_ok (by decide), PRD_0⟩
  | 85, _, hk =>
    have hk := Option.some.inj hk
    subst hk
    exact ⟨_, at_r (L := frC n) hn (k := 85) rfl, 144, (fun _ => 0), rfl, by decide, ⟨_, val_c (by decide), by decide⟩, seg0_ok (by decide), PRD_0⟩
  | 86, _, hk =>
    have hk := Option.some.inj hk
    subst hk
    exact ⟨_, at_r (L := frC n) hn (k := 86) rfl, _, rfl, rfl, rfl, ⟨0, rfl, inb_0 (by decide) (by decide)⟩, ⟨0, rfl, inb_0 (by decide) (by decide)⟩, trivial⟩
  | 87, _, hk =>
    have hk := Option.some.inj hk
    subst hk
    exact ⟨_, at_r (L := frC n) hn (k := 87) rfl, 144, (fun _ => 0), rfl, by decide, ⟨_, val_c (by decide), by decide⟩, seg0_ok (by decide), PRD_0⟩
  | 88, _, hk =>
    have hk := Option.some.inj hk
    subst hk
    exact ⟨_, at_r (L := frC n) hn (k := 88) rfl, 144, (fun _ => 0), rfl, by decide, ⟨_, val_c (by decide), by decide⟩, seg0_ok (by decide), PRD_0⟩
  | 89, _, hk =>
    have hk := Option.some.inj hk
    subst hk
    exact ⟨_, at_r (L := frC n) hn (k := 89) rfl, _, rfl, rfl, rfl, trivial⟩
  | 90, _, hk =>
    have hk := Option.some.inj hk
    subst hk
    exact ⟨_, at_r (L := frC n) hn (k := 90) rfl, 401, (fun _ => 0), rfl, by decide, ⟨_, val_c (by decide), by decide⟩, seg0_ok (by decide), PRD_0⟩
  | 91, _, hk =>
    have hk := Option.some.inj hk
    subst hk
    exact ⟨_, at_r (L := frC n) hn (k := 91) rfl, 401, (fun _ => 0), rfl, by decide, ⟨_, val_c (by decide), by decide⟩, seg0_ok (by decide), PRD_0⟩
  | 92, _, hk =>
    have hk := Option.some.inj hk
    subst hk
    exact ⟨_, at_r (L := frC n) hn (k := 92) rfl, _, rfl, rfl, rfl, ⟨_, rfl, inb_top _⟩, ⟨_, rfl, inb_top _⟩, trivial⟩
  | 93, _, hk =>
    have hk := Option.some.inj hk
    subst hk
    exact ⟨_, at_r (L := frC n) hn (k := 93) rfl, 1231, (fun _ => 0), rfl, by decide, ⟨_, val_c (by decide), by decide⟩, seg0_ok (by decide), PRD_0⟩
  | 94, _, hk =>
    have hk := Option.some.inj hk
    subst hk
    exact ⟨_, at_r (L := frC n) hn (k := 94) rfl, 9, (fun _ => 0), rfl, by decide, ⟨_, val_c (by decide), by decide⟩, seg0_ok (by decide), PRD_0⟩
  | 95, _, hk =>
    have hk := Option.some.inj hk
    subst hk
    exact ⟨_, at_r (L := frC n) hn (k := 95) rfl, _, rfl, rfl, rfl, rfl, rfl, rfl, rfl, trivial⟩
  | 96, _, hk =>
    have hk := Option.some.inj hk
    subst hk
    exact ⟨_, at_r (L := frC n) hn (k := 96) rfl, 10, (fun _ => 0), rfl, by decide, ⟨_, val_c (by decide), by decide⟩, seg0_ok (by decide), PRD_0⟩
  | 97, _, hk =>
    have hk := Option.some.inj hk
    subst hk
    exact ⟨_, at_r (L := frC n) hn (k := 97) rfl, 32, (fun _ => 0), rfl, by decide, ⟨_, val_c (by decide), by decide⟩, seg0_ok (by decide), PRD_0⟩
  | 98, _, hk =>
    have hk := Option.some.inj hk
    subst hk
    exact ⟨_, at_r (L := frC n) hn (k := 98) rfl, 100, (fun _ => 0), rfl, by decide, ⟨_, val_c (by decide), by decide⟩, seg0_ok (by decide), PRD_0⟩
  | 99, _, hk =>
    have hk := Option.some.inj hk
    subst hk
    exact ⟨_, at_r (L := frC n) hn (k := 99) rfl, _, rfl, rfl, rfl, rfl, rfl, rfl, rfl, trivial⟩
  | 100, _, hk =>
    have hk := Option.some.inj hk
    subst hk
    exact ⟨_, at_r (L := frC n) hn (k := 100) rfl, 10, (fun _ => 0), rfl, by decide, ⟨_, val_c (by decide), by decide⟩, seg0_ok (by decide), PRD_0⟩
  | 101, _, hk =>
    have hk := Option.some.inj hk
    subst hk
    exact ⟨_, at_r (L := frC n) hn (k := 101) rfl, 32, (fun _ => 0), rfl, by decide, ⟨_, val_c (by decide), by decide⟩, seg0_ok (by decide), PRD_0⟩
  | 102, _, hk =>
    have hk := Option.some.inj hk
    subst hk
    exact ⟨_, at_r (L := frC n) hn (k := 102) rfl, 100, (fun _ => 0), rfl, by decide, ⟨_, val_c (by decide), by decide⟩, seg0_ok (by decide), PRD_0⟩
  | 103, _, hk =>
    have hk := Option.some.inj hk
    subst hk
    exact ⟨_, at_r (L := frC n) hn (k := 9) rfl, _, rfl, rfl, ⟨0, rfl, inb_0 (by decide) (by decide)⟩, rfl, trivial⟩
  | 104, _, hk =>
    have hk := Option.some.inj hk
    subst hk
    exact ⟨_, at_r (L := frC n) hn (k := 10) rfl, 0, (fun _ => 0), rfl, by decide, ⟨0, rfl, inb_0 (by decide) (by decide)⟩, seg0_ok (by decide), PRD_0⟩
  | 105, _, hk =>
    have hk := Option.some.inj hk
    subst hk
    exact ⟨_, at_r (L := frC n) hn (k := 11) rfl, 0, (fun _ => 0), rfl, by decide, ⟨0, rfl, inb_0 (by decide) (by decide)⟩, seg0_ok (by decide), PRD_0⟩
  | 106, _, hk =>
    have hk := Option.some.inj hk
    subst hk
    exact ⟨_, at_r (L := frC n) hn (k := 9) rfl, _, rfl, rfl, ⟨0, rfl, inb_0 (by decide) (by decide)⟩, rfl, trivial⟩
  | 107, _, hk =>
    have hk := Option.some.inj hk
    subst hk
    exact ⟨_, at_r (L := frC n) hn (k := 10) rfl, 0, (fun _ => 0), rfl, by decide, ⟨0, rfl, inb_0 (by decide) (by decide)⟩, seg0_ok (by decide), PRD_0⟩
  | 108, _, hk =>
    have hk := Option.some.inj hk
    subst hk
    exact ⟨_, at_r (L := frC n) hn (k := 11) rfl, 0, (fun _ => 0), rfl, by decide, ⟨0, rfl, inb_0 (by decide) (by decide)⟩, seg0_ok (by decide), PRD_0⟩
  | 109, _, hk =>
    have hk := Option.some.inj hk
    subst hk
    exact ⟨_, at_r (L := frC n) hn (k := 9) rfl, _, rfl, rfl, ⟨0, rfl, inb_0 (by decide) (by decide)⟩, rfl, trivial⟩
  | 110, _, hk =>
    have hk := Option.some.inj hk
    subst hk
    exact ⟨_, at_r (L := frC n) hn (k := 10) rfl, 0, (fun _ => 0), rfl, by decide, ⟨0, rfl, inb_0 (by decide) (by decide)⟩, seg0_ok (by decide), PRD_0⟩
  | 111, _, hk =>
    have hk := Option.some.inj hk
    subst hk
    exact ⟨_, at_r (L := frC n) hn (k := 11) rfl, 0, (fun _ => 0), rfl, by decide, ⟨0, rfl, inb_0 (by decide) (by decide)⟩, seg0_ok (by decide), PRD_0⟩
  | 112, _, hk =>
    have hk := Option.some.inj hk
    subst hk
    exact ⟨_, at_r (L := frC n) hn (k := 9) rfl, _, rfl, rfl, ⟨0, rfl, inb_0 (by decide) (by decide)⟩, rfl, trivial⟩
  | 113, _, hk =>
    have hk := Option.some.inj hk
    subst hk
    exact ⟨_, at_r (L := frC n) hn (k := 10) rfl, 0, (fun _ => 0), rfl, by decide, ⟨0, rfl, inb_0 (by decide) (by decide)⟩, seg0_ok (by decide), PRD_0⟩
  | 114, _, hk =>
    have hk := Option.some.inj hk
    subst hk
    exact ⟨_, at_r (L := frC n) hn (k := 11) rfl, 0, (fun _ => 0), rfl, by decide, ⟨0, rfl, inb_0 (by decide) (by decide)⟩, seg0_ok (by decide), PRD_0⟩
  | 115, _, hk =>
    have hk := Option.some.inj hk
    subst hk
    exact ⟨_, at_r (L := frC n) hn (k := 38) rfl, _, rfl, rfl, ⟨0, rfl, inb_0 (by decide) (by decide)⟩, rfl, trivial⟩
  | 116, _, hk =>
    have hk := Option.some.inj hk
    subst hk
    exact ⟨_, at_r (L := frC n) hn (k := 39) rfl, 0, (fun _ => 0), rfl, by decide, ⟨0, rfl, inb_0 (by decide) (by decide)⟩, seg0_ok (by decide), PRD_0⟩
  | 117, _, hk =>
    have hk := Option.some.inj hk
    subst hk
    exact ⟨_, at_r (L := frC n) hn (k := 40) rfl, 0, (fun _ => 0), rfl, by decide, ⟨0, rfl, inb_0 (by decide) (by decide)⟩, seg0_ok (by decide), PRD_0⟩
  | 118, _, hk =>
    have hk := Option.some.inj hk
    subst hk
    exact ⟨_, at_r (L := frC n) hn (k := 38) rfl, _, rfl, rfl, ⟨0, rfl, inb_0 (by decide) (by decide)⟩, rfl, trivial⟩
  | 119, _, hk =>
    have hk := Option.some.inj hk
    subst hk
    exact ⟨_, at_r (L := frC n) hn (k := 39) rfl, 0, (fun _ => 0), rfl, by decide, ⟨0, rfl, inb_0 (by decide) (by decide)⟩, seg0_ok (by decide), PRD_0⟩
  | 120, _, hk =>
    have hk := Option.some.inj hk
    subst hk
    exact ⟨_, at_r (L := frC n) hn (k := 40) rfl, 0, (fun _ => 0), rfl, by decide, ⟨0, rfl, inb_0 (by decide) (by decide)⟩, seg0_ok (by decide), PRD_0⟩
  | 121, _, hk =>
    have hk := Option.some.inj hk
    subst hk
    exact ⟨_, at_r (L := frC n) hn (k := 38) rfl, _, rfl, rfl, ⟨0, rfl, inb_0 (by decide) (by decide)⟩, rfl, trivial⟩
  | 122, _, hk =>
    have hk := Option.some.inj hk
    subst hk
    exact ⟨_, at_r (L := frC n) hn (k := 39) rfl, 0, (fun _ => 0), rfl, by decide, ⟨0, rfl, inb_0 (by decide) (by decide)⟩, seg0_ok (by decide), PRD_0⟩
  | 123, _, hk =>
    have hk := Option.some.inj hk
    subst hk
    exact ⟨_, at_r (L := frC n) hn (k := 40) rfl, 0, (fun _ => 0), rfl, by decide, ⟨0, rfl, inb_0 (by decide) (by decide)⟩, seg0_ok (by decide), PRD_0⟩
  | 124, _, hk =>
    have hk := Option.some.inj hk
    subst hk
    exact ⟨_, at_r (L := frC n) hn (k := 38) rfl, _, rfl, rfl, ⟨0, rfl, inb_0 (by decide) (by decide)⟩, rfl, trivial⟩
  | 125, _, hk =>
    have hk := Option.some.inj hk
    subst hk
    exact ⟨_, at_r (L := frC n) hn (k := 39) rfl, 0, (fun _ => 0), rfl, by decide, ⟨0, rfl, inb_0 (by decide) (by decide)⟩, seg0_ok (by decide), PRD_0⟩
  | 126, _, hk =>
    have hk := Option.some.inj hk
    subst hk
    exact ⟨_, at_r (L := frC n) hn (k := 40) rfl, 0, (fun _ => 0), rfl, by decide, ⟨0, rfl, inb_0 (by decide) (by decide)⟩, seg0_ok (by decide), PRD_0⟩
