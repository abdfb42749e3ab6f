/-! images: what is kept, and where -/
def layp (p : Nat) : Nat × Nat := if p < 499 then (1, p - 0) else if p < 512 then (0, if p = 499 then 6 else if p = 500 then 34 else if p = 501 then 36 else if p = 502 then 38 else if p = 503 then 43 else if p = 504 then 46 else if p = 505 then 50 else if p = 506 then 52 else if p = 507 then 54 else if p = 508 then 57 else if p = 509 then 61 else if p = 510 then 63 else 65) else if p < 592 then (if (p - 512) % 4 = 0 then 4 else if (p - 512) % 4 = 1 then 5 else if (p - 512) % 4 = 2 then 6 else 20, (p - 512) / 4) else if p < 598 then (24, p - 592) else if p < 614 then (26, p - 598) else if p < 644 then (if (p - 614) % 2 = 0 then 29 else 30, (p - 614) / 2) else if p < 684 then (if (p - 644) % 5 = 0 then 31 else if (p - 644) % 5 = 1 then 33 else if (p - 644) % 5 = 2 then 34 else if (p - 644) % 5 = 3 then 37 else 38, (p - 644) / 5) else if p < 696 then (36, p - 684) else if p < 744 then (18, p - 696) else if p < 824 then (19, p - 744) else if p < 1574 then (7, p - 824) else if p < 1575 then (10, p - 1574) else if p < 1639 then (if (p - 1575) % 4 = 0 then 11 else if (p - 1575) % 4 = 1 then 12 else if (p - 1575) % 4 = 2 then 13 else 14, (p - 1575) / 4) else (if (p - 1639) % 2 = 0 then 15 else 16, (p - 1639) / 2)
def posp (q : Nat × Nat) : Nat := if q.1 = 0 ∧ q.2 = 6 then 499 else if q.1 = 0 ∧ q.2 = 34 then 500 else if q.1 = 0 ∧ q.2 = 36 then 501 else if q.1 = 0 ∧ q.2 = 38 then 502 else if q.1 = 0 ∧ q.2 = 43 then 503 else if q.1 = 0 ∧ q.2 = 46 then 504 else if q.1 = 0 ∧ q.2 = 50 then 505 else if q.1 = 0 ∧ q.2 = 52 then 506 else if q.1 = 0 ∧ q.2 = 54 then 507 else if q.1 = 0 ∧ q.2 = 57 then 508 else if q.1 = 0 ∧ q.2 = 61 then 509 else if q.1 = 0 ∧ q.2 = 63 then 510 else if q.1 = 0 ∧ q.2 = 65 then 511 else if q.1 = 1 then 0 + 1 * q.2 + 0 else if q.1 = 4 then 512 + 4 * q.2 + 0 else if q.1 = 5 then 512 + 4 * q.2 + 1 else if q.1 = 6 then 512 + 4 * q.2 + 2 else if q.1 = 20 then 512 + 4 * q.2 + 3 else if q.1 = 24 then 592 + 1 * q.2 + 0 else if q.1 = 26 then 598 + 1 * q.2 + 0 else if q.1 = 29 then 614 + 2 * q.2 + 0 else if q.1 = 30 then 614 + 2 * q.2 + 1 else if q.1 = 31 then 644 + 5 * q.2 + 0 else if q.1 = 33 then 644 + 5 * q.2 + 1 else if q.1 = 34 then 644 + 5 * q.2 + 2 else if q.1 = 37 then 644 + 5 * q.2 + 3 else if q.1 = 38 then 644 + 5 * q.2 + 4 else if q.1 = 36 then 684 + 1 * q.2 + 0 else if q.1 = 18 then 696 + 1 * q.2 + 0 else if q.1 = 19 then 744 + 1 * q.2 + 0 else if q.1 = 7 then 824 + 1 * q.2 + 0 else if q.1 = 10 then 1574 + 1 * q.2 + 0 else if q.1 = 11 then 1575 + 4 * q.2 + 0 else if q.1 = 12 then 1575 + 4 * q.2 + 1 else if q.1 = 13 then 1575 + 4 * q.2 + 2 else if q.1 = 14 then 1575 + 4 * q.2 + 3 else if q.1 = 15 then 1639 + 2 * q.2 + 0 else if q.1 = 16 then 1639 + 2 * q.2 + 1 else 0
theorem ly_1 : ∀ x, x < 499 → layp (0 + 1 * x + 0) = (1, x) := by decide +kernel
theorem ly_4 : ∀ x, x < 20 → layp (512 + 4 * x + 0) = (4, x) := by decide +kernel
theorem ly_5 : ∀ x, x < 20 → layp (512 + 4 * x + 1) = (5, x) := by decide +kernel
theorem ly_6 : ∀ x, x < 20 → layp (512 + 4 * x + 2) = (6, x) := by decide +kernel
theorem ly_20 : ∀ x, x < 20 → layp (512 + 4 * x + 3) = (20, x) := by decide +kernel
theorem ly_24 : ∀ x, x < 6 → layp (592 + 1 * x + 0) = (24, x) := by decide +kernel
theorem ly_26 : ∀ x, x < 16 → layp (598 + 1 * x + 0) = (26, x) := by decide +kernel
theorem ly_29 : ∀ x, x < 15 → layp (614 + 2 * x + 0) = (29, x) := by decide +kernel
theorem ly_30 : ∀ x, x < 15 → layp (614 + 2 * x + 1) = (30, x) := by decide +kernel
theorem ly_31 : ∀ x, x < 8 → layp (644 + 5 * x + 0) = (31, x) := by decide +kernel
theorem ly_33 : ∀ x, x < 8 → layp (644 + 5 * x + 1) = (33, x) := by decide +kernel
theorem ly_34 : ∀ x, x < 8 → layp (644 + 5 * x + 2) = (34, x) := by decide +kernel
theorem ly_37 : ∀ x, x < 8 → layp (644 + 5 * x + 3) = (37, x) := by decide +kernel
theorem ly_38 : ∀ x, x < 8 → layp (644 + 5 * x + 4) = (38, x) := by decide +kernel
theorem ly_36 : ∀ x, x < 12 → layp (684 + 1 * x + 0) = (36, x) := by decide +kernel
theorem ly_18 : ∀ x, x < 48 → layp (696 + 1 * x + 0) = (18, x) := by decide +kernel
theorem ly_19 : ∀ x, x < 80 → layp (744 + 1 * x + 0) = (19, x) := by decide +kernel
theorem ly_7 : ∀ x, x < 750 → layp (824 + 1 * x + 0) = (7, x) := by decide +kernel
theorem ly_10 : ∀ x, x < 1 → layp (1574 + 1 * x + 0) = (10, x) := by decide +kernel
theorem ly_11 : ∀ x, x < 16 → layp (1575 + 4 * x + 0) = (11, x) := by decide +kernel
theorem ly_12 : ∀ x, x < 16 → layp (1575 + 4 * x + 1) = (12, x) := by decide +kernel
theorem ly_13 : ∀ x, x < 16 → layp (1575 + 4 * x + 2) = (13, x) := by decide +kernel
theorem ly_14 : ∀ x, x < 16 → layp (1575 + 4 * x + 3) = (14, x) := by decide +kernel
theorem ly_15 : ∀ x, x < 400 → layp (1639 + 2 * x + 0) = (15, x) := by decide +kernel
theorem ly_16 : ∀ x, x < 400 → layp (1639 + 2 * x + 1) = (16, x) := by decide +kernel
theorem lyf_6 : layp 499 = (0, 6) := by decide
theorem lyf_34 : layp 500 = (0, 34) := by decide
theorem lyf_36 : layp 501 = (0, 36) := by decide
theorem lyf_38 : layp 502 = (0, 38) := by decide
theorem lyf_43 : layp 503 = (0, 43) := by decide
theorem lyf_46 : layp 504 = (0, 46) := by decide
theorem lyf_50 : layp 505 = (0, 50) := by decide
theorem lyf_52 : layp 506 = (0, 52) := by decide
theorem lyf_54 : layp 507 = (0, 54) := by decide
theorem lyf_57 : layp 508 = (0, 57) := by decide
theorem lyf_61 : layp 509 = (0, 61) := by decide
theorem lyf_63 : layp 510 = (0, 63) := by decide
theorem lyf_65 : layp 511 = (0, 65) := by decide
theorem lay_pos : ∀ p, p < 2439 → posp (layp p) = p := by decide +kernel
theorem lay_no : ∀ p, p < 2439 → (layp p).1 ≠ 42 ∧ ((layp p).1 = 0 → (layp p).2 ≠ 74) := by decide +kernel
theorem lay_inj {p p' : Nat} (h1 : p < 2439) (h2 : p' < 2439) (h : layp p = layp p') : p = p' := by
  rw [← lay_pos p h1, h, lay_pos p' h2]
def RDs (z : Nat → Int32) (f : Nat → FA) (q : Nat × Nat) : Int32 := if q.1 = 0 then z q.2 else f q.1 q.2
/-- P many are kept, or given back -/
def INV (tk : Bool) (P : Nat) (z : Nat → Int32) (f : Nat → FA) (z' : Nat → Int32) (f' : Nat → FA) : Prop := z' 74 = nI P ∧ (z' 72 = bif tk then 1 else 0) ∧ (tk = true → (∀ j, j ≠ 74 → z' j = z j) ∧ (∀ r, r ≠ 42 → f' r = f r) ∧ (∀ p, f' 42 p = if p < P then RDs z f (layp p) else f 42 p)) ∧ (tk = false → f' 42 = f 42 ∧ (∀ p, p < P → RDs z' f' (layp p) = f 42 p) ∧ (∀ q, q.1 ≠ 42 → q ≠ (0, 74) → (∀ p, p < P → layp p ≠ q) → RDs z' f' q = RDs z f q))
theorem upd_id (g : FA) (k : Nat) : upd g k (g k) = g := by
  funext j
  by_cases e : j = k
  · subst e; rw [pk_us]
  · rw [pk_un e]
set_option maxRecDepth 100000 in
theorem b229_1 (call : QC FA) (x1 : Int32) (z : Nat → Int32) (f : Nat → FA) (F : Nat) : rnG call 229 (F + 5) 0 [some (vR 0), some (vI x1)] [] (LR z f) = rnG call 229 F 5 [some (vR 0), some (vI x1)] [vI ((z 74) + 1), vR 0] (LR z f) := rfl
set_option maxRecDepth 100000 in
theorem b229_2 (call : QC FA) (y : Int32) (ls : List (Option PV)) (z : Nat → Int32) (f : Nat → FA) (F : Nat) : rnG call 229 (F + 1) 5 ls [vI y, vR 0] (LR z f) = rnG call 229 F 6 ls [] (LR (uZ z 74 y) f) := rfl
set_option maxRecDepth 100000 in
theorem b229_3 (call : QC FA) (x1 : Int32) (z : Nat → Int32) (f : Nat → FA) (F : Nat) : rnG call 229 (F + 2) 6 [some (vR 0), some (vI x1)] [] (LR z f) = rnG call 229 F 8 [some (vR 0), some (vI x1)] [vI (z 72)] (LR z f) := rfl
set_option maxRecDepth 100000 in
theorem b229_4 (call : QC FA) (x : Int32) (ls : List (Option PV)) (L : QH FA) (F : Nat) : rnG call 229 (F + 1) 8 ls [vI x] L = bif pcmp 1 x 0 then rnG call 229 F 17 ls [] L else rnG call 229 F 9 ls [] L := rfl
set_option maxRecDepth 100000 in
theorem b229_5 (call : QC FA) (x1 : Int32) (z : Nat → Int32) (f : Nat → FA) (F : Nat) : rnG call 229 (F + 7) 17 [some (vR 0), some (vI x1)] [] (LR z f) = rnG call 229 F 24 [some (vR 0), some (vI x1)] [vI x1, vI ((z 74) - 1), vR 42] (LR z f) := rfl
set_option maxRecDepth 100000 in
theorem b229_6 (call : QC FA) (x y : Int32) (ls : List (Option PV)) (z : Nat → Int32) (f : Nat → FA) (F : Nat) : rnG call 229 (F + 1) 24 ls [vI y, vI x, vR 42] (LR z f) = bif (Nat.beq 0 0 && pin x 2900) then rnG call 229 F 25 ls [] (LR z (uA f 42 (upd (f 42) (ix x) y))) else none := rfl
set_option maxRecDepth 100000 in
theorem b229_7 (call : QC FA) (x1 : Int32) (L : QH FA) (F : Nat) : rnG call 229 (F + 1) 25 [some (vR 0), some (vI x1)] [] L = rnG call 229 F 26 [some (vR 0), some (vI x1)] [vI x1] L := rfl
set_option maxRecDepth 100000 in
theorem b229_8 (call : QC FA) (x : Int32) (ls : List (Option PV)) (L : QH FA) (F : Nat) : rnG call 229 (F + 1) 26 ls [vI x] L = some (some (vI x), L) := rfl
set_option maxRecDepth 100000 in
theorem b229_9 (call : QC FA) (x1 : Int32) (z : Nat → Int32) (f : Nat → FA) (F : Nat) : rnG call 229 (F + 6) 9 [some (vR 0), some (vI x1)] [] (LR z f) = rnG call 229 F 15 [some (vR 0), some (vI x1)] [vI ((z 74) - 1), vR 42] (LR z f) := rfl
set_option maxRecDepth 100000 in
theorem b229_10 (call : QC FA) (x : Int32) (ls : List (Option PV)) (z : Nat → Int32) (f : Nat → FA) (F : Nat) : rnG call 229 (F + 1) 15 ls [vI x, vR 42] (LR z f) = bif (Nat.beq 0 0 && pin x 2900) then rnG call 229 F 16 ls [vI (f 42 (ix x))] (LR z f) else none := rfl
set_option maxRecDepth 100000 in
theorem b229_11 (call : QC FA) (x : Int32) (ls : List (Option PV)) (L : QH FA) (F : Nat) : rnG call 229 (F + 1) 16 ls [vI x] L = some (some (vI x), L) := rfl
theorem vc229_0 (call : QC FA) (x1 : Int32) (z : Nat → Int32) (f : Nat → FA) (res : Option PV × QH FA) (H : ((¬ z 72 = 0 → (pin (((z 74) + 1) - 1) 2900 = true ∧ res = (some (vI x1), LR (uZ z 74 ((z 74) + 1)) (uA f 42 (upd (f 42) (ix (((z 74) + 1) - 1)) x1))))) ∧ (z 72 = 0 → (pin (((z 74) + 1) - 1) 2900 = true ∧ res = (some (vI (f 42 (ix (((z 74) + 1) - 1)))), LR (uZ z 74 ((z 74) + 1)) f))))) : RC call (mP 229) 0 [some (vR 0), some (vI x1)] [] (LR z f) res := by
  refine rc_b (i' := 5) (ls' := [some (vR 0), some (vI x1)]) (st' := [vI ((z 74) + 1), vR 0]) (L' := LR z f) 5 (b229_1 call x1 z f) ?_
  refine rc_b (i' := 6) (ls' := [some (vR 0), some (vI x1)]) (st' := []) (L' := LR (uZ z 74 ((z 74) + 1)) f) 1 (b229_2 call ((z 74) + 1) _ z f) ?_
  refine rc_b (i' := 8) (ls' := [some (vR 0), some (vI x1)]) (st' := [vI (z 72)]) (L' := LR (uZ z 74 ((z 74) + 1)) f) 2 (b229_3 call x1 (uZ z 74 ((z 74) + 1)) f) ?_
  refine rc_if (it := 17) (ie := 9) (ls' := [some (vR 0), some (vI x1)]) (st' := []) (b229_4 call (z 72) _ _) (fun q1 => ?_) (fun q1 => ?_)
  · have H := H.1 (cI1t q1)
    refine rc_b (i' := 24) (ls' := [some (vR 0), some (vI x1)]) (st' := [vI x1, vI (((z 74) + 1) - 1), vR 42]) (L' := LR (uZ z 74 ((z 74) + 1)) f) 7 (b229_5 call x1 (uZ z 74 ((z 74) + 1)) f) ?_
    obtain ⟨g1, H⟩ := H
    refine rc_g (i' := 25) (ls' := [some (vR 0), some (vI x1)]) (st' := []) (L' := LR (uZ z 74 ((z 74) + 1)) (uA f 42 (upd (f 42) (ix (((z 74) + 1) - 1)) x1))) (b229_6 call (((z 74) + 1) - 1) x1 _ (uZ z 74 ((z 74) + 1)) f) (pinG g1) ?_
    refine rc_b (i' := 26) (ls' := [some (vR 0), some (vI x1)]) (st' := [vI x1]) (L' := LR (uZ z 74 ((z 74) + 1)) (uA f 42 (upd (f 42) (ix (((z 74) + 1) - 1)) x1))) 1 (b229_7 call x1 _) ?_
    subst H
    exact rc_ret (b229_8 call _ _ _)
  · have H := H.2 (cI1f q1)
    refine rc_b (i' := 15) (ls' := [some (vR 0), some (vI x1)]) (st' := [vI (((z 74) + 1) - 1), vR 42]) (L' := LR (uZ z 74 ((z 74) + 1)) f) 6 (b229_9 call x1 (uZ z 74 ((z 74) + 1)) f) ?_
    obtain ⟨g1, H⟩ := H
    refine rc_g (i' := 16) (ls' := [some (vR 0), some (vI x1)]) (st' := [vI (f 42 (ix (((z 74) + 1) - 1)))]) (L' := LR (uZ z 74 ((z 74) + 1)) f) (b229_10 call (((z 74) + 1) - 1) _ (uZ z 74 ((z 74) + 1)) f) (pinG g1) ?_
    subst H
    exact rc_ret (b229_11 call _ _ _)
theorem keeps_t (d0 P : Nat) (v : Int32) (z : Nat → Int32) (f : Nat → FA) (hz : z 74 = nI P) (hP : P < 2900) (h72 : ¬ z 72 = 0) : mcall (d0 + 1) 229 [vR 0, vI v] (LR z f) = some (some (vI v), LR (uZ z 74 (nI (P + 1))) (uA f 42 (upd (f 42) P v))) := by
  have e1 : z 74 + 1 = nI (P + 1) := by rw [hz]; exact nI_add P 1
  have e2 : nI (P + 1) - 1 = nI P := nsub (a := P) (c := 1) rfl rfl
  refine mcall_i (mq229 (cu := [])).2.2 rfl (vc229_0 _ _ _ _ _ ⟨fun _ => ⟨?_, ?_⟩, fun q => absurd q h72⟩)
  · rw [e1, e2]; exact pin_nI hP (by omega)
  · rw [e1, e2, ix_nI (by omega)]
theorem keeps_f (d0 P : Nat) (v : Int32) (z : Nat → Int32) (f : Nat → FA) (hz : z 74 = nI P) (hP : P < 2900) (h72 : z 72 = 0) : mcall (d0 + 1) 229 [vR 0, vI v] (LR z f) = some (some (vI (f 42 P)), LR (uZ z 74 (nI (P + 1))) f) := by
  have e1 : z 74 + 1 = nI (P + 1) := by rw [hz]; exact nI_add P 1
  have e2 : nI (P + 1) - 1 = nI P := nsub (a := P) (c := 1) rfl rfl
  refine mcall_i (mq229 (cu := [])).2.2 rfl (vc229_0 _ _ _ _ _ ⟨fun q => absurd h72 q, fun _ => ⟨?_, ?_⟩⟩)
  · rw [e1, e2]; exact pin_nI hP (by omega)
  · rw [e1, e2, ix_nI (by omega)]
theorem kp_row (d0 : Nat) {tk : Bool} {P P' : Nat} {z z' : Nat → Int32} {f f' : Nat → FA} (h : INV tk P z f z' f') (hP : P < 2439) (hP' : P' = P + 1) {r k : Nat} (hl : layp P = (r, k)) (hr : r ≠ 0) : ∃ v z1 f1, mcall (d0 + 1) 229 [vR 0, vI (f' r k)] (LR z' f') = some (some (vI v), LR z1 f1) ∧ INV tk P' z f z1 (uA f1 r (upd (f1 r) k v)) := by
  subst hP'
  obtain ⟨h74, h72, hT, hF⟩ := h
  have hr42 : r ≠ 42 := by
    have := (lay_no P hP).1
    rw [hl] at this
    exact this
  cases tk with
  | true =>
    obtain ⟨a1, a2, a3⟩ := hT rfl
    refine ⟨f' r k, _, _, keeps_t d0 P (f' r k) z' f' h74 (by omega) (by rw [h72]; decide), uZ_s, by rw [uZ_n (by decide)]; exact h72, fun _ => ⟨fun j hj => by rw [uZ_n hj]; exact a1 j hj, fun r' hr' => ?_, fun p => ?_⟩, fun q => by cases q⟩
    · by_cases e : r' = r
      · subst e
        rw [uA_self, uA_ne hr42, upd_id]
        exact a2 r' hr'
      · rw [uA_ne e, uA_ne hr']
        exact a2 r' hr'
    · rw [uA_ne (fun q => hr42 q.symm), uA_self]
      by_cases e : p = P
      · subst e
        rw [pk_us, if_pos (by omega), hl, a2 r hr42]
        exact (if_neg hr).symm
      · rw [pk_un e, a3]
        by_cases c : p < P
        · rw [if_pos c, if_pos (by omega)]
        · rw [if_neg c, if_neg (by omega)]
  | false =>
    obtain ⟨a1, a2, a3⟩ := hF rfl
    have key : ∀ q : Nat × Nat, q.1 ≠ 42 → q ≠ (0, 74) → RDs (uZ z' 74 (nI (P + 1))) (uA f' r (upd (f' r) k (f' 42 P))) q = if q = (r, k) then f' 42 P else RDs z' f' q := by
      intro q q1 q2
      unfold RDs
      by_cases c0 : q.1 = 0
      · rw [if_pos c0, if_pos c0, uZ_n (fun e => q2 (by rw [← c0, ← e])), if_neg (fun e => hr (by rw [e] at c0; exact c0))]
      · rw [if_neg c0, if_neg c0]
        by_cases c1 : q.1 = r
        · by_cases c2 : q.2 = k
          · rw [c1, c2, uA_self, pk_us, if_pos (by rw [← c1, ← c2])]
          · rw [c1, uA_self, pk_un c2, if_neg (fun e => c2 (by rw [e]))]
        · rw [uA_ne c1, if_neg (fun e => c1 (by rw [e]))]
    refine ⟨f' 42 P, _, _, keeps_f d0 P (f' r k) z' f' h74 (by omega) h72, uZ_s, by rw [uZ_n (by decide)]; exact h72, (fun q => by cases q), fun _ => ⟨by rw [uA_ne (fun q => hr42 q.symm)]; exact a1, fun p hp => ?_, fun q q1 q2 q3 => ?_⟩⟩
    · have n1 := lay_no p (by omega)
      rw [key _ n1.1 (fun e => n1.2 (by rw [e]) (by rw [e]))]
      by_cases e : p = P
      · subst e
        rw [if_pos hl, a1]
      · rw [if_neg (fun e2 => e (lay_inj (by omega) hP (e2.trans hl.symm)))]
        exact a2 p (by omega)
    · rw [key q q1 q2, if_neg (fun e => q3 P (by omega) (hl.trans e.symm))]
      exact a3 q q1 q2 (fun p hp => q3 p (by omega))
theorem kp_fld (d0 : Nat) {tk : Bool} {P P' : Nat} {z z' : Nat → Int32} {f f' : Nat → FA} (h : INV tk P z f z' f') (hP : P < 2439) (hP' : P' = P + 1) {k : Nat} (hl : layp P = (0, k)) (hk : k ≠ 72) : ∃ v z1 f1, mcall (d0 + 1) 229 [vR 0, vI (z' k)] (LR z' f') = some (some (vI v), LR z1 f1) ∧ INV tk P' z f (uZ z1 k v) f1 := by
  subst hP'
  obtain ⟨h74, h72, hT, hF⟩ := h
  have hk74 : k ≠ 74 := by
    have := (lay_no P hP).2
    rw [hl] at this
    exact this rfl
  cases tk with
  | true =>
    obtain ⟨a1, a2, a3⟩ := hT rfl
    refine ⟨z' k, _, _, keeps_t d0 P (z' k) z' f' h74 (by omega) (by rw [h72]; decide), by rw [uZ_n (fun q => hk74 q.symm), uZ_s], by rw [uZ_n (fun q => hk q.symm), uZ_n (by decide)]; exact h72, fun _ => ⟨fun j hj => ?_, fun r' hr' => by rw [uA_ne hr']; exact a2 r' hr', fun p => ?_⟩, fun q => by cases q⟩
    · by_cases e : j = k
      · subst e
        rw [uZ_s]
        exact a1 j hj
      · rw [uZ_n e, uZ_n hj]
        exact a1 j hj
    · rw [uA_self]
      by_cases e : p = P
      · subst e
        rw [pk_us, if_pos (by omega), hl, a1 k hk74]
        rfl
      · rw [pk_un e, a3]
        by_cases c : p < P
        · rw [if_pos c, if_pos (by omega)]
        · rw [if_neg c, if_neg (by omega)]
  | false =>
    obtain ⟨a1, a2, a3⟩ := hF rfl
    have key : ∀ q : Nat × Nat, q.1 ≠ 42 → q ≠ (0, 74) → RDs (uZ (uZ z' 74 (nI (P + 1))) k (f' 42 P)) f' q = if q = (0, k) then f' 42 P else RDs z' f' q := by
      intro q q1 q2
      unfold RDs
      by_cases c0 : q.1 = 0
      · rw [if_pos c0, if_pos c0]
        by_cases c2 : q.2 = k
        · rw [c2, uZ_s, if_pos (by rw [← c0, ← c2])]
        · rw [uZ_n c2, uZ_n (fun e => q2 (by rw [← c0, ← e])), if_neg (fun e => c2 (by rw [e]))]
      · rw [if_neg c0, if_neg c0, if_neg (fun e => c0 (by rw [e]))]
    refine ⟨f' 42 P, _, _, keeps_f d0 P (z' k) z' f' h74 (by omega) h72, by rw [uZ_n (fun q => hk74 q.symm), uZ_s], by rw [uZ_n (fun q => hk q.symm), uZ_n (by decide)]; exact h72, (fun q => by cases q), fun _ => ⟨a1, fun p hp => ?_, fun q q1 q2 q3 => ?_⟩⟩
    · have n1 := lay_no p (by omega)
      rw [key _ n1.1 (fun e => n1.2 (by rw [e]) (by rw [e]))]
      by_cases e : p = P
      · subst e
        rw [if_pos hl, a1]
      · rw [if_neg (fun e2 => e (lay_inj (by omega) hP (e2.trans hl.symm)))]
        exact a2 p (by omega)
    · rw [key q q1 q2, if_neg (fun e => q3 P (by omega) (hl.trans e.symm))]
      exact a3 q q1 q2 (fun p hp => q3 p (by omega))
set_option maxRecDepth 100000 in
theorem b232_1 (call : QC FA) (z : Nat → Int32) (f : Nat → FA) (F : Nat) : rnG call 232 (F + 4) 0 [some (vR 0)] [] (LR z f) = rnG call 232 F 4 [some (vR 0)] [vI (z 6), vR 0, vR 0] (LR z f) := rfl
set_option maxRecDepth 100000 in
theorem b232_2 (call : QC FA) (a0 : Int32) (ls : List (Option PV)) (z : Nat → Int32) (f : Nat → FA) (F : Nat) : rnG call 232 (F + 1) 4 ls [vI a0, vR 0, vR 0] (LR z f) = cbd (call 229 [vR 0, vI a0] (LR z f)) (fun r L' => rnG call 232 F 5 ls (r.toList ++ [vR 0]) L') := pcY (ih := rnG call 232 F) (call := call) (a := 229) (b := 1) (v := 12) (t := 5) (x := 0) (ls := ls) (As := [vI a0]) (st' := [vR 0]) (L := LR z f) rfl rfl rfl
set_option maxRecDepth 100000 in
theorem b232_3 (call : QC FA) (y : Int32) (ls : List (Option PV)) (z : Nat → Int32) (f : Nat → FA) (F : Nat) : rnG call 232 (F + 1) 5 ls [vI y, vR 0] (LR z f) = rnG call 232 F 6 ls [] (LR (uZ z 6 y) f) := rfl
set_option maxRecDepth 100000 in
theorem b232_4 (call : QC FA) (z : Nat → Int32) (f : Nat → FA) (F : Nat) : rnG call 232 (F + 4) 6 [some (vR 0)] [] (LR z f) = rnG call 232 F 10 [some (vR 0)] [vI (z 34), vR 0, vR 0] (LR z f) := rfl
set_option maxRecDepth 100000 in
theorem b232_5 (call : QC FA) (a0 : Int32) (ls : List (Option PV)) (z : Nat → Int32) (f : Nat → FA) (F : Nat) : rnG call 232 (F + 1) 10 ls [vI a0, vR 0, vR 0] (LR z f) = cbd (call 229 [vR 0, vI a0] (LR z f)) (fun r L' => rnG call 232 F 11 ls (r.toList ++ [vR 0]) L') := pcY (ih := rnG call 232 F) (call := call) (a := 229) (b := 1) (v := 12) (t := 11) (x := 0) (ls := ls) (As := [vI a0]) (st' := [vR 0]) (L := LR z f) rfl rfl rfl
set_option maxRecDepth 100000 in
theorem b232_6 (call : QC FA) (y : Int32) (ls : List (Option PV)) (z : Nat → Int32) (f : Nat → FA) (F : Nat) : rnG call 232 (F + 1) 11 ls [vI y, vR 0] (LR z f) = rnG call 232 F 12 ls [] (LR (uZ z 34 y) f) := rfl
set_option maxRecDepth 100000 in
theorem b232_7 (call : QC FA) (z : Nat → Int32) (f : Nat → FA) (F : Nat) : rnG call 232 (F + 4) 12 [some (vR 0)] [] (LR z f) = rnG call 232 F 16 [some (vR 0)] [vI (z 36), vR 0, vR 0] (LR z f) := rfl
set_option maxRecDepth 100000 in
theorem b232_8 (call : QC FA) (a0 : Int32) (ls : List (Option PV)) (z : Nat → Int32) (f : Nat → FA) (F : Nat) : rnG call 232 (F + 1) 16 ls [vI a0, vR 0, vR 0] (LR z f) = cbd (call 229 [vR 0, vI a0] (LR z f)) (fun r L' => rnG call 232 F 17 ls (r.toList ++ [vR 0]) L') := pcY (ih := rnG call 232 F) (call := call) (a := 229) (b := 1) (v := 12) (t := 17) (x := 0) (ls := ls) (As := [vI a0]) (st' := [vR 0]) (L := LR z f) rfl rfl rfl
set_option maxRecDepth 100000 in
theorem b232_9 (call : QC FA) (y : Int32) (ls : List (Option PV)) (z : Nat → Int32) (f : Nat → FA) (F : Nat) : rnG call 232 (F + 1) 17 ls [vI y, vR 0] (LR z f) = rnG call 232 F 18 ls [] (LR (uZ z 36 y) f) := rfl
set_option maxRecDepth 100000 in
theorem b232_10 (call : QC FA) (z : Nat → Int32) (f : Nat → FA) (F : Nat) : rnG call 232 (F + 4) 18 [some (vR 0)] [] (LR z f) = rnG call 232 F 22 [some (vR 0)] [vI (z 38), vR 0, vR 0] (LR z f) := rfl
set_option maxRecDepth 100000 in
theorem b232_11 (call : QC FA) (a0 : Int32) (ls : List (Option PV)) (z : Nat → Int32) (f : Nat → FA) (F : Nat) : rnG call 232 (F + 1) 22 ls [vI a0, vR 0, vR 0] (LR z f) = cbd (call 229 [vR 0, vI a0] (LR z f)) (fun r L' => rnG call 232 F 23 ls (r.toList ++ [vR 0]) L') := pcY (ih := rnG call 232 F) (call := call) (a := 229) (b := 1) (v := 12) (t := 23) (x := 0) (ls := ls) (As := [vI a0]) (st' := [vR 0]) (L := LR z f) rfl rfl rfl
set_option maxRecDepth 100000 in
theorem b232_12 (call : QC FA) (y : Int32) (ls : List (Option PV)) (z : Nat → Int32) (f : Nat → FA) (F : Nat) : rnG call 232 (F + 1) 23 ls [vI y, vR 0] (LR z f) = rnG call 232 F 24 ls [] (LR (uZ z 38 y) f) := rfl
set_option maxRecDepth 100000 in
theorem b232_13 (call : QC FA) (z : Nat → Int32) (f : Nat → FA) (F : Nat) : rnG call 232 (F + 4) 24 [some (vR 0)] [] (LR z f) = rnG call 232 F 28 [some (vR 0)] [vI (z 43), vR 0, vR 0] (LR z f) := rfl
set_option maxRecDepth 100000 in
theorem b232_14 (call : QC FA) (a0 : Int32) (ls : List (Option PV)) (z : Nat → Int32) (f : Nat → FA) (F : Nat) : rnG call 232 (F + 1) 28 ls [vI a0, vR 0, vR 0] (LR z f) = cbd (call 229 [vR 0, vI a0] (LR z f)) (fun r L' => rnG call 232 F 29 ls (r.toList ++ [vR 0]) L') := pcY (ih := rnG call 232 F) (call := call) (a := 229) (b := 1) (v := 12) (t := 29) (x := 0) (ls := ls) (As := [vI a0]) (st' := [vR 0]) (L := LR z f) rfl rfl rfl
set_option maxRecDepth 100000 in
theorem b232_15 (call : QC FA) (y : Int32) (ls : List (Option PV)) (z : Nat → Int32) (f : Nat → FA) (F : Nat) : rnG call 232 (F + 1) 29 ls [vI y, vR 0] (LR z f) = rnG call 232 F 30 ls [] (LR (uZ z 43 y) f) := rfl
set_option maxRecDepth 100000 in
theorem b232_16 (call : QC FA) (z : Nat → Int32) (f : Nat → FA) (F : Nat) : rnG call 232 (F + 4) 30 [some (vR 0)] [] (LR z f) = rnG call 232 F 34 [some (vR 0)] [vI (z 46), vR 0, vR 0] (LR z f) := rfl
set_option maxRecDepth 100000 in
theorem b232_17 (call : QC FA) (a0 : Int32) (ls : List (Option PV)) (z : Nat → Int32) (f : Nat → FA) (F : Nat) : rnG call 232 (F + 1) 34 ls [vI a0, vR 0, vR 0] (LR z f) = cbd (call 229 [vR 0, vI a0] (LR z f)) (fun r L' => rnG call 232 F 35 ls (r.toList ++ [vR 0]) L') := pcY (ih := rnG call 232 F) (call := call) (a := 229) (b := 1) (v := 12) (t := 35) (x := 0) (ls := ls) (As := [vI a0]) (st' := [vR 0]) (L := LR z f) rfl rfl rfl
set_option maxRecDepth 100000 in
theorem b232_18 (call : QC FA) (y : Int32) (ls : List (Option PV)) (z : Nat → Int32) (f : Nat → FA) (F : Nat) : rnG call 232 (F + 1) 35 ls [vI y, vR 0] (LR z f) = rnG call 232 F 36 ls [] (LR (uZ z 46 y) f) := rfl
set_option maxRecDepth 100000 in
theorem b232_19 (call : QC FA) (z : Nat → Int32) (f : Nat → FA) (F : Nat) : rnG call 232 (F + 4) 36 [some (vR 0)] [] (LR z f) = rnG call 232 F 40 [some (vR 0)] [vI (z 50), vR 0, vR 0] (LR z f) := rfl
set_option maxRecDepth 100000 in
theorem b232_20 (call : QC FA) (a0 : Int32) (ls : List (Option PV)) (z : Nat → Int32) (f : Nat → FA) (F : Nat) : rnG call 232 (F + 1) 40 ls [vI a0, vR 0, vR 0] (LR z f) = cbd (call 229 [vR 0, vI a0] (LR z f)) (fun r L' => rnG call 232 F 41 ls (r.toList ++ [vR 0]) L') := pcY (ih := rnG call 232 F) (call := call) (a := 229) (b := 1) (v := 12) (t := 41) (x := 0) (ls := ls) (As := [vI a0]) (st' := [vR 0]) (L := LR z f) rfl rfl rfl
set_option maxRecDepth 100000 in
theorem b232_21 (call : QC FA) (y : Int32) (ls : List (Option PV)) (z : Nat → Int32) (f : Nat → FA) (F : Nat) : rnG call 232 (F + 1) 41 ls [vI y, vR 0] (LR z f) = rnG call 232 F 42 ls [] (LR (uZ z 50 y) f) := rfl
set_option maxRecDepth 100000 in
theorem b232_22 (call : QC FA) (z : Nat → Int32) (f : Nat → FA) (F : Nat) : rnG call 232 (F + 4) 42 [some (vR 0)] [] (LR z f) = rnG call 232 F 46 [some (vR 0)] [vI (z 52), vR 0, vR 0] (LR z f) := rfl
set_option maxRecDepth 100000 in
theorem b232_23 (call : QC FA) (a0 : Int32) (ls : List (Option PV)) (z : Nat → Int32) (f : Nat → FA) (F : Nat) : rnG call 232 (F + 1) 46 ls [vI a0, vR 0, vR 0] (LR z f) = cbd (call 229 [vR 0, vI a0] (LR z f)) (fun r L' => rnG call 232 F 47 ls (r.toList ++ [vR 0]) L') := pcY (ih := rnG call 232 F) (call := call) (a := 229) (b := 1) (v := 12) (t := 47) (x := 0) (ls := ls) (As := [vI a0]) (st' := [vR 0]) (L := LR z f) rfl rfl rfl
set_option maxRecDepth 100000 in
theorem b232_24 (call : QC FA) (y : Int32) (ls : List (Option PV)) (z : Nat → Int32) (f : Nat → FA) (F : Nat) : rnG call 232 (F + 1) 47 ls [vI y, vR 0] (LR z f) = rnG call 232 F 48 ls [] (LR (uZ z 52 y) f) := rfl
set_option maxRecDepth 100000 in
theorem b232_25 (call : QC FA) (z : Nat → Int32) (f : Nat → FA) (F : Nat) : rnG call 232 (F + 4) 48 [some (vR 0)] [] (LR z f) = rnG call 232 F 52 [some (vR 0)] [vI (z 54), vR 0, vR 0] (LR z f) := rfl
set_option maxRecDepth 100000 in
theorem b232_26 (call : QC FA) (a0 : Int32) (ls : List (Option PV)) (z : Nat → Int32) (f : Nat → FA) (F : Nat) : rnG call 232 (F + 1) 52 ls [vI a0, vR 0, vR 0] (LR z f) = cbd (call 229 [vR 0, vI a0] (LR z f)) (fun r L' => rnG call 232 F 53 ls (r.toList ++ [vR 0]) L') := pcY (ih := rnG call 232 F) (call := call) (a := 229) (b := 1) (v := 12) (t := 53) (x := 0) (ls := ls) (As := [vI a0]) (st' := [vR 0]) (L := LR z f) rfl rfl rfl
set_option maxRecDepth 100000 in
theorem b232_27 (call : QC FA) (y : Int32) (ls : List (Option PV)) (z : Nat → Int32) (f : Nat → FA) (F : Nat) : rnG call 232 (F + 1) 53 ls [vI y, vR 0] (LR z f) = rnG call 232 F 54 ls [] (LR (uZ z 54 y) f) := rfl
set_option maxRecDepth 100000 in
theorem b232_28 (call : QC FA) (z : Nat → Int32) (f : Nat → FA) (F : Nat) : rnG call 232 (F + 4) 54 [some (vR 0)] [] (LR z f) = rnG call 232 F 58 [some (vR 0)] [vI (z 57), vR 0, vR 0] (LR z f) := rfl
set_option maxRecDepth 100000 in
theorem b232_29 (call : QC FA) (a0 : Int32) (ls : List (Option PV)) (z : Nat → Int32) (f : Nat → FA) (F : Nat) : rnG call 232 (F + 1) 58 ls [vI a0, vR 0, vR 0] (LR z f) = cbd (call 229 [vR 0, vI a0] (LR z f)) (fun r L' => rnG call 232 F 59 ls (r.toList ++ [vR 0]) L') := pcY (ih := rnG call 232 F) (call := call) (a := 229) (b := 1) (v := 12) (t := 59) (x := 0) (ls := ls) (As := [vI a0]) (st' := [vR 0]) (L := LR z f) rfl rfl rfl
set_option maxRecDepth 100000 in
theorem b232_30 (call : QC FA) (y : Int32) (ls : List (Option PV)) (z : Nat → Int32) (f : Nat → FA) (F : Nat) : rnG call 232 (F + 1) 59 ls [vI y, vR 0] (LR z f) = rnG call 232 F 60 ls [] (LR (uZ z 57 y) f) := rfl
set_option maxRecDepth 100000 in
theorem b232_31 (call : QC FA) (z : Nat → Int32) (f : Nat → FA) (F : Nat) : rnG call 232 (F + 4) 60 [some (vR 0)] [] (LR z f) = rnG call 232 F 64 [some (vR 0)] [vI (z 61), vR 0, vR 0] (LR z f) := rfl
set_option maxRecDepth 100000 in
theorem b232_32 (call : QC FA) (a0 : Int32) (ls : List (Option PV)) (z : Nat → Int32) (f : Nat → FA) (F : Nat) : rnG call 232 (F + 1) 64 ls [vI a0, vR 0, vR 0] (LR z f) = cbd (call 229 [vR 0, vI a0] (LR z f)) (fun r L' => rnG call 232 F 65 ls (r.toList ++ [vR 0]) L') := pcY (ih := rnG call 232 F) (call := call) (a := 229) (b := 1) (v := 12) (t := 65) (x := 0) (ls := ls) (As := [vI a0]) (st' := [vR 0]) (L := LR z f) rfl rfl rfl
set_option maxRecDepth 100000 in
theorem b232_33 (call : QC FA) (y : Int32) (ls : List (Option PV)) (z : Nat → Int32) (f : Nat → FA) (F : Nat) : rnG call 232 (F + 1) 65 ls [vI y, vR 0] (LR z f) = rnG call 232 F 66 ls [] (LR (uZ z 61 y) f) := rfl
set_option maxRecDepth 100000 in
theorem b232_34 (call : QC FA) (z : Nat → Int32) (f : Nat → FA) (F : Nat) : rnG call 232 (F + 4) 66 [some (vR 0)] [] (LR z f) = rnG call 232 F 70 [some (vR 0)] [vI (z 63), vR 0, vR 0] (LR z f) := rfl
set_option maxRecDepth 100000 in
theorem b232_35 (call : QC FA) (a0 : Int32) (ls : List (Option PV)) (z : Nat → Int32) (f : Nat → FA) (F : Nat) : rnG call 232 (F + 1) 70 ls [vI a0, vR 0, vR 0] (LR z f) = cbd (call 229 [vR 0, vI a0] (LR z f)) (fun r L' => rnG call 232 F 71 ls (r.toList ++ [vR 0]) L') := pcY (ih := rnG call 232 F) (call := call) (a := 229) (b := 1) (v := 12) (t := 71) (x := 0) (ls := ls) (As := [vI a0]) (st' := [vR 0]) (L := LR z f) rfl rfl rfl
set_option maxRecDepth 100000 in
theorem b232_36 (call : QC FA) (y : Int32) (ls : List (Option PV)) (z : Nat → Int32) (f : Nat → FA) (F : Nat) : rnG call 232 (F + 1) 71 ls [vI y, vR 0] (LR z f) = rnG call 232 F 72 ls [] (LR (uZ z 63 y) f) := rfl
set_option maxRecDepth 100000 in
theorem b232_37 (call : QC FA) (z : Nat → Int32) (f : Nat → FA) (F : Nat) : rnG call 232 (F + 4) 72 [some (vR 0)] [] (LR z f) = rnG call 232 F 76 [some (vR 0)] [vI (z 65), vR 0, vR 0] (LR z f) := rfl
set_option maxRecDepth 100000 in
theorem b232_38 (call : QC FA) (a0 : Int32) (ls : List (Option PV)) (z : Nat → Int32) (f : Nat → FA) (F : Nat) : rnG call 232 (F + 1) 76 ls [vI a0, vR 0, vR 0] (LR z f) = cbd (call 229 [vR 0, vI a0] (LR z f)) (fun r L' => rnG call 232 F 77 ls (r.toList ++ [vR 0]) L') := pcY (ih := rnG call 232 F) (call := call) (a := 229) (b := 1) (v := 12) (t := 77) (x := 0) (ls := ls) (As := [vI a0]) (st' := [vR 0]) (L := LR z f) rfl rfl rfl
set_option maxRecDepth 100000 in
theorem b232_39 (call : QC FA) (y : Int32) (ls : List (Option PV)) (z : Nat → Int32) (f : Nat → FA) (F : Nat) : rnG call 232 (F + 1) 77 ls [vI y, vR 0] (LR z f) = rnG call 232 F 78 ls [] (LR (uZ z 65 y) f) := rfl
set_option maxRecDepth 100000 in
theorem b232_40 (call : QC FA) (ls : List (Option PV)) (L : QH FA) (F : Nat) : rnG call 232 (F + 1) 78 ls [] L = some (none, L) := rfl
theorem vc232_0 (d : Nat) (z : Nat → Int32) (f : Nat → FA) (res : Option PV × QH FA) (H : (∃ (r1 : Int32) (z1 : Nat → Int32) (f1 : Nat → FA), (mcall (d + 1)) 229 [vR 0, vI (z 6)] (LR z f) = some (some (vI r1), LR z1 f1) ∧ (∃ (r2 : Int32) (z2 : Nat → Int32) (f2 : Nat → FA), (mcall (d + 1)) 229 [vR 0, vI (z1 34)] (LR (uZ z1 6 r1) f1) = some (some (vI r2), LR z2 f2) ∧ (∃ (r3 : Int32) (z3 : Nat → Int32) (f3 : Nat → FA), (mcall (d + 1)) 229 [vR 0, vI (z2 36)] (LR (uZ z2 34 r2) f2) = some (some (vI r3), LR z3 f3) ∧ (∃ (r4 : Int32) (z4 : Nat → Int32) (f4 : Nat → FA), (mcall (d + 1)) 229 [vR 0, vI (z3 38)] (LR (uZ z3 36 r3) f3) = some (some (vI r4), LR z4 f4) ∧ (∃ (r5 : Int32) (z5 : Nat → Int32) (f5 : Nat → FA), (mcall (d + 1)) 229 [vR 0, vI (z4 43)] (LR (uZ z4 38 r4) f4) = some (some (vI r5), LR z5 f5) ∧ (∃ (r6 : Int32) (z6 : Nat → Int32) (f6 : Nat → FA), (mcall (d + 1)) 229 [vR 0, vI (z5 46)] (LR (uZ z5 43 r5) f5) = some (some (vI r6), LR z6 f6) ∧ (∃ (r7 : Int32) (z7 : Nat → Int32) (f7 : Nat → FA), (mcall (d + 1)) 229 [vR 0, vI (z6 50)] (LR (uZ z6 46 r6) f6) = some (some (vI r7), LR z7 f7) ∧ (∃ (r8 : Int32) (z8 : Nat → Int32) (f8 : Nat → FA), (mcall (d + 1)) 229 [vR 0, vI (z7 52)] (LR (uZ z7 50 r7) f7) = some (some (vI r8), LR z8 f8) ∧ (∃ (r9 : Int32) (z9 : Nat → Int32) (f9 : Nat → FA), (mcall (d + 1)) 229 [vR 0, vI (z8 54)] (LR (uZ z8 52 r8) f8) = some (some (vI r9), LR z9 f9) ∧ (∃ (r10 : Int32) (z10 : Nat → Int32) (f10 : Nat → FA), (mcall (d + 1)) 229 [vR 0, vI (z9 57)] (LR (uZ z9 54 r9) f9) = some (some (vI r10), LR z10 f10) ∧ (∃ (r11 : Int32) (z11 : Nat → Int32) (f11 : Nat → FA), (mcall (d + 1)) 229 [vR 0, vI (z10 61)] (LR (uZ z10 57 r10) f10) = some (some (vI r11), LR z11 f11) ∧ (∃ (r12 : Int32) (z12 : Nat → Int32) (f12 : Nat → FA), (mcall (d + 1)) 229 [vR 0, vI (z11 63)] (LR (uZ z11 61 r11) f11) = some (some (vI r12), LR z12 f12) ∧ (∃ (r13 : Int32) (z13 : Nat → Int32) (f13 : Nat → FA), (mcall (d + 1)) 229 [vR 0, vI (z12 65)] (LR (uZ z12 63 r12) f12) = some (some (vI r13), LR z13 f13) ∧ res = (none, LR (uZ z13 65 r13) f13))))))))))))))) : RC (mcall (d + 1)) (mP 232) 0 [some (vR 0)] [] (LR z f) res := by
  refine rc_b (i' := 4) (ls' := [some (vR 0)]) (st' := [vI (z 6), vR 0, vR 0]) (L' := LR z f) 4 (b232_1 (mcall (d + 1)) z f) ?_
  obtain ⟨r1, z1, f1, hc, H⟩ := H
  refine rc_call (t := 5) (ls' := [some (vR 0)]) (st' := [vR 0]) (b232_2 (mcall (d + 1)) (z 6) _ z f) hc ?_
  show RC (mcall (d + 1)) (mP 232) 5 [some (vR 0)] [vI r1, vR 0] (LR z1 f1) res
  refine rc_b (i' := 6) (ls' := [some (vR 0)]) (st' := []) (L' := LR (uZ z1 6 r1) f1) 1 (b232_3 (mcall (d + 1)) r1 _ z1 f1) ?_
  refine rc_b (i' := 10) (ls' := [some (vR 0)]) (st' := [vI (z1 34), vR 0, vR 0]) (L' := LR (uZ z1 6 r1) f1) 4 (b232_4 (mcall (d + 1)) (uZ z1 6 r1) f1) ?_
  obtain ⟨r2, z2, f2, hc, H⟩ := H
  refine rc_call (t := 11) (ls' := [some (vR 0)]) (st' := [vR 0]) (b232_5 (mcall (d + 1)) (z1 34) _ (uZ z1 6 r1) f1) hc ?_
  show RC (mcall (d + 1)) (mP 232) 11 [some (vR 0)] [vI r2, vR 0] (LR z2 f2) res
  refine rc_b (i' := 12) (ls' := [some (vR 0)]) (st' := []) (L' := LR (uZ z2 34 r2) f2) 1 (b232_6 (mcall (d + 1)) r2 _ z2 f2) ?_
  refine rc_b (i' := 16) (ls' := [some (vR 0)]) (st' := [vI (z2 36), vR 0, vR 0]) (L' := LR (uZ z2 34 r2) f2) 4 (b232_7 (mcall (d + 1)) (uZ z2 34 r2) f2) ?_
  obtain ⟨r3, z3, f3, hc, H⟩ := H
  refine rc_call (t := 17) (ls' := [some (vR 0)]) (st' := [vR 0]) (b232_8 (mcall (d + 1)) (z2 36) _ (uZ z2 34 r2) f2) hc ?_
  show RC (mcall (d + 1)) (mP 232) 17 [some (vR 0)] [vI r3, vR 0] (LR z3 f3) res
  refine rc_b (i' := 18) (ls' := [some (vR 0)]) (st' := []) (L' := LR (uZ z3 36 r3) f3) 1 (b232_9 (mcall (d + 1)) r3 _ z3 f3) ?_
  refine rc_b (i' := 22) (ls' := [some (vR 0)]) (st' := [vI (z3 38), vR 0, vR 0]) (L' := LR (uZ z3 36 r3) f3) 4 (b232_10 (mcall (d + 1)) (uZ z3 36 r3) f3) ?_
  obtain ⟨r4, z4, f4, hc, H⟩ := H
  refine rc_call (t := 23) (ls' := [some (vR 0)]) (st' := [vR 0]) (b232_11 (mcall (d + 1)) (z3 38) _ (uZ z3 36 r3) f3) hc ?_
  show RC (mcall (d + 1)) (mP 232) 23 [some (vR 0)] [vI r4, vR 0] (LR z4 f4) res
  refine rc_b (i' := 24) (ls' := [some (vR 0)]) (st' := []) (L' := LR (uZ z4 38 r4) f4) 1 (b232_12 (mcall (d + 1)) r4 _ z4 f4) ?_
  refine rc_b (i' := 28) (ls' := [some (vR 0)]) (st' := [vI (z4 43), vR 0, vR 0]) (L' := LR (uZ z4 38 r4) f4) 4 (b232_13 (mcall (d + 1)) (uZ z4 38 r4) f4) ?_
  obtain ⟨r5, z5, f5, hc, H⟩ := H
  refine rc_call (t := 29) (ls' := [some (vR 0)]) (st' := [vR 0]) (b232_14 (mcall (d + 1)) (z4 43) _ (uZ z4 38 r4) f4) hc ?_
  show RC (mcall (d + 1)) (mP 232) 29 [some (vR 0)] [vI r5, vR 0] (LR z5 f5) res
  refine rc_b (i' := 30) (ls' := [some (vR 0)]) (st' := []) (L' := LR (uZ z5 43 r5) f5) 1 (b232_15 (mcall (d + 1)) r5 _ z5 f5) ?_
  refine rc_b (i' := 34) (ls' := [some (vR 0)]) (st' := [vI (z5 46), vR 0, vR 0]) (L' := LR (uZ z5 43 r5) f5) 4 (b232_16 (mcall (d + 1)) (uZ z5 43 r5) f5) ?_
  obtain ⟨r6, z6, f6, hc, H⟩ := H
  refine rc_call (t := 35) (ls' := [some (vR 0)]) (st' := [vR 0]) (b232_17 (mcall (d + 1)) (z5 46) _ (uZ z5 43 r5) f5) hc ?_
  show RC (mcall (d + 1)) (mP 232) 35 [some (vR 0)] [vI r6, vR 0] (LR z6 f6) res
  refine rc_b (i' := 36) (ls' := [some (vR 0)]) (st' := []) (L' := LR (uZ z6 46 r6) f6) 1 (b232_18 (mcall (d + 1)) r6 _ z6 f6) ?_
  refine rc_b (i' := 40) (ls' := [some (vR 0)]) (st' := [vI (z6 50), vR 0, vR 0]) (L' := LR (uZ z6 46 r6) f6) 4 (b232_19 (mcall (d + 1)) (uZ z6 46 r6) f6) ?_
  obtain ⟨r7, z7, f7, hc, H⟩ := H
  refine rc_call (t := 41) (ls' := [some (vR 0)]) (st' := [vR 0]) (b232_20 (mcall (d + 1)) (z6 50) _ (uZ z6 46 r6) f6) hc ?_
  show RC (mcall (d + 1)) (mP 232) 41 [some (vR 0)] [vI r7, vR 0] (LR z7 f7) res
  refine rc_b (i' := 42) (ls' := [some (vR 0)]) (st' := []) (L' := LR (uZ z7 50 r7) f7) 1 (b232_21 (mcall (d + 1)) r7 _ z7 f7) ?_
  refine rc_b (i' := 46) (ls' := [some (vR 0)]) (st' := [vI (z7 52), vR 0, vR 0]) (L' := LR (uZ z7 50 r7) f7) 4 (b232_22 (mcall (d + 1)) (uZ z7 50 r7) f7) ?_
  obtain ⟨r8, z8, f8, hc, H⟩ := H
  refine rc_call (t := 47) (ls' := [some (vR 0)]) (st' := [vR 0]) (b232_23 (mcall (d + 1)) (z7 52) _ (uZ z7 50 r7) f7) hc ?_
  show RC (mcall (d + 1)) (mP 232) 47 [some (vR 0)] [vI r8, vR 0] (LR z8 f8) res
  refine rc_b (i' := 48) (ls' := [some (vR 0)]) (st' := []) (L' := LR (uZ z8 52 r8) f8) 1 (b232_24 (mcall (d + 1)) r8 _ z8 f8) ?_
  refine rc_b (i' := 52) (ls' := [some (vR 0)]) (st' := [vI (z8 54), vR 0, vR 0]) (L' := LR (uZ z8 52 r8) f8) 4 (b232_25 (mcall (d + 1)) (uZ z8 52 r8) f8) ?_
  obtain ⟨r9, z9, f9, hc, H⟩ := H
  refine rc_call (t := 53) (ls' := [some (vR 0)]) (st' := [vR 0]) (b232_26 (mcall (d + 1)) (z8 54) _ (uZ z8 52 r8) f8) hc ?_
  show RC (mcall (d + 1)) (mP 232) 53 [some (vR 0)] [vI r9, vR 0] (LR z9 f9) res
  refine rc_b (i' := 54) (ls' := [some (vR 0)]) (st' := []) (L' := LR (uZ z9 54 r9) f9) 1 (b232_27 (mcall (d + 1)) r9 _ z9 f9) ?_
  refine rc_b (i' := 58) (ls' := [some (vR 0)]) (st' := [vI (z9 57), vR 0, vR 0]) (L' := LR (uZ z9 54 r9) f9) 4 (b232_28 (mcall (d + 1)) (uZ z9 54 r9) f9) ?_
  obtain ⟨r10, z10, f10, hc, H⟩ := H
  refine rc_call (t := 59) (ls' := [some (vR 0)]) (st' := [vR 0]) (b232_29 (mcall (d + 1)) (z9 57) _ (uZ z9 54 r9) f9) hc ?_
  show RC (mcall (d + 1)) (mP 232) 59 [some (vR 0)] [vI r10, vR 0] (LR z10 f10) res
  refine rc_b (i' := 60) (ls' := [some (vR 0)]) (st' := []) (L' := LR (uZ z10 57 r10) f10) 1 (b232_30 (mcall (d + 1)) r10 _ z10 f10) ?_
  refine rc_b (i' := 64) (ls' := [some (vR 0)]) (st' := [vI (z10 61), vR 0, vR 0]) (L' := LR (uZ z10 57 r10) f10) 4 (b232_31 (mcall (d + 1)) (uZ z10 57 r10) f10) ?_
  obtain ⟨r11, z11, f11, hc, H⟩ := H
  refine rc_call (t := 65) (ls' := [some (vR 0)]) (st' := [vR 0]) (b232_32 (mcall (d + 1)) (z10 61) _ (uZ z10 57 r10) f10) hc ?_
  show RC (mcall (d + 1)) (mP 232) 65 [some (vR 0)] [vI r11, vR 0] (LR z11 f11) res
  refine rc_b (i' := 66) (ls' := [some (vR 0)]) (st' := []) (L' := LR (uZ z11 61 r11) f11) 1 (b232_33 (mcall (d + 1)) r11 _ z11 f11) ?_
  refine rc_b (i' := 70) (ls' := [some (vR 0)]) (st' := [vI (z11 63), vR 0, vR 0]) (L' := LR (uZ z11 61 r11) f11) 4 (b232_34 (mcall (d + 1)) (uZ z11 61 r11) f11) ?_
  obtain ⟨r12, z12, f12, hc, H⟩ := H
  refine rc_call (t := 71) (ls' := [some (vR 0)]) (st' := [vR 0]) (b232_35 (mcall (d + 1)) (z11 63) _ (uZ z11 61 r11) f11) hc ?_
  show RC (mcall (d + 1)) (mP 232) 71 [some (vR 0)] [vI r12, vR 0] (LR z12 f12) res
  refine rc_b (i' := 72) (ls' := [some (vR 0)]) (st' := []) (L' := LR (uZ z12 63 r12) f12) 1 (b232_36 (mcall (d + 1)) r12 _ z12 f12) ?_
  refine rc_b (i' := 76) (ls' := [some (vR 0)]) (st' := [vI (z12 65), vR 0, vR 0]) (L' := LR (uZ z12 63 r12) f12) 4 (b232_37 (mcall (d + 1)) (uZ z12 63 r12) f12) ?_
  obtain ⟨r13, z13, f13, hc, H⟩ := H
  refine rc_call (t := 77) (ls' := [some (vR 0)]) (st' := [vR 0]) (b232_38 (mcall (d + 1)) (z12 65) _ (uZ z12 63 r12) f12) hc ?_
  show RC (mcall (d + 1)) (mP 232) 77 [some (vR 0)] [vI r13, vR 0] (LR z13 f13) res
  refine rc_b (i' := 78) (ls' := [some (vR 0)]) (st' := []) (L' := LR (uZ z13 65 r13) f13) 1 (b232_39 (mcall (d + 1)) r13 _ z13 f13) ?_
  subst H
  exact rc_ret (b232_40 (mcall (d + 1)) _ _)
theorem keepsMany_r (d0 : Nat) {tk : Bool} {z Z0 : Nat → Int32} {f f0 : Nat → FA} (h0 : INV tk 499 Z0 f0 z f) : ∃ z' f', mcall (d0 + 2) 232 [vR 0] (LR z f) = some (none, LR z' f') ∧ INV tk 512 Z0 f0 z' f' := by
  obtain ⟨v1, z1, f1, c1, h1⟩ := kp_fld d0 (P' := 500) h0 (by omega) rfl lyf_6 (by decide)
  obtain ⟨v2, z2, f2, c2, h2⟩ := kp_fld d0 (P' := 501) h1 (by omega) rfl lyf_34 (by decide)
  obtain ⟨v3, z3, f3, c3, h3⟩ := kp_fld d0 (P' := 502) h2 (by omega) rfl lyf_36 (by decide)
  obtain ⟨v4, z4, f4, c4, h4⟩ := kp_fld d0 (P' := 503) h3 (by omega) rfl lyf_38 (by decide)
  obtain ⟨v5, z5, f5, c5, h5⟩ := kp_fld d0 (P' := 504) h4 (by omega) rfl lyf_43 (by decide)
  obtain ⟨v6, z6, f6, c6, h6⟩ := kp_fld d0 (P' := 505) h5 (by omega) rfl lyf_46 (by decide)
  obtain ⟨v7, z7, f7, c7, h7⟩ := kp_fld d0 (P' := 506) h6 (by omega) rfl lyf_50 (by decide)
  obtain ⟨v8, z8, f8, c8, h8⟩ := kp_fld d0 (P' := 507) h7 (by omega) rfl lyf_52 (by decide)
  obtain ⟨v9, z9, f9, c9, h9⟩ := kp_fld d0 (P' := 508) h8 (by omega) rfl lyf_54 (by decide)
  obtain ⟨v10, z10, f10, c10, h10⟩ := kp_fld d0 (P' := 509) h9 (by omega) rfl lyf_57 (by decide)
  obtain ⟨v11, z11, f11, c11, h11⟩ := kp_fld d0 (P' := 510) h10 (by omega) rfl lyf_61 (by decide)
  obtain ⟨v12, z12, f12, c12, h12⟩ := kp_fld d0 (P' := 511) h11 (by omega) rfl lyf_63 (by decide)
  obtain ⟨v13, z13, f13, c13, h13⟩ := kp_fld d0 (P' := 512) h12 (by omega) rfl lyf_65 (by decide)
  exact ⟨_, _, mcall_i (mq232 (cu := [])).2.2 rfl (vc232_0 _ _ _ _ ⟨v1, z1, f1, c1, v2, z2, f2, c2, v3, z3, f3, c3, v4, z4, f4, c4, v5, z5, f5, c5, v6, z6, f6, c6, v7, z7, f7, c7, v8, z8, f8, c8, v9, z9, f9, c9, v10, z10, f10, c10, v11, z11, f11, c11, v12, z12, f12, c12, v13, z13, f13, c13, rfl⟩), h13⟩
set_option maxRecDepth 100000 in
theorem b233_1 (call : QC FA) (o1 : Option PV) (L : QH FA) (F : Nat) : rnG call 233 (F + 2) 0 [some (vR 0), o1] [] L = rnG call 233 F 2 [some (vR 0), some (vI 0)] [] L := rfl
theorem vc233_0 (d : Nat) (o1 : Option PV) (z : Nat → Int32) (f : Nat → FA) (res : Option PV × QH FA) (H : RC (mcall (d + 1)) (mP 233) 2 [some (vR 0), some (vI 0)] [] (LR z f) res) : RC (mcall (d + 1)) (mP 233) 0 [some (vR 0), o1] [] (LR z f) res := by
  refine rc_b (i' := 2) (ls' := [some (vR 0), some (vI 0)]) (st' := []) (L' := LR z f) 2 (b233_1 (mcall (d + 1)) o1 _) ?_
  exact H
set_option maxRecDepth 100000 in
theorem bc2_233_1 (call : QC FA) (x1 : Int32) (L : QH FA) (F : Nat) : rnG call 233 (F + 2) 2 [some (vR 0), some (vI x1)] [] L = rnG call 233 F 4 [some (vR 0), some (vI x1)] [vI 20, vI x1] L := rfl
set_option maxRecDepth 100000 in
theorem bc2_233_2 (call : QC FA) (x y : Int32) (ls : List (Option PV)) (L : QH FA) (F : Nat) : rnG call 233 (F + 1) 4 ls [vI y, vI x] L = bif pcmp 3 x y then rnG call 233 F 47 ls [] L else rnG call 233 F 5 ls [] L := rfl
set_option maxRecDepth 100000 in
theorem bc2_233_3 (call : QC FA) (x1 : Int32) (L : QH FA) (F : Nat) : rnG call 233 (F + 2) 47 [some (vR 0), some (vI x1)] [] L = rnG call 233 F 49 [some (vR 0), some (vI 0)] [] L := rfl
set_option maxRecDepth 100000 in
theorem bc2_233_4 (call : QC FA) (x1 : Int32) (z : Nat → Int32) (f : Nat → FA) (F : Nat) : rnG call 233 (F + 7) 5 [some (vR 0), some (vI x1)] [] (LR z f) = rnG call 233 F 12 [some (vR 0), some (vI x1)] [vI x1, vR 4, vR 0, vI x1, vR 4] (LR z f) := rfl
set_option maxRecDepth 100000 in
theorem bc2_233_5 (call : QC FA) (x : Int32) (s1 : Int32) (ls : List (Option PV)) (z : Nat → Int32) (f : Nat → FA) (F : Nat) : rnG call 233 (F + 1) 12 ls [vI x, vR 4, vR 0, vI s1, vR 4] (LR z f) = bif (Nat.beq 0 0 && pin x 20) then rnG call 233 F 13 ls [vI (f 4 (ix x)), vR 0, vI s1, vR 4] (LR z f) else none := rfl
set_option maxRecDepth 100000 in
theorem bc2_233_6 (call : QC FA) (a0 : Int32) (s0 : Int32) (ls : List (Option PV)) (z : Nat → Int32) (f : Nat → FA) (F : Nat) : rnG call 233 (F + 1) 13 ls [vI a0, vR 0, vI s0, vR 4] (LR z f) = cbd (call 229 [vR 0, vI a0] (LR z f)) (fun r L' => rnG call 233 F 14 ls (r.toList ++ [vI s0, vR 4]) L') := pcY (ih := rnG call 233 F) (call := call) (a := 229) (b := 1) (v := 12) (t := 14) (x := 0) (ls := ls) (As := [vI a0]) (st' := [vI s0, vR 4]) (L := LR z f) rfl rfl rfl
set_option maxRecDepth 100000 in
theorem bc2_233_7 (call : QC FA) (x y : Int32) (ls : List (Option PV)) (z : Nat → Int32) (f : Nat → FA) (F : Nat) : rnG call 233 (F + 1) 14 ls [vI y, vI x, vR 4] (LR z f) = bif (Nat.beq 0 0 && pin x 20) then rnG call 233 F 15 ls [] (LR z (uA f 4 (upd (f 4) (ix x) y))) else none := rfl
set_option maxRecDepth 100000 in
theorem bc2_233_8 (call : QC FA) (x1 : Int32) (z : Nat → Int32) (f : Nat → FA) (F : Nat) : rnG call 233 (F + 7) 15 [some (vR 0), some (vI x1)] [] (LR z f) = rnG call 233 F 22 [some (vR 0), some (vI x1)] [vI x1, vR 5, vR 0, vI x1, vR 5] (LR z f) := rfl
set_option maxRecDepth 100000 in
theorem bc2_233_9 (call : QC FA) (x : Int32) (s1 : Int32) (ls : List (Option PV)) (z : Nat → Int32) (f : Nat → FA) (F : Nat) : rnG call 233 (F + 1) 22 ls [vI x, vR 5, vR 0, vI s1, vR 5] (LR z f) = bif (Nat.beq 0 0 && pin x 20) then rnG call 233 F 23 ls [vI (f 5 (ix x)), vR 0, vI s1, vR 5] (LR z f) else none := rfl
set_option maxRecDepth 100000 in
theorem bc2_233_10 (call : QC FA) (a0 : Int32) (s0 : Int32) (ls : List (Option PV)) (z : Nat → Int32) (f : Nat → FA) (F : Nat) : rnG call 233 (F + 1) 23 ls [vI a0, vR 0, vI s0, vR 5] (LR z f) = cbd (call 229 [vR 0, vI a0] (LR z f)) (fun r L' => rnG call 233 F 24 ls (r.toList ++ [vI s0, vR 5]) L') := pcY (ih := rnG call 233 F) (call := call) (a := 229) (b := 1) (v := 12) (t := 24) (x := 0) (ls := ls) (As := [vI a0]) (st' := [vI s0, vR 5]) (L := LR z f) rfl rfl rfl
set_option maxRecDepth 100000 in
theorem bc2_233_11 (call : QC FA) (x y : Int32) (ls : List (Option PV)) (z : Nat → Int32) (f : Nat → FA) (F : Nat) : rnG call 233 (F + 1) 24 ls [vI y, vI x, vR 5] (LR z f) = bif (Nat.beq 0 0 && pin x 20) then rnG call 233 F 25 ls [] (LR z (uA f 5 (upd (f 5) (ix x) y))) else none := rfl
set_option maxRecDepth 100000 in
theorem bc2_233_12 (call : QC FA) (x1 : Int32) (z : Nat → Int32) (f : Nat → FA) (F : Nat) : rnG call 233 (F + 7) 25 [some (vR 0), some (vI x1)] [] (LR z f) = rnG call 233 F 32 [some (vR 0), some (vI x1)] [vI x1, vR 6, vR 0, vI x1, vR 6] (LR z f) := rfl
set_option maxRecDepth 100000 in
theorem bc2_233_13 (call : QC FA) (x : Int32) (s1 : Int32) (ls : List (Option PV)) (z : Nat → Int32) (f : Nat → FA) (F : Nat) : rnG call 233 (F + 1) 32 ls [vI x, vR 6, vR 0, vI s1, vR 6] (LR z f) = bif (Nat.beq 0 0 && pin x 20) then rnG call 233 F 33 ls [vI (f 6 (ix x)), vR 0, vI s1, vR 6] (LR z f) else none := rfl
set_option maxRecDepth 100000 in
theorem bc2_233_14 (call : QC FA) (a0 : Int32) (s0 : Int32) (ls : List (Option PV)) (z : Nat → Int32) (f : Nat → FA) (F : Nat) : rnG call 233 (F + 1) 33 ls [vI a0, vR 0, vI s0, vR 6] (LR z f) = cbd (call 229 [vR 0, vI a0] (LR z f)) (fun r L' => rnG call 233 F 34 ls (r.toList ++ [vI s0, vR 6]) L') := pcY (ih := rnG call 233 F) (call := call) (a := 229) (b := 1) (v := 12) (t := 34) (x := 0) (ls := ls) (As := [vI a0]) (st' := [vI s0, vR 6]) (L := LR z f) rfl rfl rfl
set_option maxRecDepth 100000 in
theorem bc2_233_15 (call : QC FA) (x y : Int32) (ls : List (Option PV)) (z : Nat → Int32) (f : Nat → FA) (F : Nat) : rnG call 233 (F + 1) 34 ls [vI y, vI x, vR 6] (LR z f) = bif (Nat.beq 0 0 && pin x 20) then rnG call 233 F 35 ls [] (LR z (uA f 6 (upd (f 6) (ix x) y))) else none := rfl
set_option maxRecDepth 100000 in
theorem bc2_233_16 (call : QC FA) (x1 : Int32) (z : Nat → Int32) (f : Nat → FA) (F : Nat) : rnG call 233 (F + 7) 35 [some (vR 0), some (vI x1)] [] (LR z f) = rnG call 233 F 42 [some (vR 0), some (vI x1)] [vI x1, vR 20, vR 0, vI x1, vR 20] (LR z f) := rfl
set_option maxRecDepth 100000 in
theorem bc2_233_17 (call : QC FA) (x : Int32) (s1 : Int32) (ls : List (Option PV)) (z : Nat → Int32) (f : Nat → FA) (F : Nat) : rnG call 233 (F + 1) 42 ls [vI x, vR 20, vR 0, vI s1, vR 20] (LR z f) = bif (Nat.beq 0 0 && pin x 40) then rnG call 233 F 43 ls [vI (f 20 (ix x)), vR 0, vI s1, vR 20] (LR z f) else none := rfl
set_option maxRecDepth 100000 in
theorem bc2_233_18 (call : QC FA) (a0 : Int32) (s0 : Int32) (ls : List (Option PV)) (z : Nat → Int32) (f : Nat → FA) (F : Nat) : rnG call 233 (F + 1) 43 ls [vI a0, vR 0, vI s0, vR 20] (LR z f) = cbd (call 229 [vR 0, vI a0] (LR z f)) (fun r L' => rnG call 233 F 44 ls (r.toList ++ [vI s0, vR 20]) L') := pcY (ih := rnG call 233 F) (call := call) (a := 229) (b := 1) (v := 12) (t := 44) (x := 0) (ls := ls) (As := [vI a0]) (st' := [vI s0, vR 20]) (L := LR z f) rfl rfl rfl
set_option maxRecDepth 100000 in
theorem bc2_233_19 (call : QC FA) (x y : Int32) (ls : List (Option PV)) (z : Nat → Int32) (f : Nat → FA) (F : Nat) : rnG call 233 (F + 1) 44 ls [vI y, vI x, vR 20] (LR z f) = bif (Nat.beq 0 0 && pin x 40) then rnG call 233 F 45 ls [] (LR z (uA f 20 (upd (f 20) (ix x) y))) else none := rfl
set_option maxRecDepth 100000 in
theorem bc2_233_20 (call : QC FA) (x1 : Int32) (L : QH FA) (F : Nat) : rnG call 233 (F + 1) 45 [some (vR 0), some (vI x1)] [] L = rnG call 233 F 46 [some (vR 0), some (vI (x1 + 1))] [] L := rfl
set_option maxRecDepth 100000 in
theorem bc2_233_21 (call : QC FA) (x1 : Int32) (L : QH FA) (F : Nat) : rnG call 233 (F + 1) 46 [some (vR 0), some (vI x1)] [] L = rnG call 233 F 2 [some (vR 0), some (vI x1)] [] L := rfl
theorem vcc2_233_2 (d : Nat) (x1 : Int32) (z : Nat → Int32) (f : Nat → FA) (res : Option PV × QH FA) (H : ((20 ≤ I x1 → RC (mcall (d + 1)) (mP 233) 49 [some (vR 0), some (vI 0)] [] (LR z f) res) ∧ (I x1 < 20 → (pin x1 20 = true ∧ (∃ (r1 : Int32) (z1 : Nat → Int32) (f1 : Nat → FA), (mcall (d + 1)) 229 [vR 0, vI (f 4 (ix x1))] (LR z f) = some (some (vI r1), LR z1 f1) ∧ (pin x1 20 = true ∧ (pin x1 20 = true ∧ (∃ (r2 : Int32) (z2 : Nat → Int32) (f2 : Nat → FA), (mcall (d + 1)) 229 [vR 0, vI (f1 5 (ix x1))] (LR z1 (uA f1 4 (upd (f1 4) (ix x1) r1))) = some (some (vI r2), LR z2 f2) ∧ (pin x1 20 = true ∧ (pin x1 20 = true ∧ (∃ (r3 : Int32) (z3 : Nat → Int32) (f3 : Nat → FA), (mcall (d + 1)) 229 [vR 0, vI (f2 6 (ix x1))] (LR z2 (uA f2 5 (upd (f2 5) (ix x1) r2))) = some (some (vI r3), LR z3 f3) ∧ (pin x1 20 = true ∧ (pin x1 40 = true ∧ (∃ (r4 : Int32) (z4 : Nat → Int32) (f4 : Nat → FA), (mcall (d + 1)) 229 [vR 0, vI (f3 20 (ix x1))] (LR z3 (uA f3 6 (upd (f3 6) (ix x1) r3))) = some (some (vI r4), LR z4 f4) ∧ (pin x1 40 = true ∧ RC (mcall (d + 1)) (mP 233) 2 [some (vR 0), some (vI (x1 + 1))] [] (LR z4 (uA f4 20 (upd (f4 20) (ix x1) r4))) res))))))))))))))) : RC (mcall (d + 1)) (mP 233) 2 [some (vR 0), some (vI x1)] [] (LR z f) res := by
  refine rc_b (i' := 4) (ls' := [some (vR 0), some (vI x1)]) (st' := [vI 20, vI x1]) (L' := LR z f) 2 (bc2_233_1 (mcall (d + 1)) x1 _) ?_
  refine rc_if (it := 47) (ie := 5) (ls' := [some (vR 0), some (vI x1)]) (st' := []) (bc2_233_2 (mcall (d + 1)) x1 20 _ _) (fun q1 => ?_) (fun q1 => ?_)
  · have H := H.1 (cI3t q1 rfl rfl)
    refine rc_b (i' := 49) (ls' := [some (vR 0), some (vI 0)]) (st' := []) (L' := LR z f) 2 (bc2_233_3 (mcall (d + 1)) x1 _) ?_
    exact H
  · have H := H.2 (cI3f q1 rfl rfl)
    refine rc_b (i' := 12) (ls' := [some (vR 0), some (vI x1)]) (st' := [vI x1, vR 4, vR 0, vI x1, vR 4]) (L' := LR z f) 7 (bc2_233_4 (mcall (d + 1)) x1 z f) ?_
    obtain ⟨g1, H⟩ := H
    refine rc_g (i' := 13) (ls' := [some (vR 0), some (vI x1)]) (st' := [vI (f 4 (ix x1)), vR 0, vI x1, vR 4]) (L' := LR z f) (bc2_233_5 (mcall (d + 1)) x1 x1 _ z f) (pinG g1) ?_
    obtain ⟨r1, z1, f1, hc, H⟩ := H
    refine rc_call (t := 14) (ls' := [some (vR 0), some (vI x1)]) (st' := [vI x1, vR 4]) (bc2_233_6 (mcall (d + 1)) (f 4 (ix x1)) x1 _ z f) hc ?_
    show RC (mcall (d + 1)) (mP 233) 14 [some (vR 0), some (vI x1)] [vI r1, vI x1, vR 4] (LR z1 f1) res
    obtain ⟨g1, H⟩ := H
    refine rc_g (i' := 15) (ls' := [some (vR 0), some (vI x1)]) (st' := []) (L' := LR z1 (uA f1 4 (upd (f1 4) (ix x1) r1))) (bc2_233_7 (mcall (d + 1)) x1 r1 _ z1 f1) (pinG g1) ?_
    refine rc_b (i' := 22) (ls' := [some (vR 0), some (vI x1)]) (st' := [vI x1, vR 5, vR 0, vI x1, vR 5]) (L' := LR z1 (uA f1 4 (upd (f1 4) (ix x1) r1))) 7 (bc2_233_8 (mcall (d + 1)) x1 z1 (uA f1 4 (upd (f1 4) (ix x1) r1))) ?_
    obtain ⟨g1, H⟩ := H
    refine rc_g (i' := 23) (ls' := [some (vR 0), some (vI x1)]) (st' := [vI (f1 5 (ix x1)), vR 0, vI x1, vR 5]) (L' := LR z1 (uA f1 4 (upd (f1 4) (ix x1) r1))) (bc2_233_9 (mcall (d + 1)) x1 x1 _ z1 (uA f1 4 (upd (f1 4) (ix x1) r1))) (pinG g1) ?_
    obtain ⟨r2, z2, f2, hc, H⟩ := H
    refine rc_call (t := 24) (ls' := [some (vR 0), some (vI x1)]) (st' := [vI x1, vR 5]) (bc2_233_10 (mcall (d + 1)) (f1 5 (ix x1)) x1 _ z1 (uA f1 4 (upd (f1 4) (ix x1) r1))) hc ?_
    show RC (mcall (d + 1)) (mP 233) 24 [some (vR 0), some (vI x1)] [vI r2, vI x1, vR 5] (LR z2 f2) res
    obtain ⟨g1, H⟩ := H
    refine rc_g (i' := 25) (ls' := [some (vR 0), some (vI x1)]) (st' := []) (L' := LR z2 (uA f2 5 (upd (f2 5) (ix x1) r2))) (bc2_233_11 (mcall (d + 1)) x1 r2 _ z2 f2) (pinG g1) ?_
    refine rc_b (i' := 32) (ls' := [some (vR 0), some (vI x1)]) (st' := [vI x1, vR 6, vR 0, vI x1, vR 6]) (L' := LR z2 (uA f2 5 (upd (f2 5) (ix x1) r2))) 7 (bc2_233_12 (mcall (d + 1)) x1 z2 (uA f2 5 (upd (f2 5) (ix x1) r2))) ?_
    obtain ⟨g1, H⟩ := H
    refine rc_g (i' := 33) (ls' := [some (vR 0), some (vI x1)]) (st' := [vI (f2 6 (ix x1)), vR 0, vI x1, vR 6]) (L' := LR z2 (uA f2 5 (upd (f2 5) (ix x1) r2))) (bc2_233_13 (mcall (d + 1)) x1 x1 _ z2 (uA f2 5 (upd (f2 5) (ix x1) r2))) (pinG g1) ?_
    obtain ⟨r3, z3, f3, hc, H⟩ := H
    refine rc_call (t := 34) (ls' := [some (vR 0), some (vI x1)]) (st' := [vI x1, vR 6]) (bc2_233_14 (mcall (d + 1)) (f2 6 (ix x1)) x1 _ z2 (uA f2 5 (upd (f2 5) (ix x1) r2))) hc ?_
    show RC (mcall (d + 1)) (mP 233) 34 [some (vR 0), some (vI x1)] [vI r3, vI x1, vR 6] (LR z3 f3) res
    obtain ⟨g1, H⟩ := H
    refine rc_g (i' := 35) (ls' := [some (vR 0), some (vI x1)]) (st' := []) (L' := LR z3 (uA f3 6 (upd (f3 6) (ix x1) r3))) (bc2_233_15 (mcall (d + 1)) x1 r3 _ z3 f3) (pinG g1) ?_
    refine rc_b (i' := 42) (ls' := [some (vR 0), some (vI x1)]) (st' := [vI x1, vR 20, vR 0, vI x1, vR 20]) (L' := LR z3 (uA f3 6 (upd (f3 6) (ix x1) r3))) 7 (bc2_233_16 (mcall (d + 1)) x1 z3 (uA f3 6 (upd (f3 6) (ix x1) r3))) ?_
    obtain ⟨g1, H⟩ := H
    refine rc_g (i' := 43) (ls' := [some (vR 0), some (vI x1)]) (st' := [vI (f3 20 (ix x1)), vR 0, vI x1, vR 20]) (L' := LR z3 (uA f3 6 (upd (f3 6) (ix x1) r3))) (bc2_233_17 (mcall (d + 1)) x1 x1 _ z3 (uA f3 6 (upd (f3 6) (ix x1) r3))) (pinG g1) ?_
    obtain ⟨r4, z4, f4, hc, H⟩ := H
    refine rc_call (t := 44) (ls' := [some (vR 0), some (vI x1)]) (st' := [vI x1, vR 20]) (bc2_233_18 (mcall (d + 1)) (f3 20 (ix x1)) x1 _ z3 (uA f3 6 (upd (f3 6) (ix x1) r3))) hc ?_
    show RC (mcall (d + 1)) (mP 233) 44 [some (vR 0), some (vI x1)] [vI r4, vI x1, vR 20] (LR z4 f4) res
    obtain ⟨g1, H⟩ := H
    refine rc_g (i' := 45) (ls' := [some (vR 0), some (vI x1)]) (st' := []) (L' := LR z4 (uA f4 20 (upd (f4 20) (ix x1) r4))) (bc2_233_19 (mcall (d + 1)) x1 r4 _ z4 f4) (pinG g1) ?_
    refine rc_b (i' := 46) (ls' := [some (vR 0), some (vI (x1 + 1))]) (st' := []) (L' := LR z4 (uA f4 20 (upd (f4 20) (ix x1) r4))) 1 (bc2_233_20 (mcall (d + 1)) x1 _) ?_
    refine rc_b (i' := 2) (ls' := [some (vR 0), some (vI (x1 + 1))]) (st' := []) (L' := LR z4 (uA f4 20 (upd (f4 20) (ix x1) r4))) 1 (bc2_233_21 (mcall (d + 1)) (x1 + 1) _) ?_
    exact H
set_option maxRecDepth 100000 in
theorem bc49_233_1 (call : QC FA) (x1 : Int32) (L : QH FA) (F : Nat) : rnG call 233 (F + 2) 49 [some (vR 0), some (vI x1)] [] L = rnG call 233 F 51 [some (vR 0), some (vI x1)] [vI 6, vI x1] L := rfl
set_option maxRecDepth 100000 in
theorem bc49_233_2 (call : QC FA) (x y : Int32) (ls : List (Option PV)) (L : QH FA) (F : Nat) : rnG call 233 (F + 1) 51 ls [vI y, vI x] L = bif pcmp 3 x y then rnG call 233 F 64 ls [] L else rnG call 233 F 52 ls [] L := rfl
set_option maxRecDepth 100000 in
theorem bc49_233_3 (call : QC FA) (x1 : Int32) (L : QH FA) (F : Nat) : rnG call 233 (F + 2) 64 [some (vR 0), some (vI x1)] [] L = rnG call 233 F 66 [some (vR 0), some (vI 0)] [] L := rfl
set_option maxRecDepth 100000 in
theorem bc49_233_4 (call : QC FA) (x1 : Int32) (z : Nat → Int32) (f : Nat → FA) (F : Nat) : rnG call 233 (F + 7) 52 [some (vR 0), some (vI x1)] [] (LR z f) = rnG call 233 F 59 [some (vR 0), some (vI x1)] [vI x1, vR 24, vR 0, vI x1, vR 24] (LR z f) := rfl
set_option maxRecDepth 100000 in
theorem bc49_233_5 (call : QC FA) (x : Int32) (s1 : Int32) (ls : List (Option PV)) (z : Nat → Int32) (f : Nat → FA) (F : Nat) : rnG call 233 (F + 1) 59 ls [vI x, vR 24, vR 0, vI s1, vR 24] (LR z f) = bif (Nat.beq 0 0 && pin x 6) then rnG call 233 F 60 ls [vI (f 24 (ix x)), vR 0, vI s1, vR 24] (LR z f) else none := rfl
set_option maxRecDepth 100000 in
theorem bc49_233_6 (call : QC FA) (a0 : Int32) (s0 : Int32) (ls : List (Option PV)) (z : Nat → Int32) (f : Nat → FA) (F : Nat) : rnG call 233 (F + 1) 60 ls [vI a0, vR 0, vI s0, vR 24] (LR z f) = cbd (call 229 [vR 0, vI a0] (LR z f)) (fun r L' => rnG call 233 F 61 ls (r.toList ++ [vI s0, vR 24]) L') := pcY (ih := rnG call 233 F) (call := call) (a := 229) (b := 1) (v := 12) (t := 61) (x := 0) (ls := ls) (As := [vI a0]) (st' := [vI s0, vR 24]) (L := LR z f) rfl rfl rfl
set_option maxRecDepth 100000 in
theorem bc49_233_7 (call : QC FA) (x y : Int32) (ls : List (Option PV)) (z : Nat → Int32) (f : Nat → FA) (F : Nat) : rnG call 233 (F + 1) 61 ls [vI y, vI x, vR 24] (LR z f) = bif (Nat.beq 0 0 && pin x 6) then rnG call 233 F 62 ls [] (LR z (uA f 24 (upd (f 24) (ix x) y))) else none := rfl
set_option maxRecDepth 100000 in
theorem bc49_233_8 (call : QC FA) (x1 : Int32) (L : QH FA) (F : Nat) : rnG call 233 (F + 1) 62 [some (vR 0), some (vI x1)] [] L = rnG call 233 F 63 [some (vR 0), some (vI (x1 + 1))] [] L := rfl
set_option maxRecDepth 100000 in
theorem bc49_233_9 (call : QC FA) (x1 : Int32) (L : QH FA) (F : Nat) : rnG call 233 (F + 1) 63 [some (vR 0), some (vI x1)] [] L = rnG call 233 F 49 [some (vR 0), some (vI x1)] [] L := rfl
theorem vcc49_233_49 (d : Nat) (x1 : Int32) (z : Nat → Int32) (f : Nat → FA) (res : Option PV × QH FA) (H : ((6 ≤ I x1 → RC (mcall (d + 1)) (mP 233) 66 [some (vR 0), some (vI 0)] [] (LR z f) res) ∧ (I x1 < 6 → (pin x1 6 = true ∧ (∃ (r1 : Int32) (z1 : Nat → Int32) (f1 : Nat → FA), (mcall (d + 1)) 229 [vR 0, vI (f 24 (ix x1))] (LR z f) = some (some (vI r1), LR z1 f1) ∧ (pin x1 6 = true ∧ RC (mcall (d + 1)) (mP 233) 49 [some (vR 0), some (vI (x1 + 1))] [] (LR z1 (uA f1 24 (upd (f1 24) (ix x1) r1))) res)))))) : RC (mcall (d + 1)) (mP 233) 49 [some (vR 0), some (vI x1)] [] (LR z f) res := by
  refine rc_b (i' := 51) (ls' := [some (vR 0), some (vI x1)]) (st' := [vI 6, vI x1]) (L' := LR z f) 2 (bc49_233_1 (mcall (d + 1)) x1 _) ?_
  refine rc_if (it := 64) (ie := 52) (ls' := [some (vR 0), some (vI x1)]) (st' := []) (bc49_233_2 (mcall (d + 1)) x1 6 _ _) (fun q1 => ?_) (fun q1 => ?_)
  · have H := H.1 (cI3t q1 rfl rfl)
    refine rc_b (i' := 66) (ls' := [some (vR 0), some (vI 0)]) (st' := []) (L' := LR z f) 2 (bc49_233_3 (mcall (d + 1)) x1 _) ?_
    exact H
  · have H := H.2 (cI3f q1 rfl rfl)
    refine rc_b (i' := 59) (ls' := [some (vR 0), some (vI x1)]) (st' := [vI x1, vR 24, vR 0, vI x1, vR 24]) (L' := LR z f) 7 (bc49_233_4 (mcall (d + 1)) x1 z f) ?_
    obtain ⟨g1, H⟩ := H
    refine rc_g (i' := 60) (ls' := [some (vR 0), some (vI x1)]) (st' := [vI (f 24 (ix x1)), vR 0, vI x1, vR 24]) (L' := LR z f) (bc49_233_5 (mcall (d + 1)) x1 x1 _ z f) (pinG g1) ?_
    obtain ⟨r1, z1, f1, hc, H⟩ := H
    refine rc_call (t := 61) (ls' := [some (vR 0), some (vI x1)]) (st' := [vI x1, vR 24]) (bc49_233_6 (mcall (d + 1)) (f 24 (ix x1)) x1 _ z f) hc ?_
    show RC (mcall (d + 1)) (mP 233) 61 [some (vR 0), some (vI x1)] [vI r1, vI x1, vR 24] (LR z1 f1) res
    obtain ⟨g1, H⟩ := H
    refine rc_g (i' := 62) (ls' := [some (vR 0), some (vI x1)]) (st' := []) (L' := LR z1 (uA f1 24 (upd (f1 24) (ix x1) r1))) (bc49_233_7 (mcall (d + 1)) x1 r1 _ z1 f1) (pinG g1) ?_
    refine rc_b (i' := 63) (ls' := [some (vR 0), some (vI (x1 + 1))]) (st' := []) (L' := LR z1 (uA f1 24 (upd (f1 24) (ix x1) r1))) 1 (bc49_233_8 (mcall (d + 1)) x1 _) ?_
    refine rc_b (i' := 49) (ls' := [some (vR 0), some (vI (x1 + 1))]) (st' := []) (L' := LR z1 (uA f1 24 (upd (f1 24) (ix x1) r1))) 1 (bc49_233_9 (mcall (d + 1)) (x1 + 1) _) ?_
    exact H
set_option maxRecDepth 100000 in
theorem bc66_233_1 (call : QC FA) (x1 : Int32) (L : QH FA) (F : Nat) : rnG call 233 (F + 2) 66 [some (vR 0), some (vI x1)] [] L = rnG call 233 F 68 [some (vR 0), some (vI x1)] [vI 16, vI x1] L := rfl
set_option maxRecDepth 100000 in
theorem bc66_233_2 (call : QC FA) (x y : Int32) (ls : List (Option PV)) (L : QH FA) (F : Nat) : rnG call 233 (F + 1) 68 ls [vI y, vI x] L = bif pcmp 3 x y then rnG call 233 F 81 ls [] L else rnG call 233 F 69 ls [] L := rfl
set_option maxRecDepth 100000 in
theorem bc66_233_3 (call : QC FA) (x1 : Int32) (L : QH FA) (F : Nat) : rnG call 233 (F + 2) 81 [some (vR 0), some (vI x1)] [] L = rnG call 233 F 83 [some (vR 0), some (vI 0)] [] L := rfl
set_option maxRecDepth 100000 in
theorem bc66_233_4 (call : QC FA) (x1 : Int32) (z : Nat → Int32) (f : Nat → FA) (F : Nat) : rnG call 233 (F + 7) 69 [some (vR 0), some (vI x1)] [] (LR z f) = rnG call 233 F 76 [some (vR 0), some (vI x1)] [vI x1, vR 26, vR 0, vI x1, vR 26] (LR z f) := rfl
set_option maxRecDepth 100000 in
theorem bc66_233_5 (call : QC FA) (x : Int32) (s1 : Int32) (ls : List (Option PV)) (z : Nat → Int32) (f : Nat → FA) (F : Nat) : rnG call 233 (F + 1) 76 ls [vI x, vR 26, vR 0, vI s1, vR 26] (LR z f) = bif (Nat.beq 0 0 && pin x 16) then rnG call 233 F 77 ls [vI (f 26 (ix x)), vR 0, vI s1, vR 26] (LR z f) else none := rfl
set_option maxRecDepth 100000 in
theorem bc66_233_6 (call : QC FA) (a0 : Int32) (s0 : Int32) (ls : List (Option PV)) (z : Nat → Int32) (f : Nat → FA) (F : Nat) : rnG call 233 (F + 1) 77 ls [vI a0, vR 0, vI s0, vR 26] (LR z f) = cbd (call 229 [vR 0, vI a0] (LR z f)) (fun r L' => rnG call 233 F 78 ls (r.toList ++ [vI s0, vR 26]) L') := pcY (ih := rnG call 233 F) (call := call) (a := 229) (b := 1) (v := 12) (t := 78) (x := 0) (ls := ls) (As := [vI a0]) (st' := [vI s0, vR 26]) (L := LR z f) rfl rfl rfl
set_option maxRecDepth 100000 in
theorem bc66_233_7 (call : QC FA) (x y : Int32) (ls : List (Option PV)) (z : Nat → Int32) (f : Nat → FA) (F : Nat) : rnG call 233 (F + 1) 78 ls [vI y, vI x, vR 26] (LR z f) = bif (Nat.beq 0 0 && pin x 16) then rnG call 233 F 79 ls [] (LR z (uA f 26 (upd (f 26) (ix x) y))) else none := rfl
set_option maxRecDepth 100000 in
theorem bc66_233_8 (call : QC FA) (x1 : Int32) (L : QH FA) (F : Nat) : rnG call 233 (F + 1) 79 [some (vR 0), some (vI x1)] [] L = rnG call 233 F 80 [some (vR 0), some (vI (x1 + 1))] [] L := rfl
set_option maxRecDepth 100000 in
theorem bc66_233_9 (call : QC FA) (x1 : Int32) (L : QH FA) (F : Nat) : rnG call 233 (F + 1) 80 [some (vR 0), some (vI x1)] [] L = rnG call 233 F 66 [some (vR 0), some (vI x1)] [] L := rfl
theorem vcc66_233_66 (d : Nat) (x1 : Int32) (z : Nat → Int32) (f : Nat → FA) (res : Option PV × QH FA) (H : ((16 ≤ I x1 → RC (mcall (d + 1)) (mP 233) 83 [some (vR 0), some (vI 0)] [] (LR z f) res) ∧ (I x1 < 16 → (pin x1 16 = true ∧ (∃ (r1 : Int32) (z1 : Nat → Int32) (f1 : Nat → FA), (mcall (d + 1)) 229 [vR 0, vI (f 26 (ix x1))] (LR z f) = some (some (vI r1), LR z1 f1) ∧ (pin x1 16 = true ∧ RC (mcall (d + 1)) (mP 233) 66 [some (vR 0), some (vI (x1 + 1))] [] (LR z1 (uA f1 26 (upd (f1 26) (ix x1) r1))) res)))))) : RC (mcall (d + 1)) (mP 233) 66 [some (vR 0), some (vI x1)] [] (LR z f) res := by
  refine rc_b (i' := 68) (ls' := [some (vR 0), some (vI x1)]) (st' := [vI 16, vI x1]) (L' := LR z f) 2 (bc66_233_1 (mcall (d + 1)) x1 _) ?_
  refine rc_if (it := 81) (ie := 69) (ls' := [some (vR 0), some (vI x1)]) (st' := []) (bc66_233_2 (mcall (d + 1)) x1 16 _ _) (fun q1 => ?_) (fun q1 => ?_)
  · have H := H.1 (cI3t q1 rfl rfl)
    refine rc_b (i' := 83) (ls' := [some (vR 0), some (vI 0)]) (st' := []) (L' := LR z f) 2 (bc66_233_3 (mcall (d + 1)) x1 _) ?_
    exact H
  · have H := H.2 (cI3f q1 rfl rfl)
    refine rc_b (i' := 76) (ls' := [some (vR 0), some (vI x1)]) (st' := [vI x1, vR 26, vR 0, vI x1, vR 26]) (L' := LR z f) 7 (bc66_233_4 (mcall (d + 1)) x1 z f) ?_
    obtain ⟨g1, H⟩ := H
    refine rc_g (i' := 77) (ls' := [some (vR 0), some (vI x1)]) (st' := [vI (f 26 (ix x1)), vR 0, vI x1, vR 26]) (L' := LR z f) (bc66_233_5 (mcall (d + 1)) x1 x1 _ z f) (pinG g1) ?_
    obtain ⟨r1, z1, f1, hc, H⟩ := H
    refine rc_call (t := 78) (ls' := [some (vR 0), some (vI x1)]) (st' := [vI x1, vR 26]) (bc66_233_6 (mcall (d + 1)) (f 26 (ix x1)) x1 _ z f) hc ?_
    show RC (mcall (d + 1)) (mP 233) 78 [some (vR 0), some (vI x1)] [vI r1, vI x1, vR 26] (LR z1 f1) res
    obtain ⟨g1, H⟩ := H
    refine rc_g (i' := 79) (ls' := [some (vR 0), some (vI x1)]) (st' := []) (L' := LR z1 (uA f1 26 (upd (f1 26) (ix x1) r1))) (bc66_233_7 (mcall (d + 1)) x1 r1 _ z1 f1) (pinG g1) ?_
    refine rc_b (i' := 80) (ls' := [some (vR 0), some (vI (x1 + 1))]) (st' := []) (L' := LR z1 (uA f1 26 (upd (f1 26) (ix x1) r1))) 1 (bc66_233_8 (mcall (d + 1)) x1 _) ?_
    refine rc_b (i' := 66) (ls' := [some (vR 0), some (vI (x1 + 1))]) (st' := []) (L' := LR z1 (uA f1 26 (upd (f1 26) (ix x1) r1))) 1 (bc66_233_9 (mcall (d + 1)) (x1 + 1) _) ?_
    exact H
set_option maxRecDepth 100000 in
theorem bc83_233_1 (call : QC FA) (x1 : Int32) (L : QH FA) (F : Nat) : rnG call 233 (F + 2) 83 [some (vR 0), some (vI x1)] [] L = rnG call 233 F 85 [some (vR 0), some (vI x1)] [vI 15, vI x1] L := rfl
set_option maxRecDepth 100000 in
theorem bc83_233_2 (call : QC FA) (x y : Int32) (ls : List (Option PV)) (L : QH FA) (F : Nat) : rnG call 233 (F + 1) 85 ls [vI y, vI x] L = bif pcmp 3 x y then rnG call 233 F 108 ls [] L else rnG call 233 F 86 ls [] L := rfl
set_option maxRecDepth 100000 in
theorem bc83_233_3 (call : QC FA) (x1 : Int32) (L : QH FA) (F : Nat) : rnG call 233 (F + 2) 108 [some (vR 0), some (vI x1)] [] L = rnG call 233 F 110 [some (vR 0), some (vI 0)] [] L := rfl
set_option maxRecDepth 100000 in
theorem bc83_233_4 (call : QC FA) (x1 : Int32) (z : Nat → Int32) (f : Nat → FA) (F : Nat) : rnG call 233 (F + 7) 86 [some (vR 0), some (vI x1)] [] (LR z f) = rnG call 233 F 93 [some (vR 0), some (vI x1)] [vI x1, vR 29, vR 0, vI x1, vR 29] (LR z f) := rfl
set_option maxRecDepth 100000 in
theorem bc83_233_5 (call : QC FA) (x : Int32) (s1 : Int32) (ls : List (Option PV)) (z : Nat → Int32) (f : Nat → FA) (F : Nat) : rnG call 233 (F + 1) 93 ls [vI x, vR 29, vR 0, vI s1, vR 29] (LR z f) = bif (Nat.beq 0 0 && pin x 15) then rnG call 233 F 94 ls [vI (f 29 (ix x)), vR 0, vI s1, vR 29] (LR z f) else none := rfl
set_option maxRecDepth 100000 in
theorem bc83_233_6 (call : QC FA) (a0 : Int32) (s0 : Int32) (ls : List (Option PV)) (z : Nat → Int32) (f : Nat → FA) (F : Nat) : rnG call 233 (F + 1) 94 ls [vI a0, vR 0, vI s0, vR 29] (LR z f) = cbd (call 229 [vR 0, vI a0] (LR z f)) (fun r L' => rnG call 233 F 95 ls (r.toList ++ [vI s0, vR 29]) L') := pcY (ih := rnG call 233 F) (call := call) (a := 229) (b := 1) (v := 12) (t := 95) (x := 0) (ls := ls) (As := [vI a0]) (st' := [vI s0, vR 29]) (L := LR z f) rfl rfl rfl
set_option maxRecDepth 100000 in
theorem bc83_233_7 (call : QC FA) (x y : Int32) (ls : List (Option PV)) (z : Nat → Int32) (f : Nat → FA) (F : Nat) : rnG call 233 (F + 1) 95 ls [vI y, vI x, vR 29] (LR z f) = bif (Nat.beq 0 0 && pin x 15) then rnG call 233 F 96 ls [] (LR z (uA f 29 (upd (f 29) (ix x) y))) else none := rfl
set_option maxRecDepth 100000 in
theorem bc83_233_8 (call : QC FA) (x1 : Int32) (z : Nat → Int32) (f : Nat → FA) (F : Nat) : rnG call 233 (F + 7) 96 [some (vR 0), some (vI x1)] [] (LR z f) = rnG call 233 F 103 [some (vR 0), some (vI x1)] [vI x1, vR 30, vR 0, vI x1, vR 30] (LR z f) := rfl
set_option maxRecDepth 100000 in
theorem bc83_233_9 (call : QC FA) (x : Int32) (s1 : Int32) (ls : List (Option PV)) (z : Nat → Int32) (f : Nat → FA) (F : Nat) : rnG call 233 (F + 1) 103 ls [vI x, vR 30, vR 0, vI s1, vR 30] (LR z f) = bif (Nat.beq 0 0 && pin x 15) then rnG call 233 F 104 ls [vI (f 30 (ix x)), vR 0, vI s1, vR 30] (LR z f) else none := rfl
set_option maxRecDepth 100000 in
theorem bc83_233_10 (call : QC FA) (a0 : Int32) (s0 : Int32) (ls : List (Option PV)) (z : Nat → Int32) (f : Nat → FA) (F : Nat) : rnG call 233 (F + 1) 104 ls [vI a0, vR 0, vI s0, vR 30] (LR z f) = cbd (call 229 [vR 0, vI a0] (LR z f)) (fun r L' => rnG call 233 F 105 ls (r.toList ++ [vI s0, vR 30]) L') := pcY (ih := rnG call 233 F) (call := call) (a := 229) (b := 1) (v := 12) (t := 105) (x := 0) (ls := ls) (As := [vI a0]) (st' := [vI s0, vR 30]) (L := LR z f) rfl rfl rfl
set_option maxRecDepth 100000 in
theorem bc83_233_11 (call : QC FA) (x y : Int32) (ls : List (Option PV)) (z : Nat → Int32) (f : Nat → FA) (F : Nat) : rnG call 233 (F + 1) 105 ls [vI y, vI x, vR 30] (LR z f) = bif (Nat.beq 0 0 && pin x 15) then rnG call 233 F 106 ls [] (LR z (uA f 30 (upd (f 30) (ix x) y))) else none := rfl
set_option maxRecDepth 100000 in
theorem bc83_233_12 (call : QC FA) (x1 : Int32) (L : QH FA) (F : Nat) : rnG call 233 (F + 1) 106 [some (vR 0), some (vI x1)] [] L = rnG call 233 F 107 [some (vR 0), some (vI (x1 + 1))] [] L := rfl
set_option maxRecDepth 100000 in
theorem bc83_233_13 (call : QC FA) (x1 : Int32) (L : QH FA) (F : Nat) : rnG call 233 (F + 1) 107 [some (vR 0), some (vI x1)] [] L = rnG call 233 F 83 [some (vR 0), some (vI x1)] [] L := rfl
theorem vcc83_233_83 (d : Nat) (x1 : Int32) (z : Nat → Int32) (f : Nat → FA) (res : Option PV × QH FA) (H : ((15 ≤ I x1 → RC (mcall (d + 1)) (mP 233) 110 [some (vR 0), some (vI 0)] [] (LR z f) res) ∧ (I x1 < 15 → (pin x1 15 = true ∧ (∃ (r1 : Int32) (z1 : Nat → Int32) (f1 : Nat → FA), (mcall (d + 1)) 229 [vR 0, vI (f 29 (ix x1))] (LR z f) = some (some (vI r1), LR z1 f1) ∧ (pin x1 15 = true ∧ (pin x1 15 = true ∧ (∃ (r2 : Int32) (z2 : Nat → Int32) (f2 : Nat → FA), (mcall (d + 1)) 229 [vR 0, vI (f1 30 (ix x1))] (LR z1 (uA f1 29 (upd (f1 29) (ix x1) r1))) = some (some (vI r2), LR z2 f2) ∧ (pin x1 15 = true ∧ RC (mcall (d + 1)) (mP 233) 83 [some (vR 0), some (vI (x1 + 1))] [] (LR z2 (uA f2 30 (upd (f2 30) (ix x1) r2))) res))))))))) : RC (mcall (d + 1)) (mP 233) 83 [some (vR 0), some (vI x1)] [] (LR z f) res := by
  refine rc_b (i' := 85) (ls' := [some (vR 0), some (vI x1)]) (st' := [vI 15, vI x1]) (L' := LR z f) 2 (bc83_233_1 (mcall (d + 1)) x1 _) ?_
  refine rc_if (it := 108) (ie := 86) (ls' := [some (vR 0), some (vI x1)]) (st' := []) (bc83_233_2 (mcall (d + 1)) x1 15 _ _) (fun q1 => ?_) (fun q1 => ?_)
  · have H := H.1 (cI3t q1 rfl rfl)
    refine rc_b (i' := 110) (ls' := [some (vR 0), some (vI 0)]) (st' := []) (L' := LR z f) 2 (bc83_233_3 (mcall (d + 1)) x1 _) ?_
    exact H
  · have H := H.2 (cI3f q1 rfl rfl)
    refine rc_b (i' := 93) (ls' := [some (vR 0), some (vI x1)]) (st' := [vI x1, vR 29, vR 0, vI x1, vR 29]) (L' := LR z f) 7 (bc83_233_4 (mcall (d + 1)) x1 z f) ?_
    obtain ⟨g1, H⟩ := H
    refine rc_g (i' := 94) (ls' := [some (vR 0), some (vI x1)]) (st' := [vI (f 29 (ix x1)), vR 0, vI x1, vR 29]) (L' := LR z f) (bc83_233_5 (mcall (d + 1)) x1 x1 _ z f) (pinG g1) ?_
    obtain ⟨r1, z1, f1, hc, H⟩ := H
    refine rc_call (t := 95) (ls' := [some (vR 0), some (vI x1)]) (st' := [vI x1, vR 29]) (bc83_233_6 (mcall (d + 1)) (f 29 (ix x1)) x1 _ z f) hc ?_
    show RC (mcall (d + 1)) (mP 233) 95 [some (vR 0), some (vI x1)] [vI r1, vI x1, vR 29] (LR z1 f1) res
    obtain ⟨g1, H⟩ := H
    refine rc_g (i' := 96) (ls' := [some (vR 0), some (vI x1)]) (st' := []) (L' := LR z1 (uA f1 29 (upd (f1 29) (ix x1) r1))) (bc83_233_7 (mcall (d + 1)) x1 r1 _ z1 f1) (pinG g1) ?_
    refine rc_b (i' := 103) (ls' := [some (vR 0), some (vI x1)]) (st' := [vI x1, vR 30, vR 0, vI x1, vR 30]) (L' := LR z1 (uA f1 29 (upd (f1 29) (ix x1) r1))) 7 (bc83_233_8 (mcall (d + 1)) x1 z1 (uA f1 29 (upd (f1 29) (ix x1) r1))) ?_
    obtain ⟨g1, H⟩ := H
    refine rc_g (i' := 104) (ls' := [some (vR 0), some (vI x1)]) (st' := [vI (f1 30 (ix x1)), vR 0, vI x1, vR 30]) (L' := LR z1 (uA f1 29 (upd (f1 29) (ix x1) r1))) (bc83_233_9 (mcall (d + 1)) x1 x1 _ z1 (uA f1 29 (upd (f1 29) (ix x1) r1))) (pinG g1) ?_
    obtain ⟨r2, z2, f2, hc, H⟩ := H
    refine rc_call (t := 105) (ls' := [some (vR 0), some (vI x1)]) (st' := [vI x1, vR 30]) (bc83_233_10 (mcall (d + 1)) (f1 30 (ix x1)) x1 _ z1 (uA f1 29 (upd (f1 29) (ix x1) r1))) hc ?_
    show RC (mcall (d + 1)) (mP 233) 105 [some (vR 0), some (vI x1)] [vI r2, vI x1, vR 30] (LR z2 f2) res
    obtain ⟨g1, H⟩ := H
    refine rc_g (i' := 106) (ls' := [some (vR 0), some (vI x1)]) (st' := []) (L' := LR z2 (uA f2 30 (upd (f2 30) (ix x1) r2))) (bc83_233_11 (mcall (d + 1)) x1 r2 _ z2 f2) (pinG g1) ?_
    refine rc_b (i' := 107) (ls' := [some (vR 0), some (vI (x1 + 1))]) (st' := []) (L' := LR z2 (uA f2 30 (upd (f2 30) (ix x1) r2))) 1 (bc83_233_12 (mcall (d + 1)) x1 _) ?_
    refine rc_b (i' := 83) (ls' := [some (vR 0), some (vI (x1 + 1))]) (st' := []) (L' := LR z2 (uA f2 30 (upd (f2 30) (ix x1) r2))) 1 (bc83_233_13 (mcall (d + 1)) (x1 + 1) _) ?_
    exact H
set_option maxRecDepth 100000 in
theorem bc110_233_1 (call : QC FA) (x1 : Int32) (L : QH FA) (F : Nat) : rnG call 233 (F + 2) 110 [some (vR 0), some (vI x1)] [] L = rnG call 233 F 112 [some (vR 0), some (vI x1)] [vI 8, vI x1] L := rfl
set_option maxRecDepth 100000 in
theorem bc110_233_2 (call : QC FA) (x y : Int32) (ls : List (Option PV)) (L : QH FA) (F : Nat) : rnG call 233 (F + 1) 112 ls [vI y, vI x] L = bif pcmp 3 x y then rnG call 233 F 165 ls [] L else rnG call 233 F 113 ls [] L := rfl
set_option maxRecDepth 100000 in
theorem bc110_233_3 (call : QC FA) (x1 : Int32) (L : QH FA) (F : Nat) : rnG call 233 (F + 2) 165 [some (vR 0), some (vI x1)] [] L = rnG call 233 F 167 [some (vR 0), some (vI 0)] [] L := rfl
set_option maxRecDepth 100000 in
theorem bc110_233_4 (call : QC FA) (x1 : Int32) (z : Nat → Int32) (f : Nat → FA) (F : Nat) : rnG call 233 (F + 7) 113 [some (vR 0), some (vI x1)] [] (LR z f) = rnG call 233 F 120 [some (vR 0), some (vI x1)] [vI x1, vR 31, vR 0, vI x1, vR 31] (LR z f) := rfl
set_option maxRecDepth 100000 in
theorem bc110_233_5 (call : QC FA) (x : Int32) (s1 : Int32) (ls : List (Option PV)) (z : Nat → Int32) (f : Nat → FA) (F : Nat) : rnG call 233 (F + 1) 120 ls [vI x, vR 31, vR 0, vI s1, vR 31] (LR z f) = bif (Nat.beq 0 0 && pin x 8) then rnG call 233 F 121 ls [vI (f 31 (ix x)), vR 0, vI s1, vR 31] (LR z f) else none := rfl
set_option maxRecDepth 100000 in
theorem bc110_233_6 (call : QC FA) (a0 : Int32) (s0 : Int32) (ls : List (Option PV)) (z : Nat → Int32) (f : Nat → FA) (F : Nat) : rnG call 233 (F + 1) 121 ls [vI a0, vR 0, vI s0, vR 31] (LR z f) = cbd (call 229 [vR 0, vI a0] (LR z f)) (fun r L' => rnG call 233 F 122 ls (r.toList ++ [vI s0, vR 31]) L') := pcY (ih := rnG call 233 F) (call := call) (a := 229) (b := 1) (v := 12) (t := 122) (x := 0) (ls := ls) (As := [vI a0]) (st' := [vI s0, vR 31]) (L := LR z f) rfl rfl rfl
set_option maxRecDepth 100000 in
theorem bc110_233_7 (call : QC FA) (x y : Int32) (ls : List (Option PV)) (z : Nat → Int32) (f : Nat → FA) (F : Nat) : rnG call 233 (F + 1) 122 ls [vI y, vI x, vR 31] (LR z f) = bif (Nat.beq 0 0 && pin x 8) then rnG call 233 F 123 ls [] (LR z (uA f 31 (upd (f 31) (ix x) y))) else none := rfl
set_option maxRecDepth 100000 in
theorem bc110_233_8 (call : QC FA) (x1 : Int32) (z : Nat → Int32) (f : Nat → FA) (F : Nat) : rnG call 233 (F + 7) 123 [some (vR 0), some (vI x1)] [] (LR z f) = rnG call 233 F 130 [some (vR 0), some (vI x1)] [vI x1, vR 33, vR 0, vI x1, vR 33] (LR z f) := rfl
set_option maxRecDepth 100000 in
theorem bc110_233_9 (call : QC FA) (x : Int32) (s1 : Int32) (ls : List (Option PV)) (z : Nat → Int32) (f : Nat → FA) (F : Nat) : rnG call 233 (F + 1) 130 ls [vI x, vR 33, vR 0, vI s1, vR 33] (LR z f) = bif (Nat.beq 0 0 && pin x 8) then rnG call 233 F 131 ls [vI (f 33 (ix x)), vR 0, vI s1, vR 33] (LR z f) else none := rfl
set_option maxRecDepth 100000 in
theorem bc110_233_10 (call : QC FA) (a0 : Int32) (s0 : Int32) (ls : List (Option PV)) (z : Nat → Int32) (f : Nat → FA) (F : Nat) : rnG call 233 (F + 1) 131 ls [vI a0, vR 0, vI s0, vR 33] (LR z f) = cbd (call 229 [vR 0, vI a0] (LR z f)) (fun r L' => rnG call 233 F 132 ls (r.toList ++ [vI s0, vR 33]) L') := pcY (ih := rnG call 233 F) (call := call) (a := 229) (b := 1) (v := 12) (t := 132) (x := 0) (ls := ls) (As := [vI a0]) (st' := [vI s0, vR 33]) (L := LR z f) rfl rfl rfl
set_option maxRecDepth 100000 in
theorem bc110_233_11 (call : QC FA) (x y : Int32) (ls : List (Option PV)) (z : Nat → Int32) (f : Nat → FA) (F : Nat) : rnG call 233 (F + 1) 132 ls [vI y, vI x, vR 33] (LR z f) = bif (Nat.beq 0 0 && pin x 8) then rnG call 233 F 133 ls [] (LR z (uA f 33 (upd (f 33) (ix x) y))) else none := rfl
set_option maxRecDepth 100000 in
theorem bc110_233_12 (call : QC FA) (x1 : Int32) (z : Nat → Int32) (f : Nat → FA) (F : Nat) : rnG call 233 (F + 7) 133 [some (vR 0), some (vI x1)] [] (LR z f) = rnG call 233 F 140 [some (vR 0), some (vI x1)] [vI x1, vR 34, vR 0, vI x1, vR 34] (LR z f) := rfl
set_option maxRecDepth 100000 in
theorem bc110_233_13 (call : QC FA) (x : Int32) (s1 : Int32) (ls : List (Option PV)) (z : Nat → Int32) (f : Nat → FA) (F : Nat) : rnG call 233 (F + 1) 140 ls [vI x, vR 34, vR 0, vI s1, vR 34] (LR z f) = bif (Nat.beq 0 0 && pin x 8) then rnG call 233 F 141 ls [vI (f 34 (ix x)), vR 0, vI s1, vR 34] (LR z f) else none := rfl
set_option maxRecDepth 100000 in
theorem bc110_233_14 (call : QC FA) (a0 : Int32) (s0 : Int32) (ls : List (Option PV)) (z : Nat → Int32) (f : Nat → FA) (F : Nat) : rnG call 233 (F + 1) 141 ls [vI a0, vR 0, vI s0, vR 34] (LR z f) = cbd (call 229 [vR 0, vI a0] (LR z f)) (fun r L' => rnG call 233 F 142 ls (r.toList ++ [vI s0, vR 34]) L') := pcY (ih := rnG call 233 F) (call := call) (a := 229) (b := 1) (v := 12) (t := 142) (x := 0) (ls := ls) (As := [vI a0]) (st' := [vI s0, vR 34]) (L := LR z f) rfl rfl rfl
set_option maxRecDepth 100000 in
theorem bc110_233_15 (call : QC FA) (x y : Int32) (ls : List (Option PV)) (z : Nat → Int32) (f : Nat → FA) (F : Nat) : rnG call 233 (F + 1) 142 ls [vI y, vI x, vR 34] (LR z f) = bif (Nat.beq 0 0 && pin x 8) then rnG call 233 F 143 ls [] (LR z (uA f 34 (upd (f 34) (ix x) y))) else none := rfl
set_option maxRecDepth 100000 in
theorem bc110_233_16 (call : QC FA) (x1 : Int32) (z : Nat → Int32) (f : Nat → FA) (F : Nat) : rnG call 233 (F + 7) 143 [some (vR 0), some (vI x1)] [] (LR z f) = rnG call 233 F 150 [some (vR 0), some (vI x1)] [vI x1, vR 37, vR 0, vI x1, vR 37] (LR z f) := rfl
set_option maxRecDepth 100000 in
theorem bc110_233_17 (call : QC FA) (x : Int32) (s1 : Int32) (ls : List (Option PV)) (z : Nat → Int32) (f : Nat → FA) (F : Nat) : rnG call 233 (F + 1) 150 ls [vI x, vR 37, vR 0, vI s1, vR 37] (LR z f) = bif (Nat.beq 0 0 && pin x 8) then rnG call 233 F 151 ls [vI (f 37 (ix x)), vR 0, vI s1, vR 37] (LR z f) else none := rfl
set_option maxRecDepth 100000 in
theorem bc110_233_18 (call : QC FA) (a0 : Int32) (s0 : Int32) (ls : List (Option PV)) (z : Nat → Int32) (f : Nat → FA) (F : Nat) : rnG call 233 (F + 1) 151 ls [vI a0, vR 0, vI s0, vR 37] (LR z f) = cbd (call 229 [vR 0, vI a0] (LR z f)) (fun r L' => rnG call 233 F 152 ls (r.toList ++ [vI s0, vR 37]) L') := pcY (ih := rnG call 233 F) (call := call) (a := 229) (b := 1) (v := 12) (t := 152) (x := 0) (ls := ls) (As := [vI a0]) (st' := [vI s0, vR 37]) (L := LR z f) rfl rfl rfl
set_option maxRecDepth 100000 in
theorem bc110_233_19 (call : QC FA) (x y : Int32) (ls : List (Option PV)) (z : Nat → Int32) (f : Nat → FA) (F : Nat) : rnG call 233 (F + 1) 152 ls [vI y, vI x, vR 37] (LR z f) = bif (Nat.beq 0 0 && pin x 8) then rnG call 233 F 153 ls [] (LR z (uA f 37 (upd (f 37) (ix x) y))) else none := rfl
set_option maxRecDepth 100000 in
theorem bc110_233_20 (call : QC FA) (x1 : Int32) (z : Nat → Int32) (f : Nat → FA) (F : Nat) : rnG call 233 (F + 7) 153 [some (vR 0), some (vI x1)] [] (LR z f) = rnG call 233 F 160 [some (vR 0), some (vI x1)] [vI x1, vR 38, vR 0, vI x1, vR 38] (LR z f) := rfl
set_option maxRecDepth 100000 in
theorem bc110_233_21 (call : QC FA) (x : Int32) (s1 : Int32) (ls : List (Option PV)) (z : Nat → Int32) (f : Nat → FA) (F : Nat) : rnG call 233 (F + 1) 160 ls [vI x, vR 38, vR 0, vI s1, vR 38] (LR z f) = bif (Nat.beq 0 0 && pin x 8) then rnG call 233 F 161 ls [vI (f 38 (ix x)), vR 0, vI s1, vR 38] (LR z f) else none := rfl
set_option maxRecDepth 100000 in
theorem bc110_233_22 (call : QC FA) (a0 : Int32) (s0 : Int32) (ls : List (Option PV)) (z : Nat → Int32) (f : Nat → FA) (F : Nat) : rnG call 233 (F + 1) 161 ls [vI a0, vR 0, vI s0, vR 38] (LR z f) = cbd (call 229 [vR 0, vI a0] (LR z f)) (fun r L' => rnG call 233 F 162 ls (r.toList ++ [vI s0, vR 38]) L') := pcY (ih := rnG call 233 F) (call := call) (a := 229) (b := 1) (v := 12) (t := 162) (x := 0) (ls := ls) (As := [vI a0]) (st' := [vI s0, vR 38]) (L := LR z f) rfl rfl rfl
set_option maxRecDepth 100000 in
theorem bc110_233_23 (call : QC FA) (x y : Int32) (ls : List (Option PV)) (z : Nat → Int32) (f : Nat → FA) (F : Nat) : rnG call 233 (F + 1) 162 ls [vI y, vI x, vR 38] (LR z f) = bif (Nat.beq 0 0 && pin x 8) then rnG call 233 F 163 ls [] (LR z (uA f 38 (upd (f 38) (ix x) y))) else none := rfl
set_option maxRecDepth 100000 in
theorem bc110_233_24 (call : QC FA) (x1 : Int32) (L : QH FA) (F : Nat) : rnG call 233 (F + 1) 163 [some (vR 0), some (vI x1)] [] L = rnG call 233 F 164 [some (vR 0), some (vI (x1 + 1))] [] L := rfl
set_option maxRecDepth 100000 in
theorem bc110_233_25 (call : QC FA) (x1 : Int32) (L : QH FA) (F : Nat) : rnG call 233 (F + 1) 164 [some (vR 0), some (vI x1)] [] L = rnG call 233 F 110 [some (vR 0), some (vI x1)] [] L := rfl
theorem vcc110_233_110 (d : Nat) (x1 : Int32) (z : Nat → Int32) (f : Nat → FA) (res : Option PV × QH FA) (H : ((8 ≤ I x1 → RC (mcall (d + 1)) (mP 233) 167 [some (vR 0), some (vI 0)] [] (LR z f) res) ∧ (I x1 < 8 → (pin x1 8 = true ∧ (∃ (r1 : Int32) (z1 : Nat → Int32) (f1 : Nat → FA), (mcall (d + 1)) 229 [vR 0, vI (f 31 (ix x1))] (LR z f) = some (some (vI r1), LR z1 f1) ∧ (pin x1 8 = true ∧ (pin x1 8 = true ∧ (∃ (r2 : Int32) (z2 : Nat → Int32) (f2 : Nat → FA), (mcall (d + 1)) 229 [vR 0, vI (f1 33 (ix x1))] (LR z1 (uA f1 31 (upd (f1 31) (ix x1) r1))) = some (some (vI r2), LR z2 f2) ∧ (pin x1 8 = true ∧ (pin x1 8 = true ∧ (∃ (r3 : Int32) (z3 : Nat → Int32) (f3 : Nat → FA), (mcall (d + 1)) 229 [vR 0, vI (f2 34 (ix x1))] (LR z2 (uA f2 33 (upd (f2 33) (ix x1) r2))) = some (some (vI r3), LR z3 f3) ∧ (pin x1 8 = true ∧ (pin x1 8 = true ∧ (∃ (r4 : Int32) (z4 : Nat → Int32) (f4 : Nat → FA), (mcall (d + 1)) 229 [vR 0, vI (f3 37 (ix x1))] (LR z3 (uA f3 34 (upd (f3 34) (ix x1) r3))) = some (some (vI r4), LR z4 f4) ∧ (pin x1 8 = true ∧ (pin x1 8 = true ∧ (∃ (r5 : Int32) (z5 : Nat → Int32) (f5 : Nat → FA), (mcall (d + 1)) 229 [vR 0, vI (f4 38 (ix x1))] (LR z4 (uA f4 37 (upd (f4 37) (ix x1) r4))) = some (some (vI r5), LR z5 f5) ∧ (pin x1 8 = true ∧ RC (mcall (d + 1)) (mP 233) 110 [some (vR 0), some (vI (x1 + 1))] [] (LR z5 (uA f5 38 (upd (f5 38) (ix x1) r5))) res)))))))))))))))))) : RC (mcall (d + 1)) (mP 233) 110 [some (vR 0), some (vI x1)] [] (LR z f) res := by
  refine rc_b (i' := 112) (ls' := [some (vR 0), some (vI x1)]) (st' := [vI 8, vI x1]) (L' := LR z f) 2 (bc110_233_1 (mcall (d + 1)) x1 _) ?_
  refine rc_if (it := 165) (ie := 113) (ls' := [some (vR 0), some (vI x1)]) (st' := []) (bc110_233_2 (mcall (d + 1)) x1 8 _ _) (fun q1 => ?_) (fun q1 => ?_)
  · have H := H.1 (cI3t q1 rfl rfl)
    refine rc_b (i' := 167) (ls' := [some (vR 0), some (vI 0)]) (st' := []) (L' := LR z f) 2 (bc110_233_3 (mcall (d + 1)) x1 _) ?_
    exact H
  · have H := H.2 (cI3f q1 rfl rfl)
    refine rc_b (i' := 120) (ls' := [some (vR 0), some (vI x1)]) (st' := [vI x1, vR 31, vR 0, vI x1, vR 31]) (L' := LR z f) 7 (bc110_233_4 (mcall (d + 1)) x1 z f) ?_
    obtain ⟨g1, H⟩ := H
    refine rc_g (i' := 121) (ls' := [some (vR 0), some (vI x1)]) (st' := [vI (f 31 (ix x1)), vR 0, vI x1, vR 31]) (L' := LR z f) (bc110_233_5 (mcall (d + 1)) x1 x1 _ z f) (pinG g1) ?_
    obtain ⟨r1, z1, f1, hc, H⟩ := H
    refine rc_call (t := 122) (ls' := [some (vR 0), some (vI x1)]) (st' := [vI x1, vR 31]) (bc110_233_6 (mcall (d + 1)) (f 31 (ix x1)) x1 _ z f) hc ?_
    show RC (mcall (d + 1)) (mP 233) 122 [some (vR 0), some (vI x1)] [vI r1, vI x1, vR 31] (LR z1 f1) res
    obtain ⟨g1, H⟩ := H
    refine rc_g (i' := 123) (ls' := [some (vR 0), some (vI x1)]) (st' := []) (L' := LR z1 (uA f1 31 (upd (f1 31) (ix x1) r1))) (bc110_233_7 (mcall (d + 1)) x1 r1 _ z1 f1) (pinG g1) ?_
    refine rc_b (i' := 130) (ls' := [some (vR 0), some (vI x1)]) (st' := [vI x1, vR 33, vR 0, vI x1, vR 33]) (L' := LR z1 (uA f1 31 (upd (f1 31) (ix x1) r1))) 7 (bc110_233_8 (mcall (d + 1)) x1 z1 (uA f1 31 (upd (f1 31) (ix x1) r1))) ?_
    obtain ⟨g1, H⟩ := H
    refine rc_g (i' := 131) (ls' := [some (vR 0), some (vI x1)]) (st' := [vI (f1 33 (ix x1)), vR 0, vI x1, vR 33]) (L' := LR z1 (uA f1 31 (upd (f1 31) (ix x1) r1))) (bc110_233_9 (mcall (d + 1)) x1 x1 _ z1 (uA f1 31 (upd (f1 31) (ix x1) r1))) (pinG g1) ?_
    obtain ⟨r2, z2, f2, hc, H⟩ := H
    refine rc_call (t := 132) (ls' := [some (vR 0), some (vI x1)]) (st' := [vI x1, vR 33]) (bc110_233_10 (mcall (d + 1)) (f1 33 (ix x1)) x1 _ z1 (uA f1 31 (upd (f1 31) (ix x1) r1))) hc ?_
    show RC (mcall (d + 1)) (mP 233) 132 [some (vR 0), some (vI x1)] [vI r2, vI x1, vR 33] (LR z2 f2) res
    obtain ⟨g1, H⟩ := H
    refine rc_g (i' := 133) (ls' := [some (vR 0), some (vI x1)]) (st' := []) (L' := LR z2 (uA f2 33 (upd (f2 33) (ix x1) r2))) (bc110_233_11 (mcall (d + 1)) x1 r2 _ z2 f2) (pinG g1) ?_
    refine rc_b (i' := 140) (ls' := [some (vR 0), some (vI x1)]) (st' := [vI x1, vR 34, vR 0, vI x1, vR 34]) (L' := LR z2 (uA f2 33 (upd (f2 33) (ix x1) r2))) 7 (bc110_233_12 (mcall (d + 1)) x1 z2 (uA f2 33 (upd (f2 33) (ix x1) r2))) ?_
    obtain ⟨g1, H⟩ := H
    refine rc_g (i' := 141) (ls' := [some (vR 0), some (vI x1)]) (st' := [vI (f2 34 (ix x1)), vR 0, vI x1, vR 34]) (L' := LR z2 (uA f2 33 (upd (f2 33) (ix x1) r2))) (bc110_233_13 (mcall (d + 1)) x1 x1 _ z2 (uA f2 33 (upd (f2 33) (ix x1) r2))) (pinG g1) ?_
    obtain ⟨r3, z3, f3, hc, H⟩ := H
    refine rc_call (t := 142) (ls' := [some (vR 0), some (vI x1)]) (st' := [vI x1, vR 34]) (bc110_233_14 (mcall (d + 1)) (f2 34 (ix x1)) x1 _ z2 (uA f2 33 (upd (f2 33) (ix x1) r2))) hc ?_
    show RC (mcall (d + 1)) (mP 233) 142 [some (vR 0), some (vI x1)] [vI r3, vI x1, vR 34] (LR z3 f3) res
    obtain ⟨g1, H⟩ := H
    refine rc_g (i' := 143) (ls' := [some (vR 0), some (vI x1)]) (st' := []) (L' := LR z3 (uA f3 34 (upd (f3 34) (ix x1) r3))) (bc110_233_15 (mcall (d + 1)) x1 r3 _ z3 f3) (pinG g1) ?_
    refine rc_b (i' := 150) (ls' := [some (vR 0), some (vI x1)]) (st' := [vI x1, vR 37, vR 0, vI x1, vR 37]) (L' := LR z3 (uA f3 34 (upd (f3 34) (ix x1) r3))) 7 (bc110_233_16 (mcall (d + 1)) x1 z3 (uA f3 34 (upd (f3 34) (ix x1) r3))) ?_
    obtain ⟨g1, H⟩ := H
    refine rc_g (i' := 151) (ls' := [some (vR 0), some (vI x1)]) (st' := [vI (f3 37 (ix x1)), vR 0, vI x1, vR 37]) (L' := LR z3 (uA f3 34 (upd (f3 34) (ix x1) r3))) (bc110_233_17 (mcall (d + 1)) x1 x1 _ z3 (uA f3 34 (upd (f3 34) (ix x1) r3))) (pinG g1) ?_
    obtain ⟨r4, z4, f4, hc, H⟩ := H
    refine rc_call (t := 152) (ls' := [some (vR 0), some (vI x1)]) (st' := [vI x1, vR 37]) (bc110_233_18 (mcall (d + 1)) (f3 37 (ix x1)) x1 _ z3 (uA f3 34 (upd (f3 34) (ix x1) r3))) hc ?_
    show RC (mcall (d + 1)) (mP 233) 152 [some (vR 0), some (vI x1)] [vI r4, vI x1, vR 37] (LR z4 f4) res
    obtain ⟨g1, H⟩ := H
    refine rc_g (i' := 153) (ls' := [some (vR 0), some (vI x1)]) (st' := []) (L' := LR z4 (uA f4 37 (upd (f4 37) (ix x1) r4))) (bc110_233_19 (mcall (d + 1)) x1 r4 _ z4 f4) (pinG g1) ?_
    refine rc_b (i' := 160) (ls' := [some (vR 0), some (vI x1)]) (st' := [vI x1, vR 38, vR 0, vI x1, vR 38]) (L' := LR z4 (uA f4 37 (upd (f4 37) (ix x1) r4))) 7 (bc110_233_20 (mcall (d + 1)) x1 z4 (uA f4 37 (upd (f4 37) (ix x1) r4))) ?_
    obtain ⟨g1, H⟩ := H
    refine rc_g (i' := 161) (ls' := [some (vR 0), some (vI x1)]) (st' := [vI (f4 38 (ix x1)), vR 0, vI x1, vR 38]) (L' := LR z4 (uA f4 37 (upd (f4 37) (ix x1) r4))) (bc110_233_21 (mcall (d + 1)) x1 x1 _ z4 (uA f4 37 (upd (f4 37) (ix x1) r4))) (pinG g1) ?_
    obtain ⟨r5, z5, f5, hc, H⟩ := H
    refine rc_call (t := 162) (ls' := [some (vR 0), some (vI x1)]) (st' := [vI x1, vR 38]) (bc110_233_22 (mcall (d + 1)) (f4 38 (ix x1)) x1 _ z4 (uA f4 37 (upd (f4 37) (ix x1) r4))) hc ?_
    show RC (mcall (d + 1)) (mP 233) 162 [some (vR 0), some (vI x1)] [vI r5, vI x1, vR 38] (LR z5 f5) res
    obtain ⟨g1, H⟩ := H
    refine rc_g (i' := 163) (ls' := [some (vR 0), some (vI x1)]) (st' := []) (L' := LR z5 (uA f5 38 (upd (f5 38) (ix x1) r5))) (bc110_233_23 (mcall (d + 1)) x1 r5 _ z5 f5) (pinG g1) ?_
    refine rc_b (i' := 164) (ls' := [some (vR 0), some (vI (x1 + 1))]) (st' := []) (L' := LR z5 (uA f5 38 (upd (f5 38) (ix x1) r5))) 1 (bc110_233_24 (mcall (d + 1)) x1 _) ?_
    refine rc_b (i' := 110) (ls' := [some (vR 0), some (vI (x1 + 1))]) (st' := []) (L' := LR z5 (uA f5 38 (upd (f5 38) (ix x1) r5))) 1 (bc110_233_25 (mcall (d + 1)) (x1 + 1) _) ?_
    exact H
set_option maxRecDepth 100000 in
theorem bc167_233_1 (call : QC FA) (x1 : Int32) (L : QH FA) (F : Nat) : rnG call 233 (F + 2) 167 [some (vR 0), some (vI x1)] [] L = rnG call 233 F 169 [some (vR 0), some (vI x1)] [vI 12, vI x1] L := rfl
set_option maxRecDepth 100000 in
theorem bc167_233_2 (call : QC FA) (x y : Int32) (ls : List (Option PV)) (L : QH FA) (F : Nat) : rnG call 233 (F + 1) 169 ls [vI y, vI x] L = bif pcmp 3 x y then rnG call 233 F 182 ls [] L else rnG call 233 F 170 ls [] L := rfl
set_option maxRecDepth 100000 in
theorem bc167_233_3 (call : QC FA) (x1 : Int32) (L : QH FA) (F : Nat) : rnG call 233 (F + 2) 182 [some (vR 0), some (vI x1)] [] L = rnG call 233 F 184 [some (vR 0), some (vI 0)] [] L := rfl
set_option maxRecDepth 100000 in
theorem bc167_233_4 (call : QC FA) (x1 : Int32) (z : Nat → Int32) (f : Nat → FA) (F : Nat) : rnG call 233 (F + 7) 170 [some (vR 0), some (vI x1)] [] (LR z f) = rnG call 233 F 177 [some (vR 0), some (vI x1)] [vI x1, vR 36, vR 0, vI x1, vR 36] (LR z f) := rfl
set_option maxRecDepth 100000 in
theorem bc167_233_5 (call : QC FA) (x : Int32) (s1 : Int32) (ls : List (Option PV)) (z : Nat → Int32) (f : Nat → FA) (F : Nat) : rnG call 233 (F + 1) 177 ls [vI x, vR 36, vR 0, vI s1, vR 36] (LR z f) = bif (Nat.beq 0 0 && pin x 12) then rnG call 233 F 178 ls [vI (f 36 (ix x)), vR 0, vI s1, vR 36] (LR z f) else none := rfl
set_option maxRecDepth 100000 in
theorem bc167_233_6 (call : QC FA) (a0 : Int32) (s0 : Int32) (ls : List (Option PV)) (z : Nat → Int32) (f : Nat → FA) (F : Nat) : rnG call 233 (F + 1) 178 ls [vI a0, vR 0, vI s0, vR 36] (LR z f) = cbd (call 229 [vR 0, vI a0] (LR z f)) (fun r L' => rnG call 233 F 179 ls (r.toList ++ [vI s0, vR 36]) L') := pcY (ih := rnG call 233 F) (call := call) (a := 229) (b := 1) (v := 12) (t := 179) (x := 0) (ls := ls) (As := [vI a0]) (st' := [vI s0, vR 36]) (L := LR z f) rfl rfl rfl
set_option maxRecDepth 100000 in
theorem bc167_233_7 (call : QC FA) (x y : Int32) (ls : List (Option PV)) (z : Nat → Int32) (f : Nat → FA) (F : Nat) : rnG call 233 (F + 1) 179 ls [vI y, vI x, vR 36] (LR z f) = bif (Nat.beq 0 0 && pin x 12) then rnG call 233 F 180 ls [] (LR z (uA f 36 (upd (f 36) (ix x) y))) else none := rfl
set_option maxRecDepth 100000 in
theorem bc167_233_8 (call : QC FA) (x1 : Int32) (L : QH FA) (F : Nat) : rnG call 233 (F + 1) 180 [some (vR 0), some (vI x1)] [] L = rnG call 233 F 181 [some (vR 0), some (vI (x1 + 1))] [] L := rfl
set_option maxRecDepth 100000 in
theorem bc167_233_9 (call : QC FA) (x1 : Int32) (L : QH FA) (F : Nat) : rnG call 233 (F + 1) 181 [some (vR 0), some (vI x1)] [] L = rnG call 233 F 167 [some (vR 0), some (vI x1)] [] L := rfl
theorem vcc167_233_167 (d : Nat) (x1 : Int32) (z : Nat → Int32) (f : Nat → FA) (res : Option PV × QH FA) (H : ((12 ≤ I x1 → RC (mcall (d + 1)) (mP 233) 184 [some (vR 0), some (vI 0)] [] (LR z f) res) ∧ (I x1 < 12 → (pin x1 12 = true ∧ (∃ (r1 : Int32) (z1 : Nat → Int32) (f1 : Nat → FA), (mcall (d + 1)) 229 [vR 0, vI (f 36 (ix x1))] (LR z f) = some (some (vI r1), LR z1 f1) ∧ (pin x1 12 = true ∧ RC (mcall (d + 1)) (mP 233) 167 [some (vR 0), some (vI (x1 + 1))] [] (LR z1 (uA f1 36 (upd (f1 36) (ix x1) r1))) res)))))) : RC (mcall (d + 1)) (mP 233) 167 [some (vR 0), some (vI x1)] [] (LR z f) res := by
  refine rc_b (i' := 169) (ls' := [some (vR 0), some (vI x1)]) (st' := [vI 12, vI x1]) (L' := LR z f) 2 (bc167_233_1 (mcall (d + 1)) x1 _) ?_
  refine rc_if (it := 182) (ie := 170) (ls' := [some (vR 0), some (vI x1)]) (st' := []) (bc167_233_2 (mcall (d + 1)) x1 12 _ _) (fun q1 => ?_) (fun q1 => ?_)
  · have H := H.1 (cI3t q1 rfl rfl)
    refine rc_b (i' := 184) (ls' := [some (vR 0), some (vI 0)]) (st' := []) (L' := LR z f) 2 (bc167_233_3 (mcall (d + 1)) x1 _) ?_
    exact H
  · have H := H.2 (cI3f q1 rfl rfl)
    refine rc_b (i' := 177) (ls' := [some (vR 0), some (vI x1)]) (st' := [vI x1, vR 36, vR 0, vI x1, vR 36]) (L' := LR z f) 7 (bc167_233_4 (mcall (d + 1)) x1 z f) ?_
    obtain ⟨g1, H⟩ := H
    refine rc_g (i' := 178) (ls' := [some (vR 0), some (vI x1)]) (st' := [vI (f 36 (ix x1)), vR 0, vI x1, vR 36]) (L' := LR z f) (bc167_233_5 (mcall (d + 1)) x1 x1 _ z f) (pinG g1) ?_
    obtain ⟨r1, z1, f1, hc, H⟩ := H
    refine rc_call (t := 179) (ls' := [some (vR 0), some (vI x1)]) (st' := [vI x1, vR 36]) (bc167_233_6 (mcall (d + 1)) (f 36 (ix x1)) x1 _ z f) hc ?_
    show RC (mcall (d + 1)) (mP 233) 179 [some (vR 0), some (vI x1)] [vI r1, vI x1, vR 36] (LR z1 f1) res
    obtain ⟨g1, H⟩ := H
    refine rc_g (i' := 180) (ls' := [some (vR 0), some (vI x1)]) (st' := []) (L' := LR z1 (uA f1 36 (upd (f1 36) (ix x1) r1))) (bc167_233_7 (mcall (d + 1)) x1 r1 _ z1 f1) (pinG g1) ?_
    refine rc_b (i' := 181) (ls' := [some (vR 0), some (vI (x1 + 1))]) (st' := []) (L' := LR z1 (uA f1 36 (upd (f1 36) (ix x1) r1))) 1 (bc167_233_8 (mcall (d + 1)) x1 _) ?_
    refine rc_b (i' := 167) (ls' := [some (vR 0), some (vI (x1 + 1))]) (st' := []) (L' := LR z1 (uA f1 36 (upd (f1 36) (ix x1) r1))) 1 (bc167_233_9 (mcall (d + 1)) (x1 + 1) _) ?_
    exact H
set_option maxRecDepth 100000 in
theorem bc184_233_1 (call : QC FA) (x1 : Int32) (L : QH FA) (F : Nat) : rnG call 233 (F + 2) 184 [some (vR 0), some (vI x1)] [] L = rnG call 233 F 186 [some (vR 0), some (vI x1)] [vI 48, vI x1] L := rfl
set_option maxRecDepth 100000 in
theorem bc184_233_2 (call : QC FA) (x y : Int32) (ls : List (Option PV)) (L : QH FA) (F : Nat) : rnG call 233 (F + 1) 186 ls [vI y, vI x] L = bif pcmp 3 x y then rnG call 233 F 199 ls [] L else rnG call 233 F 187 ls [] L := rfl
set_option maxRecDepth 100000 in
theorem bc184_233_3 (call : QC FA) (x1 : Int32) (L : QH FA) (F : Nat) : rnG call 233 (F + 2) 199 [some (vR 0), some (vI x1)] [] L = rnG call 233 F 201 [some (vR 0), some (vI 0)] [] L := rfl
set_option maxRecDepth 100000 in
theorem bc184_233_4 (call : QC FA) (x1 : Int32) (z : Nat → Int32) (f : Nat → FA) (F : Nat) : rnG call 233 (F + 7) 187 [some (vR 0), some (vI x1)] [] (LR z f) = rnG call 233 F 194 [some (vR 0), some (vI x1)] [vI x1, vR 18, vR 0, vI x1, vR 18] (LR z f) := rfl
set_option maxRecDepth 100000 in
theorem bc184_233_5 (call : QC FA) (x : Int32) (s1 : Int32) (ls : List (Option PV)) (z : Nat → Int32) (f : Nat → FA) (F : Nat) : rnG call 233 (F + 1) 194 ls [vI x, vR 18, vR 0, vI s1, vR 18] (LR z f) = bif (Nat.beq 0 0 && pin x 96) then rnG call 233 F 195 ls [vI (f 18 (ix x)), vR 0, vI s1, vR 18] (LR z f) else none := rfl
set_option maxRecDepth 100000 in
theorem bc184_233_6 (call : QC FA) (a0 : Int32) (s0 : Int32) (ls : List (Option PV)) (z : Nat → Int32) (f : Nat → FA) (F : Nat) : rnG call 233 (F + 1) 195 ls [vI a0, vR 0, vI s0, vR 18] (LR z f) = cbd (call 229 [vR 0, vI a0] (LR z f)) (fun r L' => rnG call 233 F 196 ls (r.toList ++ [vI s0, vR 18]) L') := pcY (ih := rnG call 233 F) (call := call) (a := 229) (b := 1) (v := 12) (t := 196) (x := 0) (ls := ls) (As := [vI a0]) (st' := [vI s0, vR 18]) (L := LR z f) rfl rfl rfl
set_option maxRecDepth 100000 in
theorem bc184_233_7 (call : QC FA) (x y : Int32) (ls : List (Option PV)) (z : Nat → Int32) (f : Nat → FA) (F : Nat) : rnG call 233 (F + 1) 196 ls [vI y, vI x, vR 18] (LR z f) = bif (Nat.beq 0 0 && pin x 96) then rnG call 233 F 197 ls [] (LR z (uA f 18 (upd (f 18) (ix x) y))) else none := rfl
set_option maxRecDepth 100000 in
theorem bc184_233_8 (call : QC FA) (x1 : Int32) (L : QH FA) (F : Nat) : rnG call 233 (F + 1) 197 [some (vR 0), some (vI x1)] [] L = rnG call 233 F 198 [some (vR 0), some (vI (x1 + 1))] [] L := rfl
set_option maxRecDepth 100000 in
theorem bc184_233_9 (call : QC FA) (x1 : Int32) (L : QH FA) (F : Nat) : rnG call 233 (F + 1) 198 [some (vR 0), some (vI x1)] [] L = rnG call 233 F 184 [some (vR 0), some (vI x1)] [] L := rfl
theorem vcc184_233_184 (d : Nat) (x1 : Int32) (z : Nat → Int32) (f : Nat → FA) (res : Option PV × QH FA) (H : ((48 ≤ I x1 → RC (mcall (d + 1)) (mP 233) 201 [some (vR 0), some (vI 0)] [] (LR z f) res) ∧ (I x1 < 48 → (pin x1 96 = true ∧ (∃ (r1 : Int32) (z1 : Nat → Int32) (f1 : Nat → FA), (mcall (d + 1)) 229 [vR 0, vI (f 18 (ix x1))] (LR z f) = some (some (vI r1), LR z1 f1) ∧ (pin x1 96 = true ∧ RC (mcall (d + 1)) (mP 233) 184 [some (vR 0), some (vI (x1 + 1))] [] (LR z1 (uA f1 18 (upd (f1 18) (ix x1) r1))) res)))))) : RC (mcall (d + 1)) (mP 233) 184 [some (vR 0), some (vI x1)] [] (LR z f) res := by
  refine rc_b (i' := 186) (ls' := [some (vR 0), some (vI x1)]) (st' := [vI 48, vI x1]) (L' := LR z f) 2 (bc184_233_1 (mcall (d + 1)) x1 _) ?_
  refine rc_if (it := 199) (ie := 187) (ls' := [some (vR 0), some (vI x1)]) (st' := []) (bc184_233_2 (mcall (d + 1)) x1 48 _ _) (fun q1 => ?_) (fun q1 => ?_)
  · have H := H.1 (cI3t q1 rfl rfl)
    refine rc_b (i' := 201) (ls' := [some (vR 0), some (vI 0)]) (st' := []) (L' := LR z f) 2 (bc184_233_3 (mcall (d + 1)) x1 _) ?_
    exact H
  · have H := H.2 (cI3f q1 rfl rfl)
    refine rc_b (i' := 194) (ls' := [some (vR 0), some (vI x1)]) (st' := [vI x1, vR 18, vR 0, vI x1, vR 18]) (L' := LR z f) 7 (bc184_233_4 (mcall (d + 1)) x1 z f) ?_
    obtain ⟨g1, H⟩ := H
    refine rc_g (i' := 195) (ls' := [some (vR 0), some (vI x1)]) (st' := [vI (f 18 (ix x1)), vR 0, vI x1, vR 18]) (L' := LR z f) (bc184_233_5 (mcall (d + 1)) x1 x1 _ z f) (pinG g1) ?_
    obtain ⟨r1, z1, f1, hc, H⟩ := H
    refine rc_call (t := 196) (ls' := [some (vR 0), some (vI x1)]) (st' := [vI x1, vR 18]) (bc184_233_6 (mcall (d + 1)) (f 18 (ix x1)) x1 _ z f) hc ?_
    show RC (mcall (d + 1)) (mP 233) 196 [some (vR 0), some (vI x1)] [vI r1, vI x1, vR 18] (LR z1 f1) res
    obtain ⟨g1, H⟩ := H
    refine rc_g (i' := 197) (ls' := [some (vR 0), some (vI x1)]) (st' := []) (L' := LR z1 (uA f1 18 (upd (f1 18) (ix x1) r1))) (bc184_233_7 (mcall (d + 1)) x1 r1 _ z1 f1) (pinG g1) ?_
    refine rc_b (i' := 198) (ls' := [some (vR 0), some (vI (x1 + 1))]) (st' := []) (L' := LR z1 (uA f1 18 (upd (f1 18) (ix x1) r1))) 1 (bc184_233_8 (mcall (d + 1)) x1 _) ?_
    refine rc_b (i' := 184) (ls' := [some (vR 0), some (vI (x1 + 1))]) (st' := []) (L' := LR z1 (uA f1 18 (upd (f1 18) (ix x1) r1))) 1 (bc184_233_9 (mcall (d + 1)) (x1 + 1) _) ?_
    exact H
set_option maxRecDepth 100000 in
theorem bc201_233_1 (call : QC FA) (x1 : Int32) (L : QH FA) (F : Nat) : rnG call 233 (F + 2) 201 [some (vR 0), some (vI x1)] [] L = rnG call 233 F 203 [some (vR 0), some (vI x1)] [vI 80, vI x1] L := rfl
set_option maxRecDepth 100000 in
theorem bc201_233_2 (call : QC FA) (x y : Int32) (ls : List (Option PV)) (L : QH FA) (F : Nat) : rnG call 233 (F + 1) 203 ls [vI y, vI x] L = bif pcmp 3 x y then rnG call 233 F 216 ls [] L else rnG call 233 F 204 ls [] L := rfl
set_option maxRecDepth 100000 in
theorem bc201_233_3 (call : QC FA) (ls : List (Option PV)) (L : QH FA) (F : Nat) : rnG call 233 (F + 1) 216 ls [] L = some (none, L) := rfl
set_option maxRecDepth 100000 in
theorem bc201_233_4 (call : QC FA) (x1 : Int32) (z : Nat → Int32) (f : Nat → FA) (F : Nat) : rnG call 233 (F + 7) 204 [some (vR 0), some (vI x1)] [] (LR z f) = rnG call 233 F 211 [some (vR 0), some (vI x1)] [vI x1, vR 19, vR 0, vI x1, vR 19] (LR z f) := rfl
set_option maxRecDepth 100000 in
theorem bc201_233_5 (call : QC FA) (x : Int32) (s1 : Int32) (ls : List (Option PV)) (z : Nat → Int32) (f : Nat → FA) (F : Nat) : rnG call 233 (F + 1) 211 ls [vI x, vR 19, vR 0, vI s1, vR 19] (LR z f) = bif (Nat.beq 0 0 && pin x 160) then rnG call 233 F 212 ls [vI (f 19 (ix x)), vR 0, vI s1, vR 19] (LR z f) else none := rfl
set_option maxRecDepth 100000 in
theorem bc201_233_6 (call : QC FA) (a0 : Int32) (s0 : Int32) (ls : List (Option PV)) (z : Nat → Int32) (f : Nat → FA) (F : Nat) : rnG call 233 (F + 1) 212 ls [vI a0, vR 0, vI s0, vR 19] (LR z f) = cbd (call 229 [vR 0, vI a0] (LR z f)) (fun r L' => rnG call 233 F 213 ls (r.toList ++ [vI s0, vR 19]) L') := pcY (ih := rnG call 233 F) (call := call) (a := 229) (b := 1) (v := 12) (t := 213) (x := 0) (ls := ls) (As := [vI a0]) (st' := [vI s0, vR 19]) (L := LR z f) rfl rfl rfl
set_option maxRecDepth 100000 in
theorem bc201_233_7 (call : QC FA) (x y : Int32) (ls : List (Option PV)) (z : Nat → Int32) (f : Nat → FA) (F : Nat) : rnG call 233 (F + 1) 213 ls [vI y, vI x, vR 19] (LR z f) = bif (Nat.beq 0 0 && pin x 160) then rnG call 233 F 214 ls [] (LR z (uA f 19 (upd (f 19) (ix x) y))) else none := rfl
set_option maxRecDepth 100000 in
theorem bc201_233_8 (call : QC FA) (x1 : Int32) (L : QH FA) (F : Nat) : rnG call 233 (F + 1) 214 [some (vR 0), some (vI x1)] [] L = rnG call 233 F 215 [some (vR 0), some (vI (x1 + 1))] [] L := rfl
set_option maxRecDepth 100000 in
theorem bc201_233_9 (call : QC FA) (x1 : Int32) (L : QH FA) (F : Nat) : rnG call 233 (F + 1) 215 [some (vR 0), some (vI x1)] [] L = rnG call 233 F 201 [some (vR 0), some (vI x1)] [] L := rfl
theorem vcc201_233_201 (d : Nat) (x1 : Int32) (z : Nat → Int32) (f : Nat → FA) (res : Option PV × QH FA) (H : ((80 ≤ I x1 → res = (none, LR z f)) ∧ (I x1 < 80 → (pin x1 160 = true ∧ (∃ (r1 : Int32) (z1 : Nat → Int32) (f1 : Nat → FA), (mcall (d + 1)) 229 [vR 0, vI (f 19 (ix x1))] (LR z f) = some (some (vI r1), LR z1 f1) ∧ (pin x1 160 = true ∧ RC (mcall (d + 1)) (mP 233) 201 [some (vR 0), some (vI (x1 + 1))] [] (LR z1 (uA f1 19 (upd (f1 19) (ix x1) r1))) res)))))) : RC (mcall (d + 1)) (mP 233) 201 [some (vR 0), some (vI x1)] [] (LR z f) res := by
  refine rc_b (i' := 203) (ls' := [some (vR 0), some (vI x1)]) (st' := [vI 80, vI x1]) (L' := LR z f) 2 (bc201_233_1 (mcall (d + 1)) x1 _) ?_
  refine rc_if (it := 216) (ie := 204) (ls' := [some (vR 0), some (vI x1)]) (st' := []) (bc201_233_2 (mcall (d + 1)) x1 80 _ _) (fun q1 => ?_) (fun q1 => ?_)
  · have H := H.1 (cI3t q1 rfl rfl)
    subst H
    exact rc_ret (bc201_233_3 (mcall (d + 1)) _ _)
  · have H := H.2 (cI3f q1 rfl rfl)
    refine rc_b (i' := 211) (ls' := [some (vR 0), some (vI x1)]) (st' := [vI x1, vR 19, vR 0, vI x1, vR 19]) (L' := LR z f) 7 (bc201_233_4 (mcall (d + 1)) x1 z f) ?_
    obtain ⟨g1, H⟩ := H
    refine rc_g (i' := 212) (ls' := [some (vR 0), some (vI x1)]) (st' := [vI (f 19 (ix x1)), vR 0, vI x1, vR 19]) (L' := LR z f) (bc201_233_5 (mcall (d + 1)) x1 x1 _ z f) (pinG g1) ?_
    obtain ⟨r1, z1, f1, hc, H⟩ := H
    refine rc_call (t := 213) (ls' := [some (vR 0), some (vI x1)]) (st' := [vI x1, vR 19]) (bc201_233_6 (mcall (d + 1)) (f 19 (ix x1)) x1 _ z f) hc ?_
    show RC (mcall (d + 1)) (mP 233) 213 [some (vR 0), some (vI x1)] [vI r1, vI x1, vR 19] (LR z1 f1) res
    obtain ⟨g1, H⟩ := H
    refine rc_g (i' := 214) (ls' := [some (vR 0), some (vI x1)]) (st' := []) (L' := LR z1 (uA f1 19 (upd (f1 19) (ix x1) r1))) (bc201_233_7 (mcall (d + 1)) x1 r1 _ z1 f1) (pinG g1) ?_
    refine rc_b (i' := 215) (ls' := [some (vR 0), some (vI (x1 + 1))]) (st' := []) (L' := LR z1 (uA f1 19 (upd (f1 19) (ix x1) r1))) 1 (bc201_233_8 (mcall (d + 1)) x1 _) ?_
    refine rc_b (i' := 201) (ls' := [some (vR 0), some (vI (x1 + 1))]) (st' := []) (L' := LR z1 (uA f1 19 (upd (f1 19) (ix x1) r1))) 1 (bc201_233_9 (mcall (d + 1)) (x1 + 1) _) ?_
    exact H
theorem kt_2 (d0 : Nat) {tk : Bool} {z0 : Nat → Int32} {f0 : Nat → FA} : ∀ t x, x + t = 20 → ∀ z f, INV tk (512 + 4 * x) z0 f0 z f → ∃ z2 f2, INV tk 592 z0 f0 z2 f2 ∧ ∀ res, (RC (mcall (d0 + 1)) (mP 233) 49 [some (vR 0), some (vI 0)] [] (LR z2 f2) res) → RC (mcall (d0 + 1)) (mP 233) 2 [some (vR 0), some (vI (nI x))] [] (LR z f) res := by
  intro t
  induction t with
  | zero =>
    intro x hx z f h
    obtain rfl : x = 20 := by omega
    refine ⟨z, f, h, fun res hr => vcc2_233_2 _ _ _ _ _ ?_⟩
    rw [I_nI (by omega)]
    exact ⟨fun _ => hr, fun q => by omega⟩
  | succ t ih =>
    intro x hx z f h0
    obtain ⟨v1, z1, f1, c1, h1⟩ := kp_row (d0 + 0) (P := 512 + 4 * x + 0) (P' := 512 + 4 * x + 1) h0 (by omega) rfl (ly_4 x (by omega)) (by decide)
    obtain ⟨v2, z2, f2, c2, h2⟩ := kp_row (d0 + 0) (P := 512 + 4 * x + 1) (P' := 512 + 4 * x + 2) h1 (by omega) rfl (ly_5 x (by omega)) (by decide)
    obtain ⟨v3, z3, f3, c3, h3⟩ := kp_row (d0 + 0) (P := 512 + 4 * x + 2) (P' := 512 + 4 * x + 3) h2 (by omega) rfl (ly_6 x (by omega)) (by decide)
    obtain ⟨v4, z4, f4, c4, h4⟩ := kp_row (d0 + 0) (P := 512 + 4 * x + 3) (P' := 512 + 4 * x + 4) h3 (by omega) rfl (ly_20 x (by omega)) (by decide)
    obtain ⟨zz, ff, gg1, gg2⟩ := ih (x + 1) (by omega) _ _ (by rw [show 512 + 4 * (x + 1) = 512 + 4 * x + 4 by omega]; exact h4)
    refine ⟨zz, ff, gg1, fun res hr => vcc2_233_2 _ _ _ _ _ ?_⟩
    rw [I_nI (by omega), ix_nI (by omega), show nI x + 1 = nI (x + 1) from nI_add x 1]
    exact ⟨fun q => by omega, fun _ => ⟨pin_nI (by omega) (by omega), v1, z1, f1, c1, pin_nI (by omega) (by omega), pin_nI (by omega) (by omega), v2, z2, f2, c2, pin_nI (by omega) (by omega), pin_nI (by omega) (by omega), v3, z3, f3, c3, pin_nI (by omega) (by omega), pin_nI (by omega) (by omega), v4, z4, f4, c4, pin_nI (by omega) (by omega), gg2 res hr⟩⟩
theorem kt_49 (d0 : Nat) {tk : Bool} {z0 : Nat → Int32} {f0 : Nat → FA} : ∀ t x, x + t = 6 → ∀ z f, INV tk (592 + 1 * x) z0 f0 z f → ∃ z2 f2, INV tk 598 z0 f0 z2 f2 ∧ ∀ res, (RC (mcall (d0 + 1)) (mP 233) 66 [some (vR 0), some (vI 0)] [] (LR z2 f2) res) → RC (mcall (d0 + 1)) (mP 233) 49 [some (vR 0), some (vI (nI x))] [] (LR z f) res := by
  intro t
  induction t with
  | zero =>
    intro x hx z f h
    obtain rfl : x = 6 := by omega
    refine ⟨z, f, h, fun res hr => vcc49_233_49 _ _ _ _ _ ?_⟩
    rw [I_nI (by omega)]
    exact ⟨fun _ => hr, fun q => by omega⟩
  | succ t ih =>
    intro x hx z f h0
    obtain ⟨v1, z1, f1, c1, h1⟩ := kp_row (d0 + 0) (P := 592 + 1 * x + 0) (P' := 592 + 1 * x + 1) h0 (by omega) rfl (ly_24 x (by omega)) (by decide)
    obtain ⟨zz, ff, gg1, gg2⟩ := ih (x + 1) (by omega) _ _ (by rw [show 592 + 1 * (x + 1) = 592 + 1 * x + 1 by omega]; exact h1)
    refine ⟨zz, ff, gg1, fun res hr => vcc49_233_49 _ _ _ _ _ ?_⟩
    rw [I_nI (by omega), ix_nI (by omega), show nI x + 1 = nI (x + 1) from nI_add x 1]
    exact ⟨fun q => by omega, fun _ => ⟨pin_nI (by omega) (by omega), v1, z1, f1, c1, pin_nI (by omega) (by omega), gg2 res hr⟩⟩
theorem kt_66 (d0 : Nat) {tk : Bool} {z0 : Nat → Int32} {f0 : Nat → FA} : ∀ t x, x + t = 16 → ∀ z f, INV tk (598 + 1 * x) z0 f0 z f → ∃ z2 f2, INV tk 614 z0 f0 z2 f2 ∧ ∀ res, (RC (mcall (d0 + 1)) (mP 233) 83 [some (vR 0), some (vI 0)] [] (LR z2 f2) res) → RC (mcall (d0 + 1)) (mP 233) 66 [some (vR 0), some (vI (nI x))] [] (LR z f) res := by
  intro t
  induction t with
  | zero =>
    intro x hx z f h
    obtain rfl : x = 16 := by omega
    refine ⟨z, f, h, fun res hr => vcc66_233_66 _ _ _ _ _ ?_⟩
    rw [I_nI (by omega)]
    exact ⟨fun _ => hr, fun q => by omega⟩
  | succ t ih =>
    intro x hx z f h0
    obtain ⟨v1, z1, f1, c1, h1⟩ := kp_row (d0 + 0) (P := 598 + 1 * x + 0) (P' := 598 + 1 * x + 1) h0 (by omega) rfl (ly_26 x (by omega)) (by decide)
    obtain ⟨zz, ff, gg1, gg2⟩ := ih (x + 1) (by omega) _ _ (by rw [show 598 + 1 * (x + 1) = 598 + 1 * x + 1 by omega]; exact h1)
    refine ⟨zz, ff, gg1, fun res hr => vcc66_233_66 _ _ _ _ _ ?_⟩
    rw [I_nI (by omega), ix_nI (by omega), show nI x + 1 = nI (x + 1) from nI_add x 1]
    exact ⟨fun q => by omega, fun _ => ⟨pin_nI (by omega) (by omega), v1, z1, f1, c1, pin_nI (by omega) (by omega), gg2 res hr⟩⟩
theorem kt_83 (d0 : Nat) {tk : Bool} {z0 : Nat → Int32} {f0 : Nat → FA} : ∀ t x, x + t = 15 → ∀ z f, INV tk (614 + 2 * x) z0 f0 z f → ∃ z2 f2, INV tk 644 z0 f0 z2 f2 ∧ ∀ res, (RC (mcall (d0 + 1)) (mP 233) 110 [some (vR 0), some (vI 0)] [] (LR z2 f2) res) → RC (mcall (d0 + 1)) (mP 233) 83 [some (vR 0), some (vI (nI x))] [] (LR z f) res := by
  intro t
  induction t with
  | zero =>
    intro x hx z f h
    obtain rfl : x = 15 := by omega
    refine ⟨z, f, h, fun res hr => vcc83_233_83 _ _ _ _ _ ?_⟩
    rw [I_nI (by omega)]
    exact ⟨fun _ => hr, fun q => by omega⟩
  | succ t ih =>
    intro x hx z f h0
    obtain ⟨v1, z1, f1, c1, h1⟩ := kp_row (d0 + 0) (P := 614 + 2 * x + 0) (P' := 614 + 2 * x + 1) h0 (by omega) rfl (ly_29 x (by omega)) (by decide)
    obtain ⟨v2, z2, f2, c2, h2⟩ := kp_row (d0 + 0) (P := 614 + 2 * x + 1) (P' := 614 + 2 * x + 2) h1 (by omega) rfl (ly_30 x (by omega)) (by decide)
    obtain ⟨zz, ff, gg1, gg2⟩ := ih (x + 1) (by omega) _ _ (by rw [show 614 + 2 * (x + 1) = 614 + 2 * x + 2 by omega]; exact h2)
    refine ⟨zz, ff, gg1, fun res hr => vcc83_233_83 _ _ _ _ _ ?_⟩
    rw [I_nI (by omega), ix_nI (by omega), show nI x + 1 = nI (x + 1) from nI_add x 1]
    exact ⟨fun q => by omega, fun _ => ⟨pin_nI (by omega) (by omega), v1, z1, f1, c1, pin_nI (by omega) (by omega), pin_nI (by omega) (by omega), v2, z2, f2, c2, pin_nI (by omega) (by omega), gg2 res hr⟩⟩
theorem kt_110 (d0 : Nat) {tk : Bool} {z0 : Nat → Int32} {f0 : Nat → FA} : ∀ t x, x + t = 8 → ∀ z f, INV tk (644 + 5 * x) z0 f0 z f → ∃ z2 f2, INV tk 684 z0 f0 z2 f2 ∧ ∀ res, (RC (mcall (d0 + 1)) (mP 233) 167 [some (vR 0), some (vI 0)] [] (LR z2 f2) res) → RC (mcall (d0 + 1)) (mP 233) 110 [some (vR 0), some (vI (nI x))] [] (LR z f) res := by
  intro t
  induction t with
  | zero =>
    intro x hx z f h
    obtain rfl : x = 8 := by omega
    refine ⟨z, f, h, fun res hr => vcc110_233_110 _ _ _ _ _ ?_⟩
    rw [I_nI (by omega)]
    exact ⟨fun _ => hr, fun q => by omega⟩
  | succ t ih =>
    intro x hx z f h0
    obtain ⟨v1, z1, f1, c1, h1⟩ := kp_row (d0 + 0) (P := 644 + 5 * x + 0) (P' := 644 + 5 * x + 1) h0 (by omega) rfl (ly_31 x (by omega)) (by decide)
    obtain ⟨v2, z2, f2, c2, h2⟩ := kp_row (d0 + 0) (P := 644 + 5 * x + 1) (P' := 644 + 5 * x + 2) h1 (by omega) rfl (ly_33 x (by omega)) (by decide)
    obtain ⟨v3, z3, f3, c3, h3⟩ := kp_row (d0 + 0) (P := 644 + 5 * x + 2) (P' := 644 + 5 * x + 3) h2 (by omega) rfl (ly_34 x (by omega)) (by decide)
    obtain ⟨v4, z4, f4, c4, h4⟩ := kp_row (d0 + 0) (P := 644 + 5 * x + 3) (P' := 644 + 5 * x + 4) h3 (by omega) rfl (ly_37 x (by omega)) (by decide)
    obtain ⟨v5, z5, f5, c5, h5⟩ := kp_row (d0 + 0) (P := 644 + 5 * x + 4) (P' := 644 + 5 * x + 5) h4 (by omega) rfl (ly_38 x (by omega)) (by decide)
    obtain ⟨zz, ff, gg1, gg2⟩ := ih (x + 1) (by omega) _ _ (by rw [show 644 + 5 * (x + 1) = 644 + 5 * x + 5 by omega]; exact h5)
    refine ⟨zz, ff, gg1, fun res hr => vcc110_233_110 _ _ _ _ _ ?_⟩
    rw [I_nI (by omega), ix_nI (by omega), show nI x + 1 = nI (x + 1) from nI_add x 1]
    exact ⟨fun q => by omega, fun _ => ⟨pin_nI (by omega) (by omega), v1, z1, f1, c1, pin_nI (by omega) (by omega), pin_nI (by omega) (by omega), v2, z2, f2, c2, pin_nI (by omega) (by omega), pin_nI (by omega) (by omega), v3, z3, f3, c3, pin_nI (by omega) (by omega), pin_nI (by omega) (by omega), v4, z4, f4, c4, pin_nI (by omega) (by omega), pin_nI (by omega) (by omega), v5, z5, f5, c5, pin_nI (by omega) (by omega), gg2 res hr⟩⟩
theorem kt_167 (d0 : Nat) {tk : Bool} {z0 : Nat → Int32} {f0 : Nat → FA} : ∀ t x, x + t = 12 → ∀ z f, INV tk (684 + 1 * x) z0 f0 z f → ∃ z2 f2, INV tk 696 z0 f0 z2 f2 ∧ ∀ res, (RC (mcall (d0 + 1)) (mP 233) 184 [some (vR 0), some (vI 0)] [] (LR z2 f2) res) → RC (mcall (d0 + 1)) (mP 233) 167 [some (vR 0), some (vI (nI x))] [] (LR z f) res := by
  intro t
  induction t with
  | zero =>
    intro x hx z f h
    obtain rfl : x = 12 := by omega
    refine ⟨z, f, h, fun res hr => vcc167_233_167 _ _ _ _ _ ?_⟩
    rw [I_nI (by omega)]
    exact ⟨fun _ => hr, fun q => by omega⟩
  | succ t ih =>
    intro x hx z f h0
    obtain ⟨v1, z1, f1, c1, h1⟩ := kp_row (d0 + 0) (P := 684 + 1 * x + 0) (P' := 684 + 1 * x + 1) h0 (by omega) rfl (ly_36 x (by omega)) (by decide)
    obtain ⟨zz, ff, gg1, gg2⟩ := ih (x + 1) (by omega) _ _ (by rw [show 684 + 1 * (x + 1) = 684 + 1 * x + 1 by omega]; exact h1)
    refine ⟨zz, ff, gg1, fun res hr => vcc167_233_167 _ _ _ _ _ ?_⟩
    rw [I_nI (by omega), ix_nI (by omega), show nI x + 1 = nI (x + 1) from nI_add x 1]
    exact ⟨fun q => by omega, fun _ => ⟨pin_nI (by omega) (by omega), v1, z1, f1, c1, pin_nI (by omega) (by omega), gg2 res hr⟩⟩
theorem kt_184 (d0 : Nat) {tk : Bool} {z0 : Nat → Int32} {f0 : Nat → FA} : ∀ t x, x + t = 48 → ∀ z f, INV tk (696 + 1 * x) z0 f0 z f → ∃ z2 f2, INV tk 744 z0 f0 z2 f2 ∧ ∀ res, (RC (mcall (d0 + 1)) (mP 233) 201 [some (vR 0), some (vI 0)] [] (LR z2 f2) res) → RC (mcall (d0 + 1)) (mP 233) 184 [some (vR 0), some (vI (nI x))] [] (LR z f) res := by
  intro t
  induction t with
  | zero =>
    intro x hx z f h
    obtain rfl : x = 48 := by omega
    refine ⟨z, f, h, fun res hr => vcc184_233_184 _ _ _ _ _ ?_⟩
    rw [I_nI (by omega)]
    exact ⟨fun _ => hr, fun q => by omega⟩
  | succ t ih =>
    intro x hx z f h0
    obtain ⟨v1, z1, f1, c1, h1⟩ := kp_row (d0 + 0) (P := 696 + 1 * x + 0) (P' := 696 + 1 * x + 1) h0 (by omega) rfl (ly_18 x (by omega)) (by decide)
    obtain ⟨zz, ff, gg1, gg2⟩ := ih (x + 1) (by omega) _ _ (by rw [show 696 + 1 * (x + 1) = 696 + 1 * x + 1 by omega]; exact h1)
    refine ⟨zz, ff, gg1, fun res hr => vcc184_233_184 _ _ _ _ _ ?_⟩
    rw [I_nI (by omega), ix_nI (by omega), show nI x + 1 = nI (x + 1) from nI_add x 1]
    exact ⟨fun q => by omega, fun _ => ⟨pin_nI (by omega) (by omega), v1, z1, f1, c1, pin_nI (by omega) (by omega), gg2 res hr⟩⟩
theorem kt_201 (d0 : Nat) {tk : Bool} {z0 : Nat → Int32} {f0 : Nat → FA} : ∀ t x, x + t = 80 → ∀ z f, INV tk (744 + 1 * x) z0 f0 z f → ∃ z2 f2, INV tk 824 z0 f0 z2 f2 ∧ ∀ res, (res = (none, LR z2 f2)) → RC (mcall (d0 + 1)) (mP 233) 201 [some (vR 0), some (vI (nI x))] [] (LR z f) res := by
  intro t
  induction t with
  | zero =>
    intro x hx z f h
    obtain rfl : x = 80 := by omega
    refine ⟨z, f, h, fun res hr => vcc201_233_201 _ _ _ _ _ ?_⟩
    rw [I_nI (by omega)]
    exact ⟨fun _ => hr, fun q => by omega⟩
  | succ t ih =>
    intro x hx z f h0
    obtain ⟨v1, z1, f1, c1, h1⟩ := kp_row (d0 + 0) (P := 744 + 1 * x + 0) (P' := 744 + 1 * x + 1) h0 (by omega) rfl (ly_19 x (by omega)) (by decide)
    obtain ⟨zz, ff, gg1, gg2⟩ := ih (x + 1) (by omega) _ _ (by rw [show 744 + 1 * (x + 1) = 744 + 1 * x + 1 by omega]; exact h1)
    refine ⟨zz, ff, gg1, fun res hr => vcc201_233_201 _ _ _ _ _ ?_⟩
    rw [I_nI (by omega), ix_nI (by omega), show nI x + 1 = nI (x + 1) from nI_add x 1]
    exact ⟨fun q => by omega, fun _ => ⟨pin_nI (by omega) (by omega), v1, z1, f1, c1, pin_nI (by omega) (by omega), gg2 res hr⟩⟩
theorem keepsTold_r (d0 : Nat) {tk : Bool} {z Z0 : Nat → Int32} {f f0 : Nat → FA} (h : INV tk 512 Z0 f0 z f) : ∃ z' f', mcall (d0 + 2) 233 [vR 0] (LR z f) = some (none, LR z' f') ∧ INV tk 824 Z0 f0 z' f' := by
  obtain ⟨z0, f0, h0, g0⟩ := kt_2 d0 20 0 (by omega) z f h
  obtain ⟨z1, f1, h1, g1⟩ := kt_49 d0 6 0 (by omega) z0 f0 h0
  obtain ⟨z2, f2, h2, g2⟩ := kt_66 d0 16 0 (by omega) z1 f1 h1
  obtain ⟨z3, f3, h3, g3⟩ := kt_83 d0 15 0 (by omega) z2 f2 h2
  obtain ⟨z4, f4, h4, g4⟩ := kt_110 d0 8 0 (by omega) z3 f3 h3
  obtain ⟨z5, f5, h5, g5⟩ := kt_167 d0 12 0 (by omega) z4 f4 h4
  obtain ⟨z6, f6, h6, g6⟩ := kt_184 d0 48 0 (by omega) z5 f5 h5
  obtain ⟨z7, f7, h7, g7⟩ := kt_201 d0 80 0 (by omega) z6 f6 h6
  exact ⟨z7, f7, mcall_i (mq233 (cu := [])).2.2 rfl (vc233_0 _ _ _ _ _ (g0 _ (g1 _ (g2 _ (g3 _ (g4 _ (g5 _ (g6 _ (g7 _ rfl))))))))), h7⟩
set_option maxRecDepth 100000 in
theorem b231_1 (call : QC FA) (o1 : Option PV) (z : Nat → Int32) (f : Nat → FA) (F : Nat) : rnG call 231 (F + 7) 0 [some (vR 0), o1] [] (LR z f) = rnG call 231 F 7 [some (vR 0), o1] [vI 0, vR 10, vR 0, vI 0, vR 10] (LR z f) := rfl
set_option maxRecDepth 100000 in
theorem b231_2 (call : QC FA) (x : Int32) (s1 : Int32) (ls : List (Option PV)) (z : Nat → Int32) (f : Nat → FA) (F : Nat) : rnG call 231 (F + 1) 7 ls [vI x, vR 10, vR 0, vI s1, vR 10] (LR z f) = bif (Nat.beq 0 0 && pin x 2) then rnG call 231 F 8 ls [vI (f 10 (ix x)), vR 0, vI s1, vR 10] (LR z f) else none := rfl
set_option maxRecDepth 100000 in
theorem b231_3 (call : QC FA) (a0 : Int32) (s0 : Int32) (ls : List (Option PV)) (z : Nat → Int32) (f : Nat → FA) (F : Nat) : rnG call 231 (F + 1) 8 ls [vI a0, vR 0, vI s0, vR 10] (LR z f) = cbd (call 229 [vR 0, vI a0] (LR z f)) (fun r L' => rnG call 231 F 9 ls (r.toList ++ [vI s0, vR 10]) L') := pcY (ih := rnG call 231 F) (call := call) (a := 229) (b := 1) (v := 12) (t := 9) (x := 0) (ls := ls) (As := [vI a0]) (st' := [vI s0, vR 10]) (L := LR z f) rfl rfl rfl
set_option maxRecDepth 100000 in
theorem b231_4 (call : QC FA) (x y : Int32) (ls : List (Option PV)) (z : Nat → Int32) (f : Nat → FA) (F : Nat) : rnG call 231 (F + 1) 9 ls [vI y, vI x, vR 10] (LR z f) = bif (Nat.beq 0 0 && pin x 2) then rnG call 231 F 10 ls [] (LR z (uA f 10 (upd (f 10) (ix x) y))) else none := rfl
set_option maxRecDepth 100000 in
theorem b231_5 (call : QC FA) (o1 : Option PV) (L : QH FA) (F : Nat) : rnG call 231 (F + 2) 10 [some (vR 0), o1] [] L = rnG call 231 F 12 [some (vR 0), some (vI 0)] [] L := rfl
theorem vc231_0 (d : Nat) (o1 : Option PV) (z : Nat → Int32) (f : Nat → FA) (res : Option PV × QH FA) (H : (pin 0 2 = true ∧ (∃ (r1 : Int32) (z1 : Nat → Int32) (f1 : Nat → FA), (mcall (d + 1)) 229 [vR 0, vI (f 10 (ix 0))] (LR z f) = some (some (vI r1), LR z1 f1) ∧ (pin 0 2 = true ∧ RC (mcall (d + 1)) (mP 231) 12 [some (vR 0), some (vI 0)] [] (LR z1 (uA f1 10 (upd (f1 10) (ix 0) r1))) res)))) : RC (mcall (d + 1)) (mP 231) 0 [some (vR 0), o1] [] (LR z f) res := by
  refine rc_b (i' := 7) (ls' := [some (vR 0), o1]) (st' := [vI 0, vR 10, vR 0, vI 0, vR 10]) (L' := LR z f) 7 (b231_1 (mcall (d + 1)) o1 z f) ?_
  obtain ⟨g1, H⟩ := H
  refine rc_g (i' := 8) (ls' := [some (vR 0), o1]) (st' := [vI (f 10 (ix 0)), vR 0, vI 0, vR 10]) (L' := LR z f) (b231_2 (mcall (d + 1)) 0 0 _ z f) (pinG g1) ?_
  obtain ⟨r1, z1, f1, hc, H⟩ := H
  refine rc_call (t := 9) (ls' := [some (vR 0), o1]) (st' := [vI 0, vR 10]) (b231_3 (mcall (d + 1)) (f 10 (ix 0)) 0 _ z f) hc ?_
  show RC (mcall (d + 1)) (mP 231) 9 [some (vR 0), o1] [vI r1, vI 0, vR 10] (LR z1 f1) res
  obtain ⟨g1, H⟩ := H
  refine rc_g (i' := 10) (ls' := [some (vR 0), o1]) (st' := []) (L' := LR z1 (uA f1 10 (upd (f1 10) (ix 0) r1))) (b231_4 (mcall (d + 1)) 0 r1 _ z1 f1) (pinG g1) ?_
  refine rc_b (i' := 12) (ls' := [some (vR 0), some (vI 0)]) (st' := []) (L' := LR z1 (uA f1 10 (upd (f1 10) (ix 0) r1))) 2 (b231_5 (mcall (d + 1)) o1 _) ?_
  exact H
set_option maxRecDepth 100000 in
theorem bc12_231_1 (call : QC FA) (x1 : Int32) (L : QH FA) (F : Nat) : rnG call 231 (F + 2) 12 [some (vR 0), some (vI x1)] [] L = rnG call 231 F 14 [some (vR 0), some (vI x1)] [vI 16, vI x1] L := rfl
set_option maxRecDepth 100000 in
theorem bc12_231_2 (call : QC FA) (x y : Int32) (ls : List (Option PV)) (L : QH FA) (F : Nat) : rnG call 231 (F + 1) 14 ls [vI y, vI x] L = bif pcmp 3 x y then rnG call 231 F 57 ls [] L else rnG call 231 F 15 ls [] L := rfl
set_option maxRecDepth 100000 in
theorem bc12_231_3 (call : QC FA) (x1 : Int32) (L : QH FA) (F : Nat) : rnG call 231 (F + 2) 57 [some (vR 0), some (vI x1)] [] L = rnG call 231 F 59 [some (vR 0), some (vI 0)] [] L := rfl
set_option maxRecDepth 100000 in
theorem bc12_231_4 (call : QC FA) (x1 : Int32) (z : Nat → Int32) (f : Nat → FA) (F : Nat) : rnG call 231 (F + 7) 15 [some (vR 0), some (vI x1)] [] (LR z f) = rnG call 231 F 22 [some (vR 0), some (vI x1)] [vI x1, vR 11, vR 0, vI x1, vR 11] (LR z f) := rfl
set_option maxRecDepth 100000 in
theorem bc12_231_5 (call : QC FA) (x : Int32) (s1 : Int32) (ls : List (Option PV)) (z : Nat → Int32) (f : Nat → FA) (F : Nat) : rnG call 231 (F + 1) 22 ls [vI x, vR 11, vR 0, vI s1, vR 11] (LR z f) = bif (Nat.beq 0 0 && pin x 48) then rnG call 231 F 23 ls [vI (f 11 (ix x)), vR 0, vI s1, vR 11] (LR z f) else none := rfl
set_option maxRecDepth 100000 in
theorem bc12_231_6 (call : QC FA) (a0 : Int32) (s0 : Int32) (ls : List (Option PV)) (z : Nat → Int32) (f : Nat → FA) (F : Nat) : rnG call 231 (F + 1) 23 ls [vI a0, vR 0, vI s0, vR 11] (LR z f) = cbd (call 229 [vR 0, vI a0] (LR z f)) (fun r L' => rnG call 231 F 24 ls (r.toList ++ [vI s0, vR 11]) L') := pcY (ih := rnG call 231 F) (call := call) (a := 229) (b := 1) (v := 12) (t := 24) (x := 0) (ls := ls) (As := [vI a0]) (st' := [vI s0, vR 11]) (L := LR z f) rfl rfl rfl
set_option maxRecDepth 100000 in
theorem bc12_231_7 (call : QC FA) (x y : Int32) (ls : List (Option PV)) (z : Nat → Int32) (f : Nat → FA) (F : Nat) : rnG call 231 (F + 1) 24 ls [vI y, vI x, vR 11] (LR z f) = bif (Nat.beq 0 0 && pin x 48) then rnG call 231 F 25 ls [] (LR z (uA f 11 (upd (f 11) (ix x) y))) else none := rfl
set_option maxRecDepth 100000 in
theorem bc12_231_8 (call : QC FA) (x1 : Int32) (z : Nat → Int32) (f : Nat → FA) (F : Nat) : rnG call 231 (F + 7) 25 [some (vR 0), some (vI x1)] [] (LR z f) = rnG call 231 F 32 [some (vR 0), some (vI x1)] [vI x1, vR 12, vR 0, vI x1, vR 12] (LR z f) := rfl
set_option maxRecDepth 100000 in
theorem bc12_231_9 (call : QC FA) (x : Int32) (s1 : Int32) (ls : List (Option PV)) (z : Nat → Int32) (f : Nat → FA) (F : Nat) : rnG call 231 (F + 1) 32 ls [vI x, vR 12, vR 0, vI s1, vR 12] (LR z f) = bif (Nat.beq 0 0 && pin x 48) then rnG call 231 F 33 ls [vI (f 12 (ix x)), vR 0, vI s1, vR 12] (LR z f) else none := rfl
set_option maxRecDepth 100000 in
theorem bc12_231_10 (call : QC FA) (a0 : Int32) (s0 : Int32) (ls : List (Option PV)) (z : Nat → Int32) (f : Nat → FA) (F : Nat) : rnG call 231 (F + 1) 33 ls [vI a0, vR 0, vI s0, vR 12] (LR z f) = cbd (call 229 [vR 0, vI a0] (LR z f)) (fun r L' => rnG call 231 F 34 ls (r.toList ++ [vI s0, vR 12]) L') := pcY (ih := rnG call 231 F) (call := call) (a := 229) (b := 1) (v := 12) (t := 34) (x := 0) (ls := ls) (As := [vI a0]) (st' := [vI s0, vR 12]) (L := LR z f) rfl rfl rfl
set_option maxRecDepth 100000 in
theorem bc12_231_11 (call : QC FA) (x y : Int32) (ls : List (Option PV)) (z : Nat → Int32) (f : Nat → FA) (F : Nat) : rnG call 231 (F + 1) 34 ls [vI y, vI x, vR 12] (LR z f) = bif (Nat.beq 0 0 && pin x 48) then rnG call 231 F 35 ls [] (LR z (uA f 12 (upd (f 12) (ix x) y))) else none := rfl
set_option maxRecDepth 100000 in
theorem bc12_231_12 (call : QC FA) (x1 : Int32) (z : Nat → Int32) (f : Nat → FA) (F : Nat) : rnG call 231 (F + 7) 35 [some (vR 0), some (vI x1)] [] (LR z f) = rnG call 231 F 42 [some (vR 0), some (vI x1)] [vI x1, vR 13, vR 0, vI x1, vR 13] (LR z f) := rfl
set_option maxRecDepth 100000 in
theorem bc12_231_13 (call : QC FA) (x : Int32) (s1 : Int32) (ls : List (Option PV)) (z : Nat → Int32) (f : Nat → FA) (F : Nat) : rnG call 231 (F + 1) 42 ls [vI x, vR 13, vR 0, vI s1, vR 13] (LR z f) = bif (Nat.beq 0 0 && pin x 48) then rnG call 231 F 43 ls [vI (f 13 (ix x)), vR 0, vI s1, vR 13] (LR z f) else none := rfl
set_option maxRecDepth 100000 in
theorem bc12_231_14 (call : QC FA) (a0 : Int32) (s0 : Int32) (ls : List (Option PV)) (z : Nat → Int32) (f : Nat → FA) (F : Nat) : rnG call 231 (F + 1) 43 ls [vI a0, vR 0, vI s0, vR 13] (LR z f) = cbd (call 229 [vR 0, vI a0] (LR z f)) (fun r L' => rnG call 231 F 44 ls (r.toList ++ [vI s0, vR 13]) L') := pcY (ih := rnG call 231 F) (call := call) (a := 229) (b := 1) (v := 12) (t := 44) (x := 0) (ls := ls) (As := [vI a0]) (st' := [vI s0, vR 13]) (L := LR z f) rfl rfl rfl
set_option maxRecDepth 100000 in
theorem bc12_231_15 (call : QC FA) (x y : Int32) (ls : List (Option PV)) (z : Nat → Int32) (f : Nat → FA) (F : Nat) : rnG call 231 (F + 1) 44 ls [vI y, vI x, vR 13] (LR z f) = bif (Nat.beq 0 0 && pin x 48) then rnG call 231 F 45 ls [] (LR z (uA f 13 (upd (f 13) (ix x) y))) else none := rfl
set_option maxRecDepth 100000 in
theorem bc12_231_16 (call : QC FA) (x1 : Int32) (z : Nat → Int32) (f : Nat → FA) (F : Nat) : rnG call 231 (F + 7) 45 [some (vR 0), some (vI x1)] [] (LR z f) = rnG call 231 F 52 [some (vR 0), some (vI x1)] [vI x1, vR 14, vR 0, vI x1, vR 14] (LR z f) := rfl
set_option maxRecDepth 100000 in
theorem bc12_231_17 (call : QC FA) (x : Int32) (s1 : Int32) (ls : List (Option PV)) (z : Nat → Int32) (f : Nat → FA) (F : Nat) : rnG call 231 (F + 1) 52 ls [vI x, vR 14, vR 0, vI s1, vR 14] (LR z f) = bif (Nat.beq 0 0 && pin x 48) then rnG call 231 F 53 ls [vI (f 14 (ix x)), vR 0, vI s1, vR 14] (LR z f) else none := rfl
set_option maxRecDepth 100000 in
theorem bc12_231_18 (call : QC FA) (a0 : Int32) (s0 : Int32) (ls : List (Option PV)) (z : Nat → Int32) (f : Nat → FA) (F : Nat) : rnG call 231 (F + 1) 53 ls [vI a0, vR 0, vI s0, vR 14] (LR z f) = cbd (call 229 [vR 0, vI a0] (LR z f)) (fun r L' => rnG call 231 F 54 ls (r.toList ++ [vI s0, vR 14]) L') := pcY (ih := rnG call 231 F) (call := call) (a := 229) (b := 1) (v := 12) (t := 54) (x := 0) (ls := ls) (As := [vI a0]) (st' := [vI s0, vR 14]) (L := LR z f) rfl rfl rfl
set_option maxRecDepth 100000 in
theorem bc12_231_19 (call : QC FA) (x y : Int32) (ls : List (Option PV)) (z : Nat → Int32) (f : Nat → FA) (F : Nat) : rnG call 231 (F + 1) 54 ls [vI y, vI x, vR 14] (LR z f) = bif (Nat.beq 0 0 && pin x 48) then rnG call 231 F 55 ls [] (LR z (uA f 14 (upd (f 14) (ix x) y))) else none := rfl
set_option maxRecDepth 100000 in
theorem bc12_231_20 (call : QC FA) (x1 : Int32) (L : QH FA) (F : Nat) : rnG call 231 (F + 1) 55 [some (vR 0), some (vI x1)] [] L = rnG call 231 F 56 [some (vR 0), some (vI (x1 + 1))] [] L := rfl
set_option maxRecDepth 100000 in
theorem bc12_231_21 (call : QC FA) (x1 : Int32) (L : QH FA) (F : Nat) : rnG call 231 (F + 1) 56 [some (vR 0), some (vI x1)] [] L = rnG call 231 F 12 [some (vR 0), some (vI x1)] [] L := rfl
theorem vcc12_231_12 (d : Nat) (x1 : Int32) (z : Nat → Int32) (f : Nat → FA) (res : Option PV × QH FA) (H : ((16 ≤ I x1 → RC (mcall (d + 1)) (mP 231) 59 [some (vR 0), some (vI 0)] [] (LR z f) res) ∧ (I x1 < 16 → (pin x1 48 = true ∧ (∃ (r1 : Int32) (z1 : Nat → Int32) (f1 : Nat → FA), (mcall (d + 1)) 229 [vR 0, vI (f 11 (ix x1))] (LR z f) = some (some (vI r1), LR z1 f1) ∧ (pin x1 48 = true ∧ (pin x1 48 = true ∧ (∃ (r2 : Int32) (z2 : Nat → Int32) (f2 : Nat → FA), (mcall (d + 1)) 229 [vR 0, vI (f1 12 (ix x1))] (LR z1 (uA f1 11 (upd (f1 11) (ix x1) r1))) = some (some (vI r2), LR z2 f2) ∧ (pin x1 48 = true ∧ (pin x1 48 = true ∧ (∃ (r3 : Int32) (z3 : Nat → Int32) (f3 : Nat → FA), (mcall (d + 1)) 229 [vR 0, vI (f2 13 (ix x1))] (LR z2 (uA f2 12 (upd (f2 12) (ix x1) r2))) = some (some (vI r3), LR z3 f3) ∧ (pin x1 48 = true ∧ (pin x1 48 = true ∧ (∃ (r4 : Int32) (z4 : Nat → Int32) (f4 : Nat → FA), (mcall (d + 1)) 229 [vR 0, vI (f3 14 (ix x1))] (LR z3 (uA f3 13 (upd (f3 13) (ix x1) r3))) = some (some (vI r4), LR z4 f4) ∧ (pin x1 48 = true ∧ RC (mcall (d + 1)) (mP 231) 12 [some (vR 0), some (vI (x1 + 1))] [] (LR z4 (uA f4 14 (upd (f4 14) (ix x1) r4))) res))))))))))))))) : RC (mcall (d + 1)) (mP 231) 12 [some (vR 0), some (vI x1)] [] (LR z f) res := by
  refine rc_b (i' := 14) (ls' := [some (vR 0), some (vI x1)]) (st' := [vI 16, vI x1]) (L' := LR z f) 2 (bc12_231_1 (mcall (d + 1)) x1 _) ?_
  refine rc_if (it := 57) (ie := 15) (ls' := [some (vR 0), some (vI x1)]) (st' := []) (bc12_231_2 (mcall (d + 1)) x1 16 _ _) (fun q1 => ?_) (fun q1 => ?_)
  · have H := H.1 (cI3t q1 rfl rfl)
    refine rc_b (i' := 59) (ls' := [some (vR 0), some (vI 0)]) (st' := []) (L' := LR z f) 2 (bc12_231_3 (mcall (d + 1)) x1 _) ?_
    exact H
  · have H := H.2 (cI3f q1 rfl rfl)
    refine rc_b (i' := 22) (ls' := [some (vR 0), some (vI x1)]) (st' := [vI x1, vR 11, vR 0, vI x1, vR 11]) (L' := LR z f) 7 (bc12_231_4 (mcall (d + 1)) x1 z f) ?_
    obtain ⟨g1, H⟩ := H
    refine rc_g (i' := 23) (ls' := [some (vR 0), some (vI x1)]) (st' := [vI (f 11 (ix x1)), vR 0, vI x1, vR 11]) (L' := LR z f) (bc12_231_5 (mcall (d + 1)) x1 x1 _ z f) (pinG g1) ?_
    obtain ⟨r1, z1, f1, hc, H⟩ := H
    refine rc_call (t := 24) (ls' := [some (vR 0), some (vI x1)]) (st' := [vI x1, vR 11]) (bc12_231_6 (mcall (d + 1)) (f 11 (ix x1)) x1 _ z f) hc ?_
    show RC (mcall (d + 1)) (mP 231) 24 [some (vR 0), some (vI x1)] [vI r1, vI x1, vR 11] (LR z1 f1) res
    obtain ⟨g1, H⟩ := H
    refine rc_g (i' := 25) (ls' := [some (vR 0), some (vI x1)]) (st' := []) (L' := LR z1 (uA f1 11 (upd (f1 11) (ix x1) r1))) (bc12_231_7 (mcall (d + 1)) x1 r1 _ z1 f1) (pinG g1) ?_
    refine rc_b (i' := 32) (ls' := [some (vR 0), some (vI x1)]) (st' := [vI x1, vR 12, vR 0, vI x1, vR 12]) (L' := LR z1 (uA f1 11 (upd (f1 11) (ix x1) r1))) 7 (bc12_231_8 (mcall (d + 1)) x1 z1 (uA f1 11 (upd (f1 11) (ix x1) r1))) ?_
    obtain ⟨g1, H⟩ := H
    refine rc_g (i' := 33) (ls' := [some (vR 0), some (vI x1)]) (st' := [vI (f1 12 (ix x1)), vR 0, vI x1, vR 12]) (L' := LR z1 (uA f1 11 (upd (f1 11) (ix x1) r1))) (bc12_231_9 (mcall (d + 1)) x1 x1 _ z1 (uA f1 11 (upd (f1 11) (ix x1) r1))) (pinG g1) ?_
    obtain ⟨r2, z2, f2, hc, H⟩ := H
    refine rc_call (t := 34) (ls' := [some (vR 0), some (vI x1)]) (st' := [vI x1, vR 12]) (bc12_231_10 (mcall (d + 1)) (f1 12 (ix x1)) x1 _ z1 (uA f1 11 (upd (f1 11) (ix x1) r1))) hc ?_
    show RC (mcall (d + 1)) (mP 231) 34 [some (vR 0), some (vI x1)] [vI r2, vI x1, vR 12] (LR z2 f2) res
    obtain ⟨g1, H⟩ := H
    refine rc_g (i' := 35) (ls' := [some (vR 0), some (vI x1)]) (st' := []) (L' := LR z2 (uA f2 12 (upd (f2 12) (ix x1) r2))) (bc12_231_11 (mcall (d + 1)) x1 r2 _ z2 f2) (pinG g1) ?_
    refine rc_b (i' := 42) (ls' := [some (vR 0), some (vI x1)]) (st' := [vI x1, vR 13, vR 0, vI x1, vR 13]) (L' := LR z2 (uA f2 12 (upd (f2 12) (ix x1) r2))) 7 (bc12_231_12 (mcall (d + 1)) x1 z2 (uA f2 12 (upd (f2 12) (ix x1) r2))) ?_
    obtain ⟨g1, H⟩ := H
    refine rc_g (i' := 43) (ls' := [some (vR 0), some (vI x1)]) (st' := [vI (f2 13 (ix x1)), vR 0, vI x1, vR 13]) (L' := LR z2 (uA f2 12 (upd (f2 12) (ix x1) r2))) (bc12_231_13 (mcall (d + 1)) x1 x1 _ z2 (uA f2 12 (upd (f2 12) (ix x1) r2))) (pinG g1) ?_
    obtain ⟨r3, z3, f3, hc, H⟩ := H
    refine rc_call (t := 44) (ls' := [some (vR 0), some (vI x1)]) (st' := [vI x1, vR 13]) (bc12_231_14 (mcall (d + 1)) (f2 13 (ix x1)) x1 _ z2 (uA f2 12 (upd (f2 12) (ix x1) r2))) hc ?_
    show RC (mcall (d + 1)) (mP 231) 44 [some (vR 0), some (vI x1)] [vI r3, vI x1, vR 13] (LR z3 f3) res
    obtain ⟨g1, H⟩ := H
    refine rc_g (i' := 45) (ls' := [some (vR 0), some (vI x1)]) (st' := []) (L' := LR z3 (uA f3 13 (upd (f3 13) (ix x1) r3))) (bc12_231_15 (mcall (d + 1)) x1 r3 _ z3 f3) (pinG g1) ?_
    refine rc_b (i' := 52) (ls' := [some (vR 0), some (vI x1)]) (st' := [vI x1, vR 14, vR 0, vI x1, vR 14]) (L' := LR z3 (uA f3 13 (upd (f3 13) (ix x1) r3))) 7 (bc12_231_16 (mcall (d + 1)) x1 z3 (uA f3 13 (upd (f3 13) (ix x1) r3))) ?_
    obtain ⟨g1, H⟩ := H
    refine rc_g (i' := 53) (ls' := [some (vR 0), some (vI x1)]) (st' := [vI (f3 14 (ix x1)), vR 0, vI x1, vR 14]) (L' := LR z3 (uA f3 13 (upd (f3 13) (ix x1) r3))) (bc12_231_17 (mcall (d + 1)) x1 x1 _ z3 (uA f3 13 (upd (f3 13) (ix x1) r3))) (pinG g1) ?_
    obtain ⟨r4, z4, f4, hc, H⟩ := H
    refine rc_call (t := 54) (ls' := [some (vR 0), some (vI x1)]) (st' := [vI x1, vR 14]) (bc12_231_18 (mcall (d + 1)) (f3 14 (ix x1)) x1 _ z3 (uA f3 13 (upd (f3 13) (ix x1) r3))) hc ?_
    show RC (mcall (d + 1)) (mP 231) 54 [some (vR 0), some (vI x1)] [vI r4, vI x1, vR 14] (LR z4 f4) res
    obtain ⟨g1, H⟩ := H
    refine rc_g (i' := 55) (ls' := [some (vR 0), some (vI x1)]) (st' := []) (L' := LR z4 (uA f4 14 (upd (f4 14) (ix x1) r4))) (bc12_231_19 (mcall (d + 1)) x1 r4 _ z4 f4) (pinG g1) ?_
    refine rc_b (i' := 56) (ls' := [some (vR 0), some (vI (x1 + 1))]) (st' := []) (L' := LR z4 (uA f4 14 (upd (f4 14) (ix x1) r4))) 1 (bc12_231_20 (mcall (d + 1)) x1 _) ?_
    refine rc_b (i' := 12) (ls' := [some (vR 0), some (vI (x1 + 1))]) (st' := []) (L' := LR z4 (uA f4 14 (upd (f4 14) (ix x1) r4))) 1 (bc12_231_21 (mcall (d + 1)) (x1 + 1) _) ?_
    exact H
set_option maxRecDepth 100000 in
theorem bc59_231_1 (call : QC FA) (x1 : Int32) (L : QH FA) (F : Nat) : rnG call 231 (F + 2) 59 [some (vR 0), some (vI x1)] [] L = rnG call 231 F 61 [some (vR 0), some (vI x1)] [vI 400, vI x1] L := rfl
set_option maxRecDepth 100000 in
theorem bc59_231_2 (call : QC FA) (x y : Int32) (ls : List (Option PV)) (L : QH FA) (F : Nat) : rnG call 231 (F + 1) 61 ls [vI y, vI x] L = bif pcmp 3 x y then rnG call 231 F 84 ls [] L else rnG call 231 F 62 ls [] L := rfl
set_option maxRecDepth 100000 in
theorem bc59_231_3 (call : QC FA) (ls : List (Option PV)) (L : QH FA) (F : Nat) : rnG call 231 (F + 1) 84 ls [] L = some (none, L) := rfl
set_option maxRecDepth 100000 in
theorem bc59_231_4 (call : QC FA) (x1 : Int32) (z : Nat → Int32) (f : Nat → FA) (F : Nat) : rnG call 231 (F + 7) 62 [some (vR 0), some (vI x1)] [] (LR z f) = rnG call 231 F 69 [some (vR 0), some (vI x1)] [vI x1, vR 15, vR 0, vI x1, vR 15] (LR z f) := rfl
set_option maxRecDepth 100000 in
theorem bc59_231_5 (call : QC FA) (x : Int32) (s1 : Int32) (ls : List (Option PV)) (z : Nat → Int32) (f : Nat → FA) (F : Nat) : rnG call 231 (F + 1) 69 ls [vI x, vR 15, vR 0, vI s1, vR 15] (LR z f) = bif (Nat.beq 0 0 && pin x 1200) then rnG call 231 F 70 ls [vI (f 15 (ix x)), vR 0, vI s1, vR 15] (LR z f) else none := rfl
set_option maxRecDepth 100000 in
theorem bc59_231_6 (call : QC FA) (a0 : Int32) (s0 : Int32) (ls : List (Option PV)) (z : Nat → Int32) (f : Nat → FA) (F : Nat) : rnG call 231 (F + 1) 70 ls [vI a0, vR 0, vI s0, vR 15] (LR z f) = cbd (call 229 [vR 0, vI a0] (LR z f)) (fun r L' => rnG call 231 F 71 ls (r.toList ++ [vI s0, vR 15]) L') := pcY (ih := rnG call 231 F) (call := call) (a := 229) (b := 1) (v := 12) (t := 71) (x := 0) (ls := ls) (As := [vI a0]) (st' := [vI s0, vR 15]) (L := LR z f) rfl rfl rfl
set_option maxRecDepth 100000 in
theorem bc59_231_7 (call : QC FA) (x y : Int32) (ls : List (Option PV)) (z : Nat → Int32) (f : Nat → FA) (F : Nat) : rnG call 231 (F + 1) 71 ls [vI y, vI x, vR 15] (LR z f) = bif (Nat.beq 0 0 && pin x 1200) then rnG call 231 F 72 ls [] (LR z (uA f 15 (upd (f 15) (ix x) y))) else none := rfl
set_option maxRecDepth 100000 in
theorem bc59_231_8 (call : QC FA) (x1 : Int32) (z : Nat → Int32) (f : Nat → FA) (F : Nat) : rnG call 231 (F + 7) 72 [some (vR 0), some (vI x1)] [] (LR z f) = rnG call 231 F 79 [some (vR 0), some (vI x1)] [vI x1, vR 16, vR 0, vI x1, vR 16] (LR z f) := rfl
set_option maxRecDepth 100000 in
theorem bc59_231_9 (call : QC FA) (x : Int32) (s1 : Int32) (ls : List (Option PV)) (z : Nat → Int32) (f : Nat → FA) (F : Nat) : rnG call 231 (F + 1) 79 ls [vI x, vR 16, vR 0, vI s1, vR 16] (LR z f) = bif (Nat.beq 0 0 && pin x 1200) then rnG call 231 F 80 ls [vI (f 16 (ix x)), vR 0, vI s1, vR 16] (LR z f) else none := rfl
set_option maxRecDepth 100000 in
theorem bc59_231_10 (call : QC FA) (a0 : Int32) (s0 : Int32) (ls : List (Option PV)) (z : Nat → Int32) (f : Nat → FA) (F : Nat) : rnG call 231 (F + 1) 80 ls [vI a0, vR 0, vI s0, vR 16] (LR z f) = cbd (call 229 [vR 0, vI a0] (LR z f)) (fun r L' => rnG call 231 F 81 ls (r.toList ++ [vI s0, vR 16]) L') := pcY (ih := rnG call 231 F) (call := call) (a := 229) (b := 1) (v := 12) (t := 81) (x := 0) (ls := ls) (As := [vI a0]) (st' := [vI s0, vR 16]) (L := LR z f) rfl rfl rfl
set_option maxRecDepth 100000 in
theorem bc59_231_11 (call : QC FA) (x y : Int32) (ls : List (Option PV)) (z : Nat → Int32) (f : Nat → FA) (F : Nat) : rnG call 231 (F + 1) 81 ls [vI y, vI x, vR 16] (LR z f) = bif (Nat.beq 0 0 && pin x 1200) then rnG call 231 F 82 ls [] (LR z (uA f 16 (upd (f 16) (ix x) y))) else none := rfl
set_option maxRecDepth 100000 in
theorem bc59_231_12 (call : QC FA) (x1 : Int32) (L : QH FA) (F : Nat) : rnG call 231 (F + 1) 82 [some (vR 0), some (vI x1)] [] L = rnG call 231 F 83 [some (vR 0), some (vI (x1 + 1))] [] L := rfl
set_option maxRecDepth 100000 in
theorem bc59_231_13 (call : QC FA) (x1 : Int32) (L : QH FA) (F : Nat) : rnG call 231 (F + 1) 83 [some (vR 0), some (vI x1)] [] L = rnG call 231 F 59 [some (vR 0), some (vI x1)] [] L := rfl
theorem vcc59_231_59 (d : Nat) (x1 : Int32) (z : Nat → Int32) (f : Nat → FA) (res : Option PV × QH FA) (H : ((400 ≤ I x1 → res = (none, LR z f)) ∧ (I x1 < 400 → (pin x1 1200 = true ∧ (∃ (r1 : Int32) (z1 : Nat → Int32) (f1 : Nat → FA), (mcall (d + 1)) 229 [vR 0, vI (f 15 (ix x1))] (LR z f) = some (some (vI r1), LR z1 f1) ∧ (pin x1 1200 = true ∧ (pin x1 1200 = true ∧ (∃ (r2 : Int32) (z2 : Nat → Int32) (f2 : Nat → FA), (mcall (d + 1)) 229 [vR 0, vI (f1 16 (ix x1))] (LR z1 (uA f1 15 (upd (f1 15) (ix x1) r1))) = some (some (vI r2), LR z2 f2) ∧ (pin x1 1200 = true ∧ RC (mcall (d + 1)) (mP 231) 59 [some (vR 0), some (vI (x1 + 1))] [] (LR z2 (uA f2 16 (upd (f2 16) (ix x1) r2))) res))))))))) : RC (mcall (d + 1)) (mP 231) 59 [some (vR 0), some (vI x1)] [] (LR z f) res := by
  refine rc_b (i' := 61) (ls' := [some (vR 0), some (vI x1)]) (st' := [vI 400, vI x1]) (L' := LR z f) 2 (bc59_231_1 (mcall (d + 1)) x1 _) ?_
  refine rc_if (it := 84) (ie := 62) (ls' := [some (vR 0), some (vI x1)]) (st' := []) (bc59_231_2 (mcall (d + 1)) x1 400 _ _) (fun q1 => ?_) (fun q1 => ?_)
  · have H := H.1 (cI3t q1 rfl rfl)
    subst H
    exact rc_ret (bc59_231_3 (mcall (d + 1)) _ _)
  · have H := H.2 (cI3f q1 rfl rfl)
    refine rc_b (i' := 69) (ls' := [some (vR 0), some (vI x1)]) (st' := [vI x1, vR 15, vR 0, vI x1, vR 15]) (L' := LR z f) 7 (bc59_231_4 (mcall (d + 1)) x1 z f) ?_
    obtain ⟨g1, H⟩ := H
    refine rc_g (i' := 70) (ls' := [some (vR 0), some (vI x1)]) (st' := [vI (f 15 (ix x1)), vR 0, vI x1, vR 15]) (L' := LR z f) (bc59_231_5 (mcall (d + 1)) x1 x1 _ z f) (pinG g1) ?_
    obtain ⟨r1, z1, f1, hc, H⟩ := H
    refine rc_call (t := 71) (ls' := [some (vR 0), some (vI x1)]) (st' := [vI x1, vR 15]) (bc59_231_6 (mcall (d + 1)) (f 15 (ix x1)) x1 _ z f) hc ?_
    show RC (mcall (d + 1)) (mP 231) 71 [some (vR 0), some (vI x1)] [vI r1, vI x1, vR 15] (LR z1 f1) res
    obtain ⟨g1, H⟩ := H
    refine rc_g (i' := 72) (ls' := [some (vR 0), some (vI x1)]) (st' := []) (L' := LR z1 (uA f1 15 (upd (f1 15) (ix x1) r1))) (bc59_231_7 (mcall (d + 1)) x1 r1 _ z1 f1) (pinG g1) ?_
    refine rc_b (i' := 79) (ls' := [some (vR 0), some (vI x1)]) (st' := [vI x1, vR 16, vR 0, vI x1, vR 16]) (L' := LR z1 (uA f1 15 (upd (f1 15) (ix x1) r1))) 7 (bc59_231_8 (mcall (d + 1)) x1 z1 (uA f1 15 (upd (f1 15) (ix x1) r1))) ?_
    obtain ⟨g1, H⟩ := H
    refine rc_g (i' := 80) (ls' := [some (vR 0), some (vI x1)]) (st' := [vI (f1 16 (ix x1)), vR 0, vI x1, vR 16]) (L' := LR z1 (uA f1 15 (upd (f1 15) (ix x1) r1))) (bc59_231_9 (mcall (d + 1)) x1 x1 _ z1 (uA f1 15 (upd (f1 15) (ix x1) r1))) (pinG g1) ?_
    obtain ⟨r2, z2, f2, hc, H⟩ := H
    refine rc_call (t := 81) (ls' := [some (vR 0), some (vI x1)]) (st' := [vI x1, vR 16]) (bc59_231_10 (mcall (d + 1)) (f1 16 (ix x1)) x1 _ z1 (uA f1 15 (upd (f1 15) (ix x1) r1))) hc ?_
    show RC (mcall (d + 1)) (mP 231) 81 [some (vR 0), some (vI x1)] [vI r2, vI x1, vR 16] (LR z2 f2) res
    obtain ⟨g1, H⟩ := H
    refine rc_g (i' := 82) (ls' := [some (vR 0), some (vI x1)]) (st' := []) (L' := LR z2 (uA f2 16 (upd (f2 16) (ix x1) r2))) (bc59_231_11 (mcall (d + 1)) x1 r2 _ z2 f2) (pinG g1) ?_
    refine rc_b (i' := 83) (ls' := [some (vR 0), some (vI (x1 + 1))]) (st' := []) (L' := LR z2 (uA f2 16 (upd (f2 16) (ix x1) r2))) 1 (bc59_231_12 (mcall (d + 1)) x1 _) ?_
    refine rc_b (i' := 59) (ls' := [some (vR 0), some (vI (x1 + 1))]) (st' := []) (L' := LR z2 (uA f2 16 (upd (f2 16) (ix x1) r2))) 1 (bc59_231_13 (mcall (d + 1)) (x1 + 1) _) ?_
    exact H
theorem kl_12 (d0 : Nat) {tk : Bool} {z0 : Nat → Int32} {f0 : Nat → FA} : ∀ t x, x + t = 16 → ∀ z f, INV tk (1575 + 4 * x) z0 f0 z f → ∃ z2 f2, INV tk 1639 z0 f0 z2 f2 ∧ ∀ res, (RC (mcall (d0 + 1)) (mP 231) 59 [some (vR 0), some (vI 0)] [] (LR z2 f2) res) → RC (mcall (d0 + 1)) (mP 231) 12 [some (vR 0), some (vI (nI x))] [] (LR z f) res := by
  intro t
  induction t with
  | zero =>
    intro x hx z f h
    obtain rfl : x = 16 := by omega
    refine ⟨z, f, h, fun res hr => vcc12_231_12 _ _ _ _ _ ?_⟩
    rw [I_nI (by omega)]
    exact ⟨fun _ => hr, fun q => by omega⟩
  | succ t ih =>
    intro x hx z f h0
    obtain ⟨v1, z1, f1, c1, h1⟩ := kp_row (d0 + 0) (P := 1575 + 4 * x + 0) (P' := 1575 + 4 * x + 1) h0 (by omega) rfl (ly_11 x (by omega)) (by decide)
    obtain ⟨v2, z2, f2, c2, h2⟩ := kp_row (d0 + 0) (P := 1575 + 4 * x + 1) (P' := 1575 + 4 * x + 2) h1 (by omega) rfl (ly_12 x (by omega)) (by decide)
    obtain ⟨v3, z3, f3, c3, h3⟩ := kp_row (d0 + 0) (P := 1575 + 4 * x + 2) (P' := 1575 + 4 * x + 3) h2 (by omega) rfl (ly_13 x (by omega)) (by decide)
    obtain ⟨v4, z4, f4, c4, h4⟩ := kp_row (d0 + 0) (P := 1575 + 4 * x + 3) (P' := 1575 + 4 * x + 4) h3 (by omega) rfl (ly_14 x (by omega)) (by decide)
    obtain ⟨zz, ff, gg1, gg2⟩ := ih (x + 1) (by omega) _ _ (by rw [show 1575 + 4 * (x + 1) = 1575 + 4 * x + 4 by omega]; exact h4)
    refine ⟨zz, ff, gg1, fun res hr => vcc12_231_12 _ _ _ _ _ ?_⟩
    rw [I_nI (by omega), ix_nI (by omega), show nI x + 1 = nI (x + 1) from nI_add x 1]
    exact ⟨fun q => by omega, fun _ => ⟨pin_nI (by omega) (by omega), v1, z1, f1, c1, pin_nI (by omega) (by omega), pin_nI (by omega) (by omega), v2, z2, f2, c2, pin_nI (by omega) (by omega), pin_nI (by omega) (by omega), v3, z3, f3, c3, pin_nI (by omega) (by omega), pin_nI (by omega) (by omega), v4, z4, f4, c4, pin_nI (by omega) (by omega), gg2 res hr⟩⟩
theorem kl_59 (d0 : Nat) {tk : Bool} {z0 : Nat → Int32} {f0 : Nat → FA} : ∀ t x, x + t = 400 → ∀ z f, INV tk (1639 + 2 * x) z0 f0 z f → ∃ z2 f2, INV tk 2439 z0 f0 z2 f2 ∧ ∀ res, (res = (none, LR z2 f2)) → RC (mcall (d0 + 1)) (mP 231) 59 [some (vR 0), some (vI (nI x))] [] (LR z f) res := by
  intro t
  induction t with
  | zero =>
    intro x hx z f h
    obtain rfl : x = 400 := by omega
    refine ⟨z, f, h, fun res hr => vcc59_231_59 _ _ _ _ _ ?_⟩
    rw [I_nI (by omega)]
    exact ⟨fun _ => hr, fun q => by omega⟩
  | succ t ih =>
    intro x hx z f h0
    obtain ⟨v1, z1, f1, c1, h1⟩ := kp_row (d0 + 0) (P := 1639 + 2 * x + 0) (P' := 1639 + 2 * x + 1) h0 (by omega) rfl (ly_15 x (by omega)) (by decide)
    obtain ⟨v2, z2, f2, c2, h2⟩ := kp_row (d0 + 0) (P := 1639 + 2 * x + 1) (P' := 1639 + 2 * x + 2) h1 (by omega) rfl (ly_16 x (by omega)) (by decide)
    obtain ⟨zz, ff, gg1, gg2⟩ := ih (x + 1) (by omega) _ _ (by rw [show 1639 + 2 * (x + 1) = 1639 + 2 * x + 2 by omega]; exact h2)
    refine ⟨zz, ff, gg1, fun res hr => vcc59_231_59 _ _ _ _ _ ?_⟩
    rw [I_nI (by omega), ix_nI (by omega), show nI x + 1 = nI (x + 1) from nI_add x 1]
    exact ⟨fun q => by omega, fun _ => ⟨pin_nI (by omega) (by omega), v1, z1, f1, c1, pin_nI (by omega) (by omega), pin_nI (by omega) (by omega), v2, z2, f2, c2, pin_nI (by omega) (by omega), gg2 res hr⟩⟩
theorem keepsLaw_r (d0 : Nat) {tk : Bool} {z Z0 : Nat → Int32} {f f0 : Nat → FA} (h : INV tk 1574 Z0 f0 z f) : ∃ z' f', mcall (d0 + 2) 231 [vR 0] (LR z f) = some (none, LR z' f') ∧ INV tk 2439 Z0 f0 z' f' := by
  obtain ⟨v, z1, f1, c1, h1⟩ := kp_row d0 (P' := 1575) h (by omega) rfl (ly_10 0 (by omega)) (by decide)
  obtain ⟨z2, f2, h2, g2⟩ := kl_12 d0 16 0 (by omega) _ _ h1
  obtain ⟨z3, f3, h3, g3⟩ := kl_59 d0 400 0 (by omega) _ _ h2
  exact ⟨z3, f3, mcall_i (mq231 (cu := [])).2.2 rfl (vc231_0 _ _ _ _ _ ⟨by decide, v, z1, f1, c1, by decide, g2 _ (g3 _ rfl)⟩), h3⟩
set_option maxRecDepth 100000 in
theorem b219_1 (call : QC FA) (x1 : Int32) (o2 : Option PV) (L : QH FA) (F : Nat) : rnG call 219 (F + 2) 0 [some (vR 0), some (vI x1), o2] [] L = rnG call 219 F 2 [some (vR 0), some (vI x1), o2] [vI 0, vR 0] L := rfl
set_option maxRecDepth 100000 in
theorem b219_2 (call : QC FA) (y : Int32) (ls : List (Option PV)) (z : Nat → Int32) (f : Nat → FA) (F : Nat) : rnG call 219 (F + 1) 2 ls [vI y, vR 0] (LR z f) = rnG call 219 F 3 ls [] (LR (uZ z 0 y) f) := rfl
set_option maxRecDepth 100000 in
theorem b219_3 (call : QC FA) (x1 : Int32) (o2 : Option PV) (L : QH FA) (F : Nat) : rnG call 219 (F + 1) 3 [some (vR 0), some (vI x1), o2] [] L = rnG call 219 F 4 [some (vR 0), some (vI x1), o2] [vI x1] L := rfl
set_option maxRecDepth 100000 in
theorem b219_4 (call : QC FA) (x : Int32) (ls : List (Option PV)) (L : QH FA) (F : Nat) : rnG call 219 (F + 1) 4 ls [vI x] L = bif pcmp 1 x 0 then rnG call 219 F 10 ls [] L else rnG call 219 F 5 ls [] L := rfl
set_option maxRecDepth 100000 in
theorem b219_5 (call : QC FA) (x1 : Int32) (o2 : Option PV) (L : QH FA) (F : Nat) : rnG call 219 (F + 2) 10 [some (vR 0), some (vI x1), o2] [] L = rnG call 219 F 12 [some (vR 0), some (vI x1), o2] [vI x1, vR 0] L := rfl
set_option maxRecDepth 100000 in
theorem b219_6 (call : QC FA) (y : Int32) (ls : List (Option PV)) (z : Nat → Int32) (f : Nat → FA) (F : Nat) : rnG call 219 (F + 1) 12 ls [vI y, vR 0] (LR z f) = bif (pcmp 0 y 0 || pcmp 0 y 1) then rnG call 219 F 13 ls [] (LR (uZ z 72 y) f) else none := rfl
set_option maxRecDepth 100000 in
theorem b219_7 (call : QC FA) (x1 : Int32) (o2 : Option PV) (L : QH FA) (F : Nat) : rnG call 219 (F + 2) 13 [some (vR 0), some (vI x1), o2] [] L = rnG call 219 F 15 [some (vR 0), some (vI x1), o2] [vI 1, vR 0] L := rfl
set_option maxRecDepth 100000 in
theorem b219_8 (call : QC FA) (y : Int32) (ls : List (Option PV)) (z : Nat → Int32) (f : Nat → FA) (F : Nat) : rnG call 219 (F + 1) 15 ls [vI y, vR 0] (LR z f) = bif (pcmp 0 y 0 || pcmp 0 y 1) then rnG call 219 F 16 ls [] (LR (uZ z 73 y) f) else none := rfl
set_option maxRecDepth 100000 in
theorem b219_9 (call : QC FA) (x1 : Int32) (o2 : Option PV) (L : QH FA) (F : Nat) : rnG call 219 (F + 2) 16 [some (vR 0), some (vI x1), o2] [] L = rnG call 219 F 18 [some (vR 0), some (vI x1), o2] [vI 0, vR 0] L := rfl
set_option maxRecDepth 100000 in
theorem b219_10 (call : QC FA) (y : Int32) (ls : List (Option PV)) (z : Nat → Int32) (f : Nat → FA) (F : Nat) : rnG call 219 (F + 1) 18 ls [vI y, vR 0] (LR z f) = rnG call 219 F 19 ls [] (LR (uZ z 74 y) f) := rfl
set_option maxRecDepth 100000 in
theorem b219_11 (call : QC FA) (x1 : Int32) (o2 : Option PV) (L : QH FA) (F : Nat) : rnG call 219 (F + 2) 19 [some (vR 0), some (vI x1), o2] [] L = rnG call 219 F 21 [some (vR 0), some (vI x1), some (vI 0)] [] L := rfl
set_option maxRecDepth 100000 in
theorem b219_12 (call : QC FA) (x1 : Int32) (o2 : Option PV) (z : Nat → Int32) (f : Nat → FA) (F : Nat) : rnG call 219 (F + 2) 5 [some (vR 0), some (vI x1), o2] [] (LR z f) = rnG call 219 F 7 [some (vR 0), some (vI x1), o2] [vI (z 73)] (LR z f) := rfl
set_option maxRecDepth 100000 in
theorem b219_13 (call : QC FA) (x : Int32) (ls : List (Option PV)) (L : QH FA) (F : Nat) : rnG call 219 (F + 1) 7 ls [vI x] L = bif pcmp 1 x 0 then rnG call 219 F 10 ls [] L else rnG call 219 F 8 ls [] L := rfl
set_option maxRecDepth 100000 in
theorem b219_14 (call : QC FA) (x1 : Int32) (o2 : Option PV) (L : QH FA) (F : Nat) : rnG call 219 (F + 1) 8 [some (vR 0), some (vI x1), o2] [] L = rnG call 219 F 9 [some (vR 0), some (vI x1), o2] [vI 0] L := rfl
set_option maxRecDepth 100000 in
theorem b219_15 (call : QC FA) (ls : List (Option PV)) (L : QH FA) (F : Nat) : rnG call 219 (F + 1) 9 ls [vI 0] L = some (some (vI 0), L) := rfl
theorem vc219_0 (d : Nat) (x1 : Int32) (o2 : Option PV) (z : Nat → Int32) (f : Nat → FA) (res : Option PV × QH FA) (H : ((¬ x1 = 0 → (((x1 : Int32) = 0 ∨ (x1 : Int32) = 1) ∧ (((1 : Int32) = 0 ∨ (1 : Int32) = 1) ∧ RC (mcall (d + 2)) (mP 219) 21 [some (vR 0), some (vI x1), some (vI 0)] [] (LR (uZ (uZ (uZ (uZ z 0 0) 72 x1) 73 1) 74 0) f) res))) ∧ (x1 = 0 → ((¬ z 73 = 0 → (((x1 : Int32) = 0 ∨ (x1 : Int32) = 1) ∧ (((1 : Int32) = 0 ∨ (1 : Int32) = 1) ∧ RC (mcall (d + 2)) (mP 219) 21 [some (vR 0), some (vI x1), some (vI 0)] [] (LR (uZ (uZ (uZ (uZ z 0 0) 72 x1) 73 1) 74 0) f) res))) ∧ (z 73 = 0 → res = (some (vI 0), LR (uZ z 0 0) f)))))) : RC (mcall (d + 2)) (mP 219) 0 [some (vR 0), some (vI x1), o2] [] (LR z f) res := by
  refine rc_b (i' := 2) (ls' := [some (vR 0), some (vI x1), o2]) (st' := [vI 0, vR 0]) (L' := LR z f) 2 (b219_1 (mcall (d + 2)) x1 o2 _) ?_
  refine rc_b (i' := 3) (ls' := [some (vR 0), some (vI x1), o2]) (st' := []) (L' := LR (uZ z 0 0) f) 1 (b219_2 (mcall (d + 2)) 0 _ z f) ?_
  refine rc_b (i' := 4) (ls' := [some (vR 0), some (vI x1), o2]) (st' := [vI x1]) (L' := LR (uZ z 0 0) f) 1 (b219_3 (mcall (d + 2)) x1 o2 _) ?_
  refine rc_if (it := 10) (ie := 5) (ls' := [some (vR 0), some (vI x1), o2]) (st' := []) (b219_4 (mcall (d + 2)) x1 _ _) (fun q1 => ?_) (fun q1 => ?_)
  · have H := H.1 (cI1t q1)
    refine rc_b (i' := 12) (ls' := [some (vR 0), some (vI x1), o2]) (st' := [vI x1, vR 0]) (L' := LR (uZ z 0 0) f) 2 (b219_5 (mcall (d + 2)) x1 o2 _) ?_
    obtain ⟨g1, H⟩ := H
    refine rc_g (i' := 13) (ls' := [some (vR 0), some (vI x1), o2]) (st' := []) (L' := LR (uZ (uZ z 0 0) 72 x1) f) (b219_6 (mcall (d + 2)) x1 _ (uZ z 0 0) f) (zG g1) ?_
    refine rc_b (i' := 15) (ls' := [some (vR 0), some (vI x1), o2]) (st' := [vI 1, vR 0]) (L' := LR (uZ (uZ z 0 0) 72 x1) f) 2 (b219_7 (mcall (d + 2)) x1 o2 _) ?_
    obtain ⟨g1, H⟩ := H
    refine rc_g (i' := 16) (ls' := [some (vR 0), some (vI x1), o2]) (st' := []) (L' := LR (uZ (uZ (uZ z 0 0) 72 x1) 73 1) f) (b219_8 (mcall (d + 2)) 1 _ (uZ (uZ z 0 0) 72 x1) f) (zG g1) ?_
    refine rc_b (i' := 18) (ls' := [some (vR 0), some (vI x1), o2]) (st' := [vI 0, vR 0]) (L' := LR (uZ (uZ (uZ z 0 0) 72 x1) 73 1) f) 2 (b219_9 (mcall (d + 2)) x1 o2 _) ?_
    refine rc_b (i' := 19) (ls' := [some (vR 0), some (vI x1), o2]) (st' := []) (L' := LR (uZ (uZ (uZ (uZ z 0 0) 72 x1) 73 1) 74 0) f) 1 (b219_10 (mcall (d + 2)) 0 _ (uZ (uZ (uZ z 0 0) 72 x1) 73 1) f) ?_
    refine rc_b (i' := 21) (ls' := [some (vR 0), some (vI x1), some (vI 0)]) (st' := []) (L' := LR (uZ (uZ (uZ (uZ z 0 0) 72 x1) 73 1) 74 0) f) 2 (b219_11 (mcall (d + 2)) x1 o2 _) ?_
    exact H
  · have H := H.2 (cI1f q1)
    refine rc_b (i' := 7) (ls' := [some (vR 0), some (vI x1), o2]) (st' := [vI (z 73)]) (L' := LR (uZ z 0 0) f) 2 (b219_12 (mcall (d + 2)) x1 o2 (uZ z 0 0) f) ?_
    refine rc_if (it := 10) (ie := 8) (ls' := [some (vR 0), some (vI x1), o2]) (st' := []) (b219_13 (mcall (d + 2)) (z 73) _ _) (fun q2 => ?_) (fun q2 => ?_)
    · have H := H.1 (cI1t q2)
      refine rc_b (i' := 12) (ls' := [some (vR 0), some (vI x1), o2]) (st' := [vI x1, vR 0]) (L' := LR (uZ z 0 0) f) 2 (b219_5 (mcall (d + 2)) x1 o2 _) ?_
      obtain ⟨g1, H⟩ := H
      refine rc_g (i' := 13) (ls' := [some (vR 0), some (vI x1), o2]) (st' := []) (L' := LR (uZ (uZ z 0 0) 72 x1) f) (b219_6 (mcall (d + 2)) x1 _ (uZ z 0 0) f) (zG g1) ?_
      refine rc_b (i' := 15) (ls' := [some (vR 0), some (vI x1), o2]) (st' := [vI 1, vR 0]) (L' := LR (uZ (uZ z 0 0) 72 x1) f) 2 (b219_7 (mcall (d + 2)) x1 o2 _) ?_
      obtain ⟨g1, H⟩ := H
      refine rc_g (i' := 16) (ls' := [some (vR 0), some (vI x1), o2]) (st' := []) (L' := LR (uZ (uZ (uZ z 0 0) 72 x1) 73 1) f) (b219_8 (mcall (d + 2)) 1 _ (uZ (uZ z 0 0) 72 x1) f) (zG g1) ?_
      refine rc_b (i' := 18) (ls' := [some (vR 0), some (vI x1), o2]) (st' := [vI 0, vR 0]) (L' := LR (uZ (uZ (uZ z 0 0) 72 x1) 73 1) f) 2 (b219_9 (mcall (d + 2)) x1 o2 _) ?_
      refine rc_b (i' := 19) (ls' := [some (vR 0), some (vI x1), o2]) (st' := []) (L' := LR (uZ (uZ (uZ (uZ z 0 0) 72 x1) 73 1) 74 0) f) 1 (b219_10 (mcall (d + 2)) 0 _ (uZ (uZ (uZ z 0 0) 72 x1) 73 1) f) ?_
      refine rc_b (i' := 21) (ls' := [some (vR 0), some (vI x1), some (vI 0)]) (st' := []) (L' := LR (uZ (uZ (uZ (uZ z 0 0) 72 x1) 73 1) 74 0) f) 2 (b219_11 (mcall (d + 2)) x1 o2 _) ?_
      exact H
    · have H := H.2 (cI1f q2)
      refine rc_b (i' := 9) (ls' := [some (vR 0), some (vI x1), o2]) (st' := [vI 0]) (L' := LR (uZ z 0 0) f) 1 (b219_14 (mcall (d + 2)) x1 o2 _) ?_
      subst H
      exact rc_ret (b219_15 (mcall (d + 2)) _ _)
set_option maxRecDepth 100000 in
theorem bc21_219_1 (call : QC FA) (x1 : Int32) (x2 : Int32) (L : QH FA) (F : Nat) : rnG call 219 (F + 2) 21 [some (vR 0), some (vI x1), some (vI x2)] [] L = rnG call 219 F 23 [some (vR 0), some (vI x1), some (vI x2)] [vI 499, vI x2] L := rfl
set_option maxRecDepth 100000 in
theorem bc21_219_2 (call : QC FA) (x y : Int32) (ls : List (Option PV)) (L : QH FA) (F : Nat) : rnG call 219 (F + 1) 23 ls [vI y, vI x] L = bif pcmp 3 x y then rnG call 219 F 36 ls [] L else rnG call 219 F 24 ls [] L := rfl
set_option maxRecDepth 100000 in
theorem bc21_219_3 (call : QC FA) (x1 : Int32) (x2 : Int32) (L : QH FA) (F : Nat) : rnG call 219 (F + 1) 36 [some (vR 0), some (vI x1), some (vI x2)] [] L = rnG call 219 F 37 [some (vR 0), some (vI x1), some (vI x2)] [vR 0] L := rfl
set_option maxRecDepth 100000 in
theorem bc21_219_4 (call : QC FA) (ls : List (Option PV)) (z : Nat → Int32) (f : Nat → FA) (F : Nat) : rnG call 219 (F + 1) 37 ls [vR 0] (LR z f) = cbd (call 232 [vR 0] (LR z f)) (fun r L' => rnG call 219 F 38 ls (r.toList ++ []) L') := pcY (ih := rnG call 219 F) (call := call) (a := 232) (b := 0) (v := 12) (t := 38) (x := 0) (ls := ls) (As := []) (st' := []) (L := LR z f) rfl rfl rfl
set_option maxRecDepth 100000 in
theorem bc21_219_5 (call : QC FA) (x1 : Int32) (x2 : Int32) (L : QH FA) (F : Nat) : rnG call 219 (F + 1) 38 [some (vR 0), some (vI x1), some (vI x2)] [] L = rnG call 219 F 39 [some (vR 0), some (vI x1), some (vI x2)] [vR 0] L := rfl
set_option maxRecDepth 100000 in
theorem bc21_219_6 (call : QC FA) (ls : List (Option PV)) (z : Nat → Int32) (f : Nat → FA) (F : Nat) : rnG call 219 (F + 1) 39 ls [vR 0] (LR z f) = cbd (call 233 [vR 0] (LR z f)) (fun r L' => rnG call 219 F 40 ls (r.toList ++ []) L') := pcY (ih := rnG call 219 F) (call := call) (a := 233) (b := 0) (v := 12) (t := 40) (x := 0) (ls := ls) (As := []) (st' := []) (L := LR z f) rfl rfl rfl
set_option maxRecDepth 100000 in
theorem bc21_219_7 (call : QC FA) (x1 : Int32) (x2 : Int32) (L : QH FA) (F : Nat) : rnG call 219 (F + 2) 40 [some (vR 0), some (vI x1), some (vI x2)] [] L = rnG call 219 F 42 [some (vR 0), some (vI x1), some (vI 0)] [] L := rfl
set_option maxRecDepth 100000 in
theorem bc21_219_8 (call : QC FA) (x1 : Int32) (x2 : Int32) (z : Nat → Int32) (f : Nat → FA) (F : Nat) : rnG call 219 (F + 7) 24 [some (vR 0), some (vI x1), some (vI x2)] [] (LR z f) = rnG call 219 F 31 [some (vR 0), some (vI x1), some (vI x2)] [vI x2, vR 1, vR 0, vI x2, vR 1] (LR z f) := rfl
set_option maxRecDepth 100000 in
theorem bc21_219_9 (call : QC FA) (x : Int32) (s1 : Int32) (ls : List (Option PV)) (z : Nat → Int32) (f : Nat → FA) (F : Nat) : rnG call 219 (F + 1) 31 ls [vI x, vR 1, vR 0, vI s1, vR 1] (LR z f) = bif (Nat.beq 0 0 && pin x 499) then rnG call 219 F 32 ls [vI (f 1 (ix x)), vR 0, vI s1, vR 1] (LR z f) else none := rfl
set_option maxRecDepth 100000 in
theorem bc21_219_10 (call : QC FA) (a0 : Int32) (s0 : Int32) (ls : List (Option PV)) (z : Nat → Int32) (f : Nat → FA) (F : Nat) : rnG call 219 (F + 1) 32 ls [vI a0, vR 0, vI s0, vR 1] (LR z f) = cbd (call 229 [vR 0, vI a0] (LR z f)) (fun r L' => rnG call 219 F 33 ls (r.toList ++ [vI s0, vR 1]) L') := pcY (ih := rnG call 219 F) (call := call) (a := 229) (b := 1) (v := 12) (t := 33) (x := 0) (ls := ls) (As := [vI a0]) (st' := [vI s0, vR 1]) (L := LR z f) rfl rfl rfl
set_option maxRecDepth 100000 in
theorem bc21_219_11 (call : QC FA) (x y : Int32) (ls : List (Option PV)) (z : Nat → Int32) (f : Nat → FA) (F : Nat) : rnG call 219 (F + 1) 33 ls [vI y, vI x, vR 1] (LR z f) = bif (Nat.beq 0 0 && pin x 499) then rnG call 219 F 34 ls [] (LR z (uA f 1 (upd (f 1) (ix x) y))) else none := rfl
set_option maxRecDepth 100000 in
theorem bc21_219_12 (call : QC FA) (x1 : Int32) (x2 : Int32) (L : QH FA) (F : Nat) : rnG call 219 (F + 1) 34 [some (vR 0), some (vI x1), some (vI x2)] [] L = rnG call 219 F 35 [some (vR 0), some (vI x1), some (vI (x2 + 1))] [] L := rfl
set_option maxRecDepth 100000 in
theorem bc21_219_13 (call : QC FA) (x1 : Int32) (x2 : Int32) (L : QH FA) (F : Nat) : rnG call 219 (F + 1) 35 [some (vR 0), some (vI x1), some (vI x2)] [] L = rnG call 219 F 21 [some (vR 0), some (vI x1), some (vI x2)] [] L := rfl
theorem vcc21_219_21 (d : Nat) (x1 : Int32) (x2 : Int32) (z : Nat → Int32) (f : Nat → FA) (res : Option PV × QH FA) (H : ((499 ≤ I x2 → (∃ (z1 : Nat → Int32) (f1 : Nat → FA), (mcall (d + 2)) 232 [vR 0] (LR z f) = some (none, LR z1 f1) ∧ (∃ (z2 : Nat → Int32) (f2 : Nat → FA), (mcall (d + 2)) 233 [vR 0] (LR z1 f1) = some (none, LR z2 f2) ∧ RC (mcall (d + 2)) (mP 219) 42 [some (vR 0), some (vI x1), some (vI 0)] [] (LR z2 f2) res))) ∧ (I x2 < 499 → (pin x2 499 = true ∧ (∃ (r3 : Int32) (z3 : Nat → Int32) (f3 : Nat → FA), (mcall (d + 2)) 229 [vR 0, vI (f 1 (ix x2))] (LR z f) = some (some (vI r3), LR z3 f3) ∧ (pin x2 499 = true ∧ RC (mcall (d + 2)) (mP 219) 21 [some (vR 0), some (vI x1), some (vI (x2 + 1))] [] (LR z3 (uA f3 1 (upd (f3 1) (ix x2) r3))) res)))))) : RC (mcall (d + 2)) (mP 219) 21 [some (vR 0), some (vI x1), some (vI x2)] [] (LR z f) res := by
  refine rc_b (i' := 23) (ls' := [some (vR 0), some (vI x1), some (vI x2)]) (st' := [vI 499, vI x2]) (L' := LR z f) 2 (bc21_219_1 (mcall (d + 2)) x1 x2 _) ?_
  refine rc_if (it := 36) (ie := 24) (ls' := [some (vR 0), some (vI x1), some (vI x2)]) (st' := []) (bc21_219_2 (mcall (d + 2)) x2 499 _ _) (fun q1 => ?_) (fun q1 => ?_)
  · have H := H.1 (cI3t q1 rfl rfl)
    refine rc_b (i' := 37) (ls' := [some (vR 0), some (vI x1), some (vI x2)]) (st' := [vR 0]) (L' := LR z f) 1 (bc21_219_3 (mcall (d + 2)) x1 x2 _) ?_
    obtain ⟨z1, f1, hc, H⟩ := H
    refine rc_call (t := 38) (ls' := [some (vR 0), some (vI x1), some (vI x2)]) (st' := []) (bc21_219_4 (mcall (d + 2)) _ z f) hc ?_
    show RC (mcall (d + 2)) (mP 219) 38 [some (vR 0), some (vI x1), some (vI x2)] [] (LR z1 f1) res
    refine rc_b (i' := 39) (ls' := [some (vR 0), some (vI x1), some (vI x2)]) (st' := [vR 0]) (L' := LR z1 f1) 1 (bc21_219_5 (mcall (d + 2)) x1 x2 _) ?_
    obtain ⟨z2, f2, hc, H⟩ := H
    refine rc_call (t := 40) (ls' := [some (vR 0), some (vI x1), some (vI x2)]) (st' := []) (bc21_219_6 (mcall (d + 2)) _ z1 f1) hc ?_
    show RC (mcall (d + 2)) (mP 219) 40 [some (vR 0), some (vI x1), some (vI x2)] [] (LR z2 f2) res
    refine rc_b (i' := 42) (ls' := [some (vR 0), some (vI x1), some (vI 0)]) (st' := []) (L' := LR z2 f2) 2 (bc21_219_7 (mcall (d + 2)) x1 x2 _) ?_
    exact H
  · have H := H.2 (cI3f q1 rfl rfl)
    refine rc_b (i' := 31) (ls' := [some (vR 0), some (vI x1), some (vI x2)]) (st' := [vI x2, vR 1, vR 0, vI x2, vR 1]) (L' := LR z f) 7 (bc21_219_8 (mcall (d + 2)) x1 x2 z f) ?_
    obtain ⟨g1, H⟩ := H
    refine rc_g (i' := 32) (ls' := [some (vR 0), some (vI x1), some (vI x2)]) (st' := [vI (f 1 (ix x2)), vR 0, vI x2, vR 1]) (L' := LR z f) (bc21_219_9 (mcall (d + 2)) x2 x2 _ z f) (pinG g1) ?_
    obtain ⟨r3, z3, f3, hc, H⟩ := H
    refine rc_call (t := 33) (ls' := [some (vR 0), some (vI x1), some (vI x2)]) (st' := [vI x2, vR 1]) (bc21_219_10 (mcall (d + 2)) (f 1 (ix x2)) x2 _ z f) hc ?_
    show RC (mcall (d + 2)) (mP 219) 33 [some (vR 0), some (vI x1), some (vI x2)] [vI r3, vI x2, vR 1] (LR z3 f3) res
    obtain ⟨g1, H⟩ := H
    refine rc_g (i' := 34) (ls' := [some (vR 0), some (vI x1), some (vI x2)]) (st' := []) (L' := LR z3 (uA f3 1 (upd (f3 1) (ix x2) r3))) (bc21_219_11 (mcall (d + 2)) x2 r3 _ z3 f3) (pinG g1) ?_
    refine rc_b (i' := 35) (ls' := [some (vR 0), some (vI x1), some (vI (x2 + 1))]) (st' := []) (L' := LR z3 (uA f3 1 (upd (f3 1) (ix x2) r3))) 1 (bc21_219_12 (mcall (d + 2)) x1 x2 _) ?_
    refine rc_b (i' := 21) (ls' := [some (vR 0), some (vI x1), some (vI (x2 + 1))]) (st' := []) (L' := LR z3 (uA f3 1 (upd (f3 1) (ix x2) r3))) 1 (bc21_219_13 (mcall (d + 2)) x1 (x2 + 1) _) ?_
    exact H
set_option maxRecDepth 100000 in
theorem bc42_219_1 (call : QC FA) (x1 : Int32) (x2 : Int32) (L : QH FA) (F : Nat) : rnG call 219 (F + 2) 42 [some (vR 0), some (vI x1), some (vI x2)] [] L = rnG call 219 F 44 [some (vR 0), some (vI x1), some (vI x2)] [vI 750, vI x2] L := rfl
set_option maxRecDepth 100000 in
theorem bc42_219_2 (call : QC FA) (x y : Int32) (ls : List (Option PV)) (L : QH FA) (F : Nat) : rnG call 219 (F + 1) 44 ls [vI y, vI x] L = bif pcmp 3 x y then rnG call 219 F 57 ls [] L else rnG call 219 F 45 ls [] L := rfl
set_option maxRecDepth 100000 in
theorem bc42_219_3 (call : QC FA) (x1 : Int32) (x2 : Int32) (L : QH FA) (F : Nat) : rnG call 219 (F + 1) 57 [some (vR 0), some (vI x1), some (vI x2)] [] L = rnG call 219 F 58 [some (vR 0), some (vI x1), some (vI x2)] [vR 0] L := rfl
set_option maxRecDepth 100000 in
theorem bc42_219_4 (call : QC FA) (ls : List (Option PV)) (z : Nat → Int32) (f : Nat → FA) (F : Nat) : rnG call 219 (F + 1) 58 ls [vR 0] (LR z f) = cbd (call 231 [vR 0] (LR z f)) (fun r L' => rnG call 219 F 59 ls (r.toList ++ []) L') := pcY (ih := rnG call 219 F) (call := call) (a := 231) (b := 0) (v := 12) (t := 59) (x := 0) (ls := ls) (As := []) (st' := []) (L := LR z f) rfl rfl rfl
set_option maxRecDepth 100000 in
theorem bc42_219_5 (call : QC FA) (x1 : Int32) (x2 : Int32) (L : QH FA) (F : Nat) : rnG call 219 (F + 1) 59 [some (vR 0), some (vI x1), some (vI x2)] [] L = rnG call 219 F 60 [some (vR 0), some (vI x1), some (vI x2)] [vI x1] L := rfl
set_option maxRecDepth 100000 in
theorem bc42_219_6 (call : QC FA) (x : Int32) (ls : List (Option PV)) (L : QH FA) (F : Nat) : rnG call 219 (F + 1) 60 ls [vI x] L = bif pcmp 1 x 0 then rnG call 219 F 64 ls [] L else rnG call 219 F 61 ls [] L := rfl
set_option maxRecDepth 100000 in
theorem bc42_219_7 (call : QC FA) (x1 : Int32) (x2 : Int32) (L : QH FA) (F : Nat) : rnG call 219 (F + 1) 64 [some (vR 0), some (vI x1), some (vI x2)] [] L = rnG call 219 F 65 [some (vR 0), some (vI x1), some (vI x2)] [vI 1] L := rfl
set_option maxRecDepth 100000 in
theorem bc42_219_8 (call : QC FA) (ls : List (Option PV)) (L : QH FA) (F : Nat) : rnG call 219 (F + 1) 65 ls [vI 1] L = some (some (vI 1), L) := rfl
set_option maxRecDepth 100000 in
theorem bc42_219_9 (call : QC FA) (x1 : Int32) (x2 : Int32) (L : QH FA) (F : Nat) : rnG call 219 (F + 2) 61 [some (vR 0), some (vI x1), some (vI x2)] [] L = rnG call 219 F 63 [some (vR 0), some (vI x1), some (vI x2)] [vI 0, vR 0] L := rfl
set_option maxRecDepth 100000 in
theorem bc42_219_10 (call : QC FA) (y : Int32) (ls : List (Option PV)) (z : Nat → Int32) (f : Nat → FA) (F : Nat) : rnG call 219 (F + 1) 63 ls [vI y, vR 0] (LR z f) = rnG call 219 F 64 ls [] (LR (uZ z 3 y) f) := rfl
set_option maxRecDepth 100000 in
theorem bc42_219_11 (call : QC FA) (x1 : Int32) (x2 : Int32) (z : Nat → Int32) (f : Nat → FA) (F : Nat) : rnG call 219 (F + 7) 45 [some (vR 0), some (vI x1), some (vI x2)] [] (LR z f) = rnG call 219 F 52 [some (vR 0), some (vI x1), some (vI x2)] [vI x2, vR 7, vR 0, vI x2, vR 7] (LR z f) := rfl
set_option maxRecDepth 100000 in
theorem bc42_219_12 (call : QC FA) (x : Int32) (s1 : Int32) (ls : List (Option PV)) (z : Nat → Int32) (f : Nat → FA) (F : Nat) : rnG call 219 (F + 1) 52 ls [vI x, vR 7, vR 0, vI s1, vR 7] (LR z f) = bif (Nat.beq 0 0 && pin x 750) then rnG call 219 F 53 ls [vI (f 7 (ix x)), vR 0, vI s1, vR 7] (LR z f) else none := rfl
set_option maxRecDepth 100000 in
theorem bc42_219_13 (call : QC FA) (a0 : Int32) (s0 : Int32) (ls : List (Option PV)) (z : Nat → Int32) (f : Nat → FA) (F : Nat) : rnG call 219 (F + 1) 53 ls [vI a0, vR 0, vI s0, vR 7] (LR z f) = cbd (call 229 [vR 0, vI a0] (LR z f)) (fun r L' => rnG call 219 F 54 ls (r.toList ++ [vI s0, vR 7]) L') := pcY (ih := rnG call 219 F) (call := call) (a := 229) (b := 1) (v := 12) (t := 54) (x := 0) (ls := ls) (As := [vI a0]) (st' := [vI s0, vR 7]) (L := LR z f) rfl rfl rfl
set_option maxRecDepth 100000 in
theorem bc42_219_14 (call : QC FA) (x y : Int32) (ls : List (Option PV)) (z : Nat → Int32) (f : Nat → FA) (F : Nat) : rnG call 219 (F + 1) 54 ls [vI y, vI x, vR 7] (LR z f) = bif (Nat.beq 0 0 && pin x 750) then rnG call 219 F 55 ls [] (LR z (uA f 7 (upd (f 7) (ix x) y))) else none := rfl
set_option maxRecDepth 100000 in
theorem bc42_219_15 (call : QC FA) (x1 : Int32) (x2 : Int32) (L : QH FA) (F : Nat) : rnG call 219 (F + 1) 55 [some (vR 0), some (vI x1), some (vI x2)] [] L = rnG call 219 F 56 [some (vR 0), some (vI x1), some (vI (x2 + 1))] [] L := rfl
set_option maxRecDepth 100000 in
theorem bc42_219_16 (call : QC FA) (x1 : Int32) (x2 : Int32) (L : QH FA) (F : Nat) : rnG call 219 (F + 1) 56 [some (vR 0), some (vI x1), some (vI x2)] [] L = rnG call 219 F 42 [some (vR 0), some (vI x1), some (vI x2)] [] L := rfl
theorem vcc42_219_42 (d : Nat) (x1 : Int32) (x2 : Int32) (z : Nat → Int32) (f : Nat → FA) (res : Option PV × QH FA) (H : ((750 ≤ I x2 → (∃ (z1 : Nat → Int32) (f1 : Nat → FA), (mcall (d + 2)) 231 [vR 0] (LR z f) = some (none, LR z1 f1) ∧ ((¬ x1 = 0 → res = (some (vI 1), LR z1 f1)) ∧ (x1 = 0 → res = (some (vI 1), LR (uZ z1 3 0) f1))))) ∧ (I x2 < 750 → (pin x2 750 = true ∧ (∃ (r2 : Int32) (z2 : Nat → Int32) (f2 : Nat → FA), (mcall (d + 2)) 229 [vR 0, vI (f 7 (ix x2))] (LR z f) = some (some (vI r2), LR z2 f2) ∧ (pin x2 750 = true ∧ RC (mcall (d + 2)) (mP 219) 42 [some (vR 0), some (vI x1), some (vI (x2 + 1))] [] (LR z2 (uA f2 7 (upd (f2 7) (ix x2) r2))) res)))))) : RC (mcall (d + 2)) (mP 219) 42 [some (vR 0), some (vI x1), some (vI x2)] [] (LR z f) res := by
  refine rc_b (i' := 44) (ls' := [some (vR 0), some (vI x1), some (vI x2)]) (st' := [vI 750, vI x2]) (L' := LR z f) 2 (bc42_219_1 (mcall (d + 2)) x1 x2 _) ?_
  refine rc_if (it := 57) (ie := 45) (ls' := [some (vR 0), some (vI x1), some (vI x2)]) (st' := []) (bc42_219_2 (mcall (d + 2)) x2 750 _ _) (fun q1 => ?_) (fun q1 => ?_)
  · have H := H.1 (cI3t q1 rfl rfl)
    refine rc_b (i' := 58) (ls' := [some (vR 0), some (vI x1), some (vI x2)]) (st' := [vR 0]) (L' := LR z f) 1 (bc42_219_3 (mcall (d + 2)) x1 x2 _) ?_
    obtain ⟨z1, f1, hc, H⟩ := H
    refine rc_call (t := 59) (ls' := [some (vR 0), some (vI x1), some (vI x2)]) (st' := []) (bc42_219_4 (mcall (d + 2)) _ z f) hc ?_
    show RC (mcall (d + 2)) (mP 219) 59 [some (vR 0), some (vI x1), some (vI x2)] [] (LR z1 f1) res
    refine rc_b (i' := 60) (ls' := [some (vR 0), some (vI x1), some (vI x2)]) (st' := [vI x1]) (L' := LR z1 f1) 1 (bc42_219_5 (mcall (d + 2)) x1 x2 _) ?_
    refine rc_if (it := 64) (ie := 61) (ls' := [some (vR 0), some (vI x1), some (vI x2)]) (st' := []) (bc42_219_6 (mcall (d + 2)) x1 _ _) (fun q2 => ?_) (fun q2 => ?_)
    · have H := H.1 (cI1t q2)
      refine rc_b (i' := 65) (ls' := [some (vR 0), some (vI x1), some (vI x2)]) (st' := [vI 1]) (L' := LR z1 f1) 1 (bc42_219_7 (mcall (d + 2)) x1 x2 _) ?_
      subst H
      exact rc_ret (bc42_219_8 (mcall (d + 2)) _ _)
    · have H := H.2 (cI1f q2)
      refine rc_b (i' := 63) (ls' := [some (vR 0), some (vI x1), some (vI x2)]) (st' := [vI 0, vR 0]) (L' := LR z1 f1) 2 (bc42_219_9 (mcall (d + 2)) x1 x2 _) ?_
      refine rc_b (i' := 64) (ls' := [some (vR 0), some (vI x1), some (vI x2)]) (st' := []) (L' := LR (uZ z1 3 0) f1) 1 (bc42_219_10 (mcall (d + 2)) 0 _ z1 f1) ?_
      refine rc_b (i' := 65) (ls' := [some (vR 0), some (vI x1), some (vI x2)]) (st' := [vI 1]) (L' := LR (uZ z1 3 0) f1) 1 (bc42_219_7 (mcall (d + 2)) x1 x2 _) ?_
      subst H
      exact rc_ret (bc42_219_8 (mcall (d + 2)) _ _)
  · have H := H.2 (cI3f q1 rfl rfl)
    refine rc_b (i' := 52) (ls' := [some (vR 0), some (vI x1), some (vI x2)]) (st' := [vI x2, vR 7, vR 0, vI x2, vR 7]) (L' := LR z f) 7 (bc42_219_11 (mcall (d + 2)) x1 x2 z f) ?_
    obtain ⟨g1, H⟩ := H
    refine rc_g (i' := 53) (ls' := [some (vR 0), some (vI x1), some (vI x2)]) (st' := [vI (f 7 (ix x2)), vR 0, vI x2, vR 7]) (L' := LR z f) (bc42_219_12 (mcall (d + 2)) x2 x2 _ z f) (pinG g1) ?_
    obtain ⟨r2, z2, f2, hc, H⟩ := H
    refine rc_call (t := 54) (ls' := [some (vR 0), some (vI x1), some (vI x2)]) (st' := [vI x2, vR 7]) (bc42_219_13 (mcall (d + 2)) (f 7 (ix x2)) x2 _ z f) hc ?_
    show RC (mcall (d + 2)) (mP 219) 54 [some (vR 0), some (vI x1), some (vI x2)] [vI r2, vI x2, vR 7] (LR z2 f2) res
    obtain ⟨g1, H⟩ := H
    refine rc_g (i' := 55) (ls' := [some (vR 0), some (vI x1), some (vI x2)]) (st' := []) (L' := LR z2 (uA f2 7 (upd (f2 7) (ix x2) r2))) (bc42_219_14 (mcall (d + 2)) x2 r2 _ z2 f2) (pinG g1) ?_
    refine rc_b (i' := 56) (ls' := [some (vR 0), some (vI x1), some (vI (x2 + 1))]) (st' := []) (L' := LR z2 (uA f2 7 (upd (f2 7) (ix x2) r2))) 1 (bc42_219_15 (mcall (d + 2)) x1 x2 _) ?_
    refine rc_b (i' := 42) (ls' := [some (vR 0), some (vI x1), some (vI (x2 + 1))]) (st' := []) (L' := LR z2 (uA f2 7 (upd (f2 7) (ix x2) r2))) 1 (bc42_219_16 (mcall (d + 2)) x1 (x2 + 1) _) ?_
    exact H
theorem im_21 (d0 : Nat) {tk : Bool} {z0 : Nat → Int32} {f0 : Nat → FA} (x1 : Int32) : ∀ t x, x + t = 499 → ∀ z f, INV tk (0 + 1 * x) z0 f0 z f → ∃ z2 f2, INV tk 499 z0 f0 z2 f2 ∧ ∀ res, (∃ z1 f1, mcall (d0 + 2) 232 [vR 0] (LR z2 f2) = some (none, LR z1 f1) ∧ ∃ z2 f2, mcall (d0 + 2) 233 [vR 0] (LR z1 f1) = some (none, LR z2 f2) ∧ RC (mcall (d0 + 2)) (mP 219) 42 [some (vR 0), some (vI x1), some (vI 0)] [] (LR z2 f2) res) → RC (mcall (d0 + 2)) (mP 219) 21 [some (vR 0), some (vI x1), some (vI (nI x))] [] (LR z f) res := by
  intro t
  induction t with
  | zero =>
    intro x hx z f h
    obtain rfl : x = 499 := by omega
    refine ⟨z, f, h, fun res hr => vcc21_219_21 _ _ _ _ _ _ ?_⟩
    rw [I_nI (by omega)]
    exact ⟨fun _ => hr, fun q => by omega⟩
  | succ t ih =>
    intro x hx z f h0
    obtain ⟨v1, z1, f1, c1, h1⟩ := kp_row (d0 + 1) (P := 0 + 1 * x + 0) (P' := 0 + 1 * x + 1) h0 (by omega) rfl (ly_1 x (by omega)) (by decide)
    obtain ⟨zz, ff, gg1, gg2⟩ := ih (x + 1) (by omega) _ _ (by rw [show 0 + 1 * (x + 1) = 0 + 1 * x + 1 by omega]; exact h1)
    refine ⟨zz, ff, gg1, fun res hr => vcc21_219_21 _ _ _ _ _ _ ?_⟩
    rw [I_nI (by omega), ix_nI (by omega), show nI x + 1 = nI (x + 1) from nI_add x 1]
    exact ⟨fun q => by omega, fun _ => ⟨pin_nI (by omega) (by omega), v1, z1, f1, c1, pin_nI (by omega) (by omega), gg2 res hr⟩⟩
theorem im_42 (d0 : Nat) {tk : Bool} {z0 : Nat → Int32} {f0 : Nat → FA} (x1 : Int32) : ∀ t x, x + t = 750 → ∀ z f, INV tk (824 + 1 * x) z0 f0 z f → ∃ z2 f2, INV tk 1574 z0 f0 z2 f2 ∧ ∀ res, (∃ z1 f1, mcall (d0 + 2) 231 [vR 0] (LR z2 f2) = some (none, LR z1 f1) ∧ ((¬ x1 = 0 → res = (some (vI 1), LR z1 f1)) ∧ (x1 = 0 → res = (some (vI 1), LR (uZ z1 3 0) f1)))) → RC (mcall (d0 + 2)) (mP 219) 42 [some (vR 0), some (vI x1), some (vI (nI x))] [] (LR z f) res := by
  intro t
  induction t with
  | zero =>
    intro x hx z f h
    obtain rfl : x = 750 := by omega
    refine ⟨z, f, h, fun res hr => vcc42_219_42 _ _ _ _ _ _ ?_⟩
    rw [I_nI (by omega)]
    exact ⟨fun _ => hr, fun q => by omega⟩
  | succ t ih =>
    intro x hx z f h0
    obtain ⟨v1, z1, f1, c1, h1⟩ := kp_row (d0 + 1) (P := 824 + 1 * x + 0) (P' := 824 + 1 * x + 1) h0 (by omega) rfl (ly_7 x (by omega)) (by decide)
    obtain ⟨zz, ff, gg1, gg2⟩ := ih (x + 1) (by omega) _ _ (by rw [show 824 + 1 * (x + 1) = 824 + 1 * x + 1 by omega]; exact h1)
    refine ⟨zz, ff, gg1, fun res hr => vcc42_219_42 _ _ _ _ _ _ ?_⟩
    rw [I_nI (by omega), ix_nI (by omega), show nI x + 1 = nI (x + 1) from nI_add x 1]
    exact ⟨fun q => by omega, fun _ => ⟨pin_nI (by omega) (by omega), v1, z1, f1, c1, pin_nI (by omega) (by omega), gg2 res hr⟩⟩
theorem image_r (d0 : Nat) {tk : Bool} {x1 : Int32} {z : Nat → Int32} {f : Nat → FA} (hx : x1 = bif tk then 1 else 0) (h73 : ¬ tk = true → ¬ z 73 = 0) : ∃ z' f', mcall (d0 + 3) 219 [vR 0, vI x1] (LR z f) = some (some (vI 1), LR (bif tk then z' else uZ z' 3 0) f') ∧ INV tk 2439 (uZ (uZ (uZ (uZ z 0 0) 72 x1) 73 1) 74 0) f z' f' := by
  have h0 : INV tk (0 + 1 * 0) (uZ (uZ (uZ (uZ z 0 0) 72 x1) 73 1) 74 0) f (uZ (uZ (uZ (uZ z 0 0) 72 x1) 73 1) 74 0) f := by
    refine ⟨uZ_s, ?_, fun _ => ⟨fun _ _ => rfl, fun _ _ => rfl, fun p => (if_neg (by omega)).symm⟩, fun _ => ⟨rfl, fun p hp => by omega, fun _ _ _ _ => rfl⟩⟩
    rw [uZ_n (by decide), uZ_n (by decide), uZ_s]
    exact hx
  obtain ⟨z1, f1, h1, g1⟩ := im_21 d0 x1 499 0 (by omega) _ _ h0
  obtain ⟨z2, f2, c2, h2⟩ := keepsMany_r d0 h1
  obtain ⟨z3, f3, c3, h3⟩ := keepsTold_r d0 h2
  obtain ⟨z4, f4, h4, g4⟩ := im_42 d0 x1 750 0 (by omega) _ _ h3
  obtain ⟨z5, f5, c5, h5⟩ := keepsLaw_r d0 h4
  have b1 : x1 = 0 ∨ x1 = 1 := by
    cases tk with
    | true => exact Or.inr hx
    | false => exact Or.inl hx
  have fin : RC (mcall (d0 + 2)) (mP 219) 21 [some (vR 0), some (vI x1), some (vI (nI 0))] [] (LR (uZ (uZ (uZ (uZ z 0 0) 72 x1) 73 1) 74 0) f) (some (vI 1), LR (bif tk then z5 else uZ z5 3 0) f5) := by
    refine g1 _ ⟨z2, f2, c2, z3, f3, c3, g4 _ ⟨z5, f5, c5, fun q => ?_, fun q => ?_⟩⟩
    · cases tk with
      | true => rfl
      | false => exact absurd hx q
    · cases tk with
      | true => rw [q] at hx; exact absurd hx (by decide)
      | false => rfl
  refine ⟨z5, f5, mcall_i (mq219 (cu := [])).2.2 rfl (vc219_0 _ _ _ _ _ _ ⟨fun _ => ⟨b1, Or.inr rfl, fin⟩, fun q => ⟨fun _ => ⟨b1, Or.inr rfl, fin⟩, fun q2 => ?_⟩⟩), h5⟩
  exact absurd q2 (h73 (fun e => by rw [e] at hx; rw [hx] at q; exact absurd q (by decide)))
