/-! the interpreter with null tests, stores of references and copies of rows -/
noncomputable def p_ifn (ih : QK FA) (a t : Nat) (ls : List (Option PV)) (st : List PV) (L : QH FA) : QT FA := match st with
  | .inr (.inl none) :: st' => ih a ls st' L
  | .inr (.inl (some _)) :: st' => ih t ls st' L
  | _ => none
noncomputable def p_aast (ih : QK FA) (t : Nat) (ls : List (Option PV)) (st : List PV) (L : QH FA) : QT FA := match st with
  | .inr (.inl (some y)) :: .inl i :: .inr (.inl (some x)) :: st' => match nth L x with
    | some (.inl (.inr (q, N, f))) => match nth L y with
      | some (.inr (ci, _)) => bif (((Nat.beq q 1 && Nat.beq ci 0) || ((Nat.beq q 2 && Nat.beq ci 8) || (Nat.beq q 3 && Nat.beq ci 9))) && pin i N) then ih t ls st' (stl L (.inl (.inr (q, N, va_up f (ix i) (some y)))) x) else none
      | _ => none
    | _ => none
  | _ => none
noncomputable def p_acp (ih : QK FA) (t : Nat) (ls : List (Option PV)) (st : List PV) (L : QH FA) : QT FA := match st with
  | .inl k :: .inl dp :: .inr (.inl (some y)) :: .inl sp :: .inr (.inl (some x)) :: st' => match nth L x with
    | some (.inl (.inl (q0, n0, f))) => match nth L y with
      | some (.inl (.inl (q1, n1, g))) => bif (Nat.beq q0 0 && (Nat.beq q1 0 && (pcmp 3 sp 0 && (pcmp 3 dp 0 && (pcmp 3 k 0 && (Nat.ble (ix sp + ix k) n0 && (Nat.ble (ix dp + ix k) n1 && Nat.ble st'.length 8))))))) then ih t ls st' (stl L (.inl (.inl (q1, n1, (va_cpy f g (ix sp) (ix dp) (ix k) : FA)))) y) else none
      | _ => none
    | _ => none
  | _ => none
noncomputable def cloX (call : QC FA) (op a b : Nat) (v : Int32) (tg : List Nat) (t : Nat) : QF FA := match op with
  | 32 => fun ih ls st L => ih t ls (vN :: st) L
  | 33 => fun ih ls st L => p_ifn ih a t ls st L
  | 34 => fun ih ls st L => p_ifn ih t a ls st L
  | 36 => fun ih ls st L => p_aast ih t ls st L
  | 37 => fun ih ls st L => p_acp ih t ls st L
  | op => clo rdF wrF fzF call op a b v tg t
noncomputable def mkX (call : QC FA) (c : List PO) (i : Nat) : List (QF FA) := match c with
  | [] => []
  | (_, op, a, b, v, tg) :: t => cloX call op a b v tg (i + 1) :: mkX call t (i + 1)
theorem mkX_nth {call : QC FA} : ∀ (c : List PO) (i k : Nat) (f : QF FA), nth (mkX call c i) k = some f → ∃ pc op a b v tg, nth c k = some (pc, op, a, b, v, tg) ∧ f = cloX call op a b v tg (i + k + 1) := by
  intro c
  induction c with
  | nil => intro i k f h; cases h
  | cons e t ih =>
    intro i k f h
    obtain ⟨pc, op, a, b, v, tg⟩ := e
    cases k with
    | zero =>
      cases h
      exact ⟨pc, op, a, b, v, tg, rfl, rfl⟩
    | succ k =>
      obtain ⟨pc', op', a', b', v', tg', h1, h2⟩ := ih (i + 1) k f h
      exact ⟨pc', op', a', b', v', tg', h1, by rw [h2, show i + 1 + k + 1 = i + (k + 1) + 1 by omega]⟩
theorem ge0_ix {x : Int32} (h : pcmp 3 x 0 = true) : ¬ x < 0 ∧ x.toNatClampNeg = ix x := by
  have h : Nat.ble (ky 0) (ky x) = true := h
  rw [Nat.ble_eq] at h
  have e0 : ky 0 = 2147483648 := by decide
  have e1 : ky x = (ix x + 2147483648) % 4294967296 := rfl
  have hb : ix x < 4294967296 := x.toBitVec.isLt
  refine ⟨fun q => ?_, ix_clamp (by omega)⟩
  rw [ky_lt] at q
  omega
section PSoundX
variable {l : Launch} {G : PG} {d : Nat} {own : String} {cc : ByteArray} {nL : Nat} {ret : Option FieldType} {code : List PO} {H : PH} {lb : Nat → Nat} {N0 : Nat} {call : QC FA}
variable {p : Program} {e : Env} {s : State} {m : MethodId} {args : Array Value} {below : List Frame} {meth : Method} {c : Code} {Φ : Option PV → PH → Prop}
theorem pdX_ok (hi : LbI lb N0) (hc : hCall rdF l G d H lb N0 call) (X : pX p s m args c G nL cc own) (hr : meth.sig.returnType = ret) (hlk : meth.locks = false) {r : Option PV} {L' : QH FA} (hΦ : ∀ h', Rep rdF H lb N0 L' h' → Φ (r.map (sv lb)) h') (ih : QK FA) (IH : ∀ i ls st L, ih i ls st L = some (r, L') → GL rdF l G d nL H lb N0 p e s m args below meth c Φ code i ls st L) {pc op a b i0 t : Nat} {v : Int32} {tg : List Nat} {ls : List (Option PV)} {st : List PV} {L : QH FA} (h0 : hpc (drp i0 code) = pc) (hE : eOK own cc nL ret code (pc, op, a, b, v, tg) (hpc (drp t code))) (hs : cloX call op a b v tg t ih ls st L = some (r, L')) : GL rdF l G d nL H lb N0 p e s m args below meth c Φ code i0 ls st L := by
  revert hs
  revert hE
  match op with
  | 32 =>
    intro hE hs
    exact g1 (t0 := i0) X ih IH hs (fun h hR => by rw [h0]; exact hE l G d _ _ _)
  | 33 =>
    intro hE hs
    change p_ifn ih a t ls st L = _ at hs
    unfold p_ifn at hs
    split at hs
    · exact g1 (t0 := i0) X ih IH hs (fun h hR => by rw [h0]; exact (hE l G d _ _ _).1)
    · rename_i x st'
      exact g1 (t0 := i0) X ih IH hs (fun h hR => by rw [h0]; exact (hE l G d _ _ _).2 (lb x))
    · cases hs
  | 34 =>
    intro hE hs
    change p_ifn ih t a ls st L = _ at hs
    unfold p_ifn at hs
    split at hs
    · exact g1 (t0 := i0) X ih IH hs (fun h hR => by rw [h0]; exact (hE l G d _ _ _).1)
    · rename_i x st'
      exact g1 (t0 := i0) X ih IH hs (fun h hR => by rw [h0]; exact (hE l G d _ _ _).2 (lb x))
    · cases hs
  | 36 =>
    intro hE hs
    change p_aast ih t ls st L = _ at hs
    unfold p_aast at hs
    split at hs
    · rename_i y i x st'
      split at hs
      · rename_i q N f hx
        split at hs
        · rename_i ci fs hy
          obtain ⟨e1, e2⟩ := bif_some hs
          rw [nth_eq] at hx hy
          rw [Bool.and_eq_true, Bool.or_eq_true, Bool.or_eq_true, Bool.and_eq_true, Bool.and_eq_true, Bool.and_eq_true, Nat.beq_eq, Nat.beq_eq, Nat.beq_eq, Nat.beq_eq, Nat.beq_eq, Nat.beq_eq] at e1
          refine g2 (t0 := i0) X hi ih IH e2 hx (fun h hR => ?_)
          rw [h0]
          have key := hE l G d h (sls lb ls) (st'.map (sv lb)) (lb x) q N (lb y) ci (fs.map (sv lb)) (fun j => (f j).map lb) i e1.1 (hR.2.1 _ _ hx) (hR.2.1 _ _ hy) (pin_ok e1.2)
          rw [pin_ix e1.2] at key
          rw [show se rdF lb (.inl (.inr (q, N, va_up f (ix i) (some y)))) = eR q N (va_up (fun j => (f j).map lb) (ix i) (some (lb y))) from by
            show eR q N (fun j => (va_up f (ix i) (some y) j).map lb) = _
            congr 1
            congr 1
            congr 1
            congr 1
            funext j
            unfold va_up
            by_cases c : j = ix i
            · rw [if_pos c, if_pos c]
              rfl
            · rw [if_neg c, if_neg c]]
          exact key
        · cases hs
      · cases hs
    · cases hs
  | 37 =>
    intro hE hs
    change p_acp ih t ls st L = _ at hs
    unfold p_acp at hs
    split at hs
    · rename_i k dp y sp x st'
      split at hs
      · rename_i q0 n0 f hx
        split at hs
        · rename_i q1 n1 g hy
          obtain ⟨e1, e2⟩ := bif_some hs
          rw [nth_eq] at hx hy
          simp only [Bool.and_eq_true, Nat.beq_eq, Nat.ble_eq] at e1
          obtain ⟨rfl, rfl, a1, a2, a3, a4, a5, a6⟩ := e1
          obtain ⟨b1, c1⟩ := ge0_ix a1
          obtain ⟨b2, c2⟩ := ge0_ix a2
          obtain ⟨b3, c3⟩ := ge0_ix a3
          refine g2 (t0 := i0) X hi ih IH e2 hy (fun h hR => ?_)
          rw [h0]
          have key := hE l G d h (sls lb ls) (st'.map (sv lb)) (lb x) (lb y) n0 n1 f g sp dp k (hR.2.1 _ _ hx) (hR.2.1 _ _ hy) b1 b2 b3 (by rw [c1, c3]; exact a4) (by rw [c2, c3]; exact a5) (by rw [List.length_map]; exact a6)
          rw [c1, c2, c3] at key
          exact key
        · cases hs
      · cases hs
    · cases hs

  | 0 => exact fun hE hs => pdo_ok wrF_ok fzF_ok hi hc X hr hlk hΦ ih IH h0 hE hs
  | 1 => exact fun hE hs => pdo_ok wrF_ok fzF_ok hi hc X hr hlk hΦ ih IH h0 hE hs
  | 2 => exact fun hE hs => pdo_ok wrF_ok fzF_ok hi hc X hr hlk hΦ ih IH h0 hE hs
  | 3 => exact fun hE hs => pdo_ok wrF_ok fzF_ok hi hc X hr hlk hΦ ih IH h0 hE hs
  | 4 => exact fun hE hs => pdo_ok wrF_ok fzF_ok hi hc X hr hlk hΦ ih IH h0 hE hs
  | 5 => exact fun hE hs => pdo_ok wrF_ok fzF_ok hi hc X hr hlk hΦ ih IH h0 hE hs
  | 6 => exact fun hE hs => pdo_ok wrF_ok fzF_ok hi hc X hr hlk hΦ ih IH h0 hE hs
  | 7 => exact fun hE hs => pdo_ok wrF_ok fzF_ok hi hc X hr hlk hΦ ih IH h0 hE hs
  | 8 => exact fun hE hs => pdo_ok wrF_ok fzF_ok hi hc X hr hlk hΦ ih IH h0 hE hs
  | 9 => exact fun hE hs => pdo_ok wrF_ok fzF_ok hi hc X hr hlk hΦ ih IH h0 hE hs
  | 10 => exact fun hE hs => pdo_ok wrF_ok fzF_ok hi hc X hr hlk hΦ ih IH h0 hE hs
  | 11 => exact fun hE hs => pdo_ok wrF_ok fzF_ok hi hc X hr hlk hΦ ih IH h0 hE hs
  | 12 => exact fun hE hs => pdo_ok wrF_ok fzF_ok hi hc X hr hlk hΦ ih IH h0 hE hs
  | 13 => exact fun hE hs => pdo_ok wrF_ok fzF_ok hi hc X hr hlk hΦ ih IH h0 hE hs
  | 14 => exact fun hE hs => pdo_ok wrF_ok fzF_ok hi hc X hr hlk hΦ ih IH h0 hE hs
  | 15 => exact fun hE hs => pdo_ok wrF_ok fzF_ok hi hc X hr hlk hΦ ih IH h0 hE hs
  | 16 => exact fun hE hs => pdo_ok wrF_ok fzF_ok hi hc X hr hlk hΦ ih IH h0 hE hs
  | 17 => exact fun hE hs => pdo_ok wrF_ok fzF_ok hi hc X hr hlk hΦ ih IH h0 hE hs
  | 18 => exact fun hE hs => pdo_ok wrF_ok fzF_ok hi hc X hr hlk hΦ ih IH h0 hE hs
  | 19 => exact fun hE hs => pdo_ok wrF_ok fzF_ok hi hc X hr hlk hΦ ih IH h0 hE hs
  | 20 => exact fun hE hs => pdo_ok wrF_ok fzF_ok hi hc X hr hlk hΦ ih IH h0 hE hs
  | 21 => exact fun hE hs => pdo_ok wrF_ok fzF_ok hi hc X hr hlk hΦ ih IH h0 hE hs
  | 22 => exact fun hE hs => pdo_ok wrF_ok fzF_ok hi hc X hr hlk hΦ ih IH h0 hE hs
  | 23 => exact fun hE hs => pdo_ok wrF_ok fzF_ok hi hc X hr hlk hΦ ih IH h0 hE hs
  | 24 => exact fun hE hs => pdo_ok wrF_ok fzF_ok hi hc X hr hlk hΦ ih IH h0 hE hs
  | 25 => exact fun hE hs => pdo_ok wrF_ok fzF_ok hi hc X hr hlk hΦ ih IH h0 hE hs
  | 26 => exact fun hE hs => pdo_ok wrF_ok fzF_ok hi hc X hr hlk hΦ ih IH h0 hE hs
  | 27 => exact fun hE hs => pdo_ok wrF_ok fzF_ok hi hc X hr hlk hΦ ih IH h0 hE hs
  | 28 => exact fun hE hs => pdo_ok wrF_ok fzF_ok hi hc X hr hlk hΦ ih IH h0 hE hs
  | 29 => exact fun hE hs => pdo_ok wrF_ok fzF_ok hi hc X hr hlk hΦ ih IH h0 hE hs
  | 30 => exact fun hE hs => pdo_ok wrF_ok fzF_ok hi hc X hr hlk hΦ ih IH h0 hE hs
  | 31 => exact fun hE hs => pdo_ok wrF_ok fzF_ok hi hc X hr hlk hΦ ih IH h0 hE hs
  | 35 => exact fun hE hs => pdo_ok wrF_ok fzF_ok hi hc X hr hlk hΦ ih IH h0 hE hs
  | _ + 38 =>
    intro hE hs
    cases hs
theorem runX_s {A : Type} (cd : List (QF A)) (F i : Nat) (ls : List (Option PV)) (st : List PV) (L : QH A) : run cd (F + 1) i ls st L = (match nth cd i with
  | some f => f (run cd F) ls st L
  | none => none) := rfl
theorem runX_ok (hi : LbI lb N0) (hc : hCall rdF l G d H lb N0 call) (hcode : OKs (eOK own cc nL ret code) code) (X : pX p s m args c G nL cc own) (hr : meth.sig.returnType = ret) (hlk : meth.locks = false) {r : Option PV} {L' : QH FA} (hΦ : ∀ h', Rep rdF H lb N0 L' h' → Φ (r.map (sv lb)) h') : ∀ (F i : Nat) (ls : List (Option PV)) (st : List PV) (L : QH FA), run (mkX call code 0) F i ls st L = some (r, L') → GL rdF l G d nL H lb N0 p e s m args below meth c Φ code i ls st L := by
  intro F
  induction F with
  | zero => intro i ls st L h; cases h
  | succ F ih =>
    intro i ls st L h
    have h' := h
    rw [runX_s] at h'
    cases hs : nth (mkX call code 0) i with
    | none => rw [hs] at h'; cases h'
    | some f =>
      rw [hs] at h'
      obtain ⟨pc, op, a, b, v, tg, h1, h2⟩ := mkX_nth code 0 i f hs
      subst h2
      rw [Nat.zero_add] at h'
      exact pdX_ok hi hc X hr hlk hΦ _ ih (hpc_drp h1) (OKs_nth i code _ hcode h1) h'
end PSoundX
theorem xx_met1 {l : Launch} {G : PG} {H h : PH} {lb : Nat → Nat} {N0 k d N : Nat} {As : List PV} {L L' : QH FA} {r : Option PV} {call : QC FA} (hg : mGd k) (hi : LbI lb N0) (hl : Nat.ble As.length (mN k) = true) (hcl : hCall rdF l G d H lb N0 call) (e2 : run (mkX call (mP k) 0) N 0 (As.map some ++ List.replicate (mN k - As.length) none) [] L = some (r, L')) (hR : Rep rdF H lb N0 L h) : PMet l G (mY k) (mC k) (mN k) (mR k) (d + 1) 0 0 (As.map (sv lb)) h (fun r1 h1 => r1 = r.map (sv lb) ∧ Rep rdF H lb N0 L' h1) := by
  obtain ⟨hy, hO, hz⟩ := hg
  refine PMet.intro hy (by rw [List.length_map]; exact Nat.le_of_ble_eq_true hl) ?_
  intro p e s m args below meth c X hr hlk hnm
  have key := runX_ok (l := l) (d := d) (e := e) (below := below) (Φ := fun r1 h1 => r1 = r.map (sv lb) ∧ Rep rdF H lb N0 L' h1) hi (call := call) hcl hO X hr hlk (fun h1 hR1 => ⟨rfl, hR1⟩) N 0 _ _ _ e2 h hR
  have key : PW p l e (rmD (d + 1) 0 0) s m args below meth c G (mN k) _ 0 0 h (hpc (mP k)) _ _ := key
  rw [hz] at key
  have e3 : sls lb (As.map some ++ List.replicate (mN k - As.length) none) = (As.map (sv lb)).map some ++ List.replicate (mN k - (As.map (sv lb)).length) none := by simp [sls, Function.comp_def]
  rw [e3] at key
  exact key
noncomputable abbrev xnG (call : QC FA) (k : Nat) (F : Nat) : QK FA := run (mkX call (mP k) 0) F
def XC (call : QC FA) (c : List PO) (i : Nat) (ls : List (Option PV)) (st : List PV) (L : QH FA) (res : Option PV × QH FA) : Prop := ∃ N, ∀ F, N ≤ F → run (mkX call c 0) F i ls st L = some res
theorem XC.uniq {call : QC FA} {c : List PO} {i : Nat} {ls : List (Option PV)} {st : List PV} {L : QH FA} {r1 r2 : Option PV × QH FA} (h1 : XC call c i ls st L r1) (h2 : XC call c i ls st L r2) : r1 = r2 := by
  obtain ⟨N1, h1⟩ := h1
  obtain ⟨N2, h2⟩ := h2
  have e1 := h1 (N1 + N2) (by omega)
  have e2 := h2 (N1 + N2) (by omega)
  rw [e1] at e2
  exact Option.some.inj e2
noncomputable def xcall : Nat → QC FA
  | 0 => fun _ _ _ => none
  | d + 1 => fun k As L => @dite _ ((mGd k ∧ Nat.ble As.length (mN k) = true) ∧ ∃ res, XC (xcall d) (mP k) 0 (lsA k As) [] L res) (Classical.propDecidable _) (fun h => some (Classical.choose h.2)) (fun _ => none)
theorem xcall_i {d k : Nat} {As : List PV} {L : QH FA} {res : Option PV × QH FA} (hg : mGd k) (hl : Nat.ble As.length (mN k) = true) (h : XC (xcall d) (mP k) 0 (lsA k As) [] L res) : xcall (d + 1) k As L = some res := by
  have hh : (mGd k ∧ Nat.ble As.length (mN k) = true) ∧ ∃ res, XC (xcall d) (mP k) 0 (lsA k As) [] L res := ⟨⟨hg, hl⟩, res, h⟩
  unfold xcall
  rw [dif_pos hh]
  exact congrArg some ((Classical.choose_spec hh.2).uniq h)
theorem xcall_ok {l : Launch} {G : PG} {H : PH} {lb : Nat → Nat} {N0 : Nat} (hi : LbI lb N0) : ∀ d, hCall rdF l G d H lb N0 (xcall d) := by
  intro d
  induction d with
  | zero => intro k As L r L' hc; cases hc
  | succ d ih =>
    intro k As L r L' hc h hR
    unfold xcall at hc
    split at hc
    · rename_i hh
      have e := Option.some.inj hc
      obtain ⟨N, hN⟩ := Classical.choose_spec hh.2
      rw [e] at hN
      exact xx_met1 (d := d) hh.1.1 hi hh.1.2 ih (hN N (Nat.le_refl _)) hR
    · cases hc
section XCs
variable {call : QC FA} {c : List PO} {i i' : Nat} {ls ls' : List (Option PV)} {st st' : List PV} {L L' : QH FA} {res : Option PV × QH FA}
theorem xc_b (n : Nat) (hs : ∀ F, run (mkX call c 0) (F + n) i ls st L = run (mkX call c 0) F i' ls' st' L') (h : XC call c i' ls' st' L' res) : XC call c i ls st L res := by
  obtain ⟨N, hN⟩ := h
  refine ⟨N + n, fun F hF => ?_⟩
  obtain ⟨F', rfl⟩ : ∃ F', F = F' + n := ⟨F - n, by omega⟩
  rw [hs]
  exact hN F' (by omega)
theorem xc_ret (hs : ∀ F, run (mkX call c 0) (F + 1) i ls st L = some res) : XC call c i ls st L res := by
  refine ⟨1, fun F hF => ?_⟩
  obtain ⟨F', rfl⟩ : ∃ F', F = F' + 1 := ⟨F - 1, by omega⟩
  exact hs F'
theorem xc_t {b it ie : Nat} {x y : Int32} (hs : ∀ F, run (mkX call c 0) (F + 1) i ls st L = bif pcmp b x y then run (mkX call c 0) F it ls' st' L else run (mkX call c 0) F ie ls' st' L) (hb : pcmp b x y = true) (h : XC call c it ls' st' L res) : XC call c i ls st L res := xc_b 1 (fun F => by rw [hs, hb]; rfl) h
theorem xc_f {b it ie : Nat} {x y : Int32} (hs : ∀ F, run (mkX call c 0) (F + 1) i ls st L = bif pcmp b x y then run (mkX call c 0) F it ls' st' L else run (mkX call c 0) F ie ls' st' L) (hb : pcmp b x y = false) (h : XC call c ie ls' st' L res) : XC call c i ls st L res := xc_b 1 (fun F => by rw [hs, hb]; rfl) h
theorem xc_if {b it ie : Nat} {x y : Int32} (hs : ∀ F, run (mkX call c 0) (F + 1) i ls st L = bif pcmp b x y then run (mkX call c 0) F it ls' st' L else run (mkX call c 0) F ie ls' st' L) (h1 : pcmp b x y = true → XC call c it ls' st' L res) (h2 : pcmp b x y = false → XC call c ie ls' st' L res) : XC call c i ls st L res := by
  cases h : pcmp b x y with
  | true => exact xc_t hs h (h1 h)
  | false => exact xc_f hs h (h2 h)
theorem xc_g {g : Bool} (hs : ∀ F, run (mkX call c 0) (F + 1) i ls st L = bif g then run (mkX call c 0) F i' ls' st' L' else none) (hg : g = true) (h : XC call c i' ls' st' L' res) : XC call c i ls st L res := xc_b 1 (fun F => by rw [hs, hg]; rfl) h
theorem xc_call {o : QT FA} {t : Nat} {r1 : Option PV} {L1 : QH FA} (hs : ∀ F, run (mkX call c 0) (F + 1) i ls st L = cbd o (fun r L' => run (mkX call c 0) F t ls' (r.toList ++ st') L')) (ho : o = some (r1, L1)) (h : XC call c t ls' (r1.toList ++ st') L1 res) : XC call c i ls st L res := xc_b 1 (fun F => by rw [hs, ho]; rfl) h
end XCs
