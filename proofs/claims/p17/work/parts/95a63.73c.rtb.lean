/-! the class's readTape: what an exact run and the checker tell of it, in one -/
theorem PMet_mono {l : Launch} {G : PG} {y : MethodName} {bytes : ByteArray} {maxL : Nat} {ret : Option FieldType} {d mc ms : Nat} {av : List PV} {h : PH} {Φ1 Φ2 : Option PV → PH → Prop} (h1 : PMet l G y bytes maxL ret d mc ms av h Φ1) (hi : ∀ r h', Φ1 r h' → Φ2 r h') : PMet l G y bytes maxL ret d mc ms av h Φ2 := by
  intro p e ha hc1 hc2 s m args below hf hp hP hK
  obtain ⟨n1, o1, w1, s1, e1, ⟨⟨q1, f1⟩, L1⟩⟩ := h1 p e ha hc1 hc2 s m args below hf hp hP hK
  obtain ⟨r1, hh1, rfl, p1, z1, a1⟩ := q1
  exact ⟨n1, _, w1, s1, e1, ⟨⟨⟨r1, hh1, rfl, hi _ _ p1, z1, a1⟩, f1⟩, L1⟩⟩
theorem LPr_sh (z z' : Nat → Int32) (f f' : Nat → FA) : R2 SHQ (LPr z f) (LPr z' f') := ⟨(fun _ => ⟨rfl, rfl, trivial, trivial, trivial, trivial, trivial, trivial, trivial, trivial, trivial, rfl, trivial, rfl, trivial, trivial⟩), (fun _ => ⟨rfl, rfl⟩), (fun _ => ⟨rfl, rfl⟩), (fun _ => ⟨rfl, rfl⟩), trivial⟩
/-- what a text's tokens come to -/
def PTX (k m : Nat) (ts : List TT) : (Nat × Nat) ⊕ Nat := if k = 0 then pcnt (pG 18 0 ts) else pcnt (pXL k m 18 0 ts)
def TBd (h : PH) (lp : Nat → Nat) (kd : Int32) (m : Nat) (ts : List TT) (h' : PH) : Prop := ∃ z' f', Rep rdF h lp 4 (LPr z' f') h' ∧ z' 1 = 0 ∧ ((¬ (0 ≤ I kd ∧ I kd < 4) ∧ z' 7 = 0 ∧ z' 8 = -1) ∨ ∃ k e, k < 4 ∧ kd = nI k ∧ PTX k m ts = .inl e ∧ z' 7 = nI e.1 ∧ z' 8 = nI e.2)
def TGc (k m : Nat) (ts : List TT) (cnt N : Nat) (g : FA) (M : Nat) (hh : FA) : Prop := (k = 0 ∧ ∃ L g0 h0, pG 18 0 ts = .inr L ∧ cnt = L.length ∧ N = 5 * L.length ∧ M = (pfl L).length ∧ L.length ≤ 16 ∧ (pfl L).length ≤ 400 ∧ pKl g0 0 0 L ∧ tkC (pfl L) h0 0 ∧ g = cpO 80 (5 * L.length) g0 ∧ hh = cpO 400 (pfl L).length h0) ∨ ((k = 1 ∨ k = 2 ∨ k = 3) ∧ ∃ L g0, pXL k m 18 0 ts = .inr L ∧ cnt = L.length ∧ N = 5 * L.length ∧ M = 0 ∧ L.length ≤ 16 ∧ pKo (pGk4 k) g0 0 L ∧ g = cpO 80 (5 * L.length) g0)
def TGd (h : PH) (lp : Nat → Nat) (kd : Int32) (m : Nat) (ts : List TT) (cnt N : Nat) (g : FA) (M : Nat) (hh : FA) (h1 : PH) : Prop := ∃ z' f' k, Rep rdF h lp 4 (LPr z' f') h1 ∧ z' 1 = 0 ∧ z' 7 = 0 ∧ z' 8 = -1 ∧ k < 4 ∧ kd = nI k ∧ TGc k m ts cnt N g M hh
theorem TGc.le {k m : Nat} {ts : List TT} {cnt N : Nat} {g : FA} {M : Nat} {hh : FA} (h : TGc k m ts cnt N g M hh) : cnt ≤ 16 ∧ N = 5 * cnt ∧ M ≤ 400 := by
  rcases h with ⟨-, L, g0, h0, -, rfl, rfl, rfl, h1, h2, -⟩ | ⟨-, L, g0, -, rfl, rfl, rfl, h1, -⟩
  · exact ⟨h1, rfl, h2⟩
  · exact ⟨h1, rfl, by decide⟩
theorem PL1.z1 {z z' : Nat → Int32} {f f' : Nat → FA} {y : Int32} (h : PL1 (tzc z y) f z' f') : z' 1 = 0 := (h.1 1 (by decide) (by decide) (by decide) (by decide) (by decide) (by decide) (by decide) (by decide)).trans tzc_at.1
theorem rt_exact (l : Launch) (G : PG) {h : PH} {lp : Nat → Nat} {zp : Nat → Int32} {fp : Nat → FA} {n m : Nat} {kd : Int32} (hi : LbI lp 4) (hR : Rep rdF h lp 4 (LPr zp fp) h) (h1 : zp 1 = nI n) (hn : n ≤ 400) (hm : m ≤ 20) : PMet l G yX5_readTape cX5_readTape 5 (some (.object "ThumbBallot$Text")) 30 3 488 [vR (lp 0), vI kd, vI (nI m)] h (TXr h lp (TBd h lp kd m (pxA (fp 1) n (n + 1) 0)) (TGd h lp kd m (pxA (fp 1) n (n + 1) 0))) := by
  refine readTape_x l G hi hR h1 hn hm ⟨fun q h' hR' => Or.inl ⟨rfl, _, _, hR', tzc_at.1, Or.inl ⟨q, rfl, rfl⟩⟩, fun q0 => ⟨fun e z' f' h' a1 a2 a3 a4 a5 => Or.inl ⟨rfl, z', f', a2, a5.z1, Or.inr ⟨0, e, by decide, q0, ?_, a3, a4⟩⟩, fun L z' f' h' a1 a2 a3 a4 a5 a6 a7 a8 a9 => Or.inr ⟨h', L.length, 5 * L.length, _, (pfl L).length, _, rfl, rfl, ⟨z', f', a2⟩, z', f', 0, a2, a9.z1, a7, a8, by decide, q0, Or.inl ⟨rfl, L, f' 2, f' 3, a1, rfl, rfl, rfl, a3, a4, a5, a6, rfl, rfl⟩⟩⟩, fun k hk q0 => ⟨fun e z' f' h' a1 a2 a3 a4 a5 => Or.inl ⟨rfl, z', f', a2, a5.z1, Or.inr ⟨k, e, by omega, q0, ?_, a3, a4⟩⟩, fun L z' f' h' a1 a2 a3 a4 a5 a6 a7 => Or.inr ⟨h', L.length, 5 * L.length, _, 0, _, rfl, rfl, ⟨z', f', a2⟩, z', f', k, a2, a7.z1, a5, a6, by omega, q0, Or.inr ⟨hk, L, f' 2, a1, rfl, rfl, rfl, a3, a4, rfl⟩⟩⟩⟩
  · show (if (0 : Nat) = 0 then pcnt _ else _) = _
    rw [if_pos rfl, a1]
    rfl
  · show (if k = 0 then pcnt _ else _) = _
    rw [if_neg (by omega), a1]
    rfl
theorem EQV.pre {h1 h2 L1 L2 : PH} (hE : EQV (h1 ++ L1) (h2 ++ L2)) : EQV h1 h2 := by
  have up : ∀ {h : PH} {i : Nat} {x : PE} (L : PH), h[i]? = some x → (h ++ L)[i]? = some x := fun L z => by rw [List.getElem?_append_left (List.getElem?_eq_some_iff.mp z).1]; exact z
  exact ⟨fun a N f N' f' e1 e2 => hE.1 a N f N' f' (up _ e1) (up _ e2), fun a c fs fs' j x x' r e1 e2 => hE.2 a c fs fs' j x x' r (up _ e1) (up _ e2)⟩
set_option maxRecDepth 100000 in
theorem okT_cl : TCl.all okAC = true := by decide +kernel
/-- the same, and what the checker tells holds of the end -/
theorem rt_both (l : Launch) (G : PG) {lam : Nat → Nat} (hl : LAMC lam) {h : PH} (hH : HOK lam [] TCl h) {lp : Nat → Nat} (hlp : lp 0 = lam 79) {zp : Nat → Int32} {fp : Nat → FA} {n m : Nat} {kd : Int32} (hi : LbI lp 4) (hR : Rep rdF h lp 4 (LPr zp fp) h) (h1 : zp 1 = nI n) (hn : n ≤ 400) (hm : m ≤ 20) : PMet l G yX5_readTape cX5_readTape 5 (some (.object "ThumbBallot$Text")) 30 3 488 [vR (lp 0), vI kd, vI (nI m)] h (TXr h lp (fun h' => HOK lam [] TCl h' ∧ TBd h lp kd m (pxA (fp 1) n (n + 1) 0) h') (fun cnt N g M hh h' => HOK lam [] TCl h' ∧ TGd h lp kd m (pxA (fp 1) n (n + 1) 0) cnt N g M hh h')) := by
  have p1 := readTape_ok l G lam hl hH (kd := kd) (y2 := nI m)
  rw [← hlp] at p1
  refine PMet_mono (PMet_and (rt_exact l G hi hR h1 hn hm) p1) ?_
  rintro r hh ⟨e1, r2, h2, e2, hE, hlen, -⟩
  rcases e1 with ⟨rfl, z', f', b2, b3⟩ | ⟨h', cnt, N, g, M, gg, rfl, rfl, b1, z', f', k, b2, b3⟩
  · have l1 : hh.length = h.length := b2.2.2.1
    rcases e2 with ⟨-, c1, c2⟩ | ⟨h3, k3, u3, f3, g3, ⟨c1, c2⟩, -, -, -, rfl⟩
    · exact Or.inl ⟨rfl, HOK_eqv (okT_of okT_cl) hH c1 hE (Rep_sh hR b2 (LPr_sh zp z' fp f')), z', f', b2, b3⟩
    · have l2 : h3.length = h.length := c2.1
      simp at hlen
      omega
  · have l1 : h'.length = h.length := b2.2.2.1
    rcases e2 with ⟨-, c1, c2⟩ | ⟨h3, k3, u3, f3, g3, ⟨c1, c2⟩, -, -, -, rfl⟩
    · have l2 : h2.length = h.length := c2.1
      simp at hlen
      omega
    · exact Or.inr ⟨h', cnt, N, g, M, gg, rfl, rfl, b1, HOK_eqv (okT_of okT_cl) hH c1 hE.pre (Rep_sh hR b2 (LPr_sh zp z' fp f')), z', f', k, b2, b3⟩
