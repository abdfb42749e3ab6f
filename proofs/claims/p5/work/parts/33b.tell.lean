/-! telling: the pairs -/
theorem nI_enc (a b : Nat) : nI a * 256 + nI b = nI (a * 256 + b) := by
  rw [show (256 : Int32) = nI 256 from rfl, show nI a * nI 256 = nI (a * 256) from (Int32.ofNat_mul a 256).symm, nI_add]
theorem zc_n {z : Nat → Int32} {i k : Nat} {x : Int32} (h : k ≠ i) : uZ z (3 + 2 * i) x (3 + 2 * k) = z (3 + 2 * k) := uZ_n (by omega)
theorem fc_n {f : Nat → FA} {i k : Nat} {g : FA} (h : k ≠ i) : uA f (4 + 2 * i) g (4 + 2 * k) = f (4 + 2 * k) := uA_ne (by omega)
theorem TA_0 {zc : Nat → Int32} {fc : Nat → FA} {zm : Nat → Int32} {fm : Nat → FA} (h : TA zc fc zm fm) : TA zc fc (uZ zm 0 0) fm := h.cong (fun _ _ => rfl) (fun _ _ _ _ _ _ _ => rfl) (fun q hq => uZ_n (by
  have : ∀ q, q ∈ MZ → q ≠ 0 := by decide
  exact this q hq)) (fun _ _ _ _ _ => rfl)
theorem tq_party (l : Launch) (G : PG) {nc nm : Nat} {h : PH} (hI : LIY TP nc nm h) (x1 : Int32) : PRY TP l G nc nm h 173 3 247 2 [vI x1] := by
  obtain ⟨lam, b, u, z, f, zm, fm, hB, hR, hM, hT, hX⟩ := TP_link hI
  have t2 : SL 0 999 6 (z 3) (f 4) (zm 43) (fm 24) := hT 0 (by decide)
  have go : ∀ {v z1 f1 zm1 fm1}, mcall 3 173 [vR 0, vI x1] (LT u z f) = some (some (vI v), LT u z1 f1) → mcall 2 247 [vR 0, vI x1] (LR zm fm) = some (some (vI v), LR zm1 fm1) → TA (fun i => z1 (3 + 2 * i)) (fun i => f1 (4 + 2 * i)) zm1 fm1 → PRY TP l G nc nm h 173 3 247 2 [vI x1] := fun c r t => tp_pair l G hB hR hM hX (kc_q180_ok l G lam hB.2.1) (kr_q40_ok l G _ (lamM_r nm) _ (EXK_of (lamM_r nm))) (As := [x1]) c r t (by decide +kernel) (by decide +kernel) ⟨by rw [show nc = lam 0 from (hB.2.2.1 0 (by decide)).symm]; rfl, ⟨_, rfl, inb_top _⟩, trivial⟩ ⟨rfl, ⟨_, rfl, inb_top _⟩, trivial⟩ rfl
  have one : ∀ {x y : Int32} {g : FA} {fm1 : Nat → FA}, (∀ k, k ∉ FK 0 → fm1 k = fm k) → TQ 0 x g (uZ (uZ zm 0 0) 43 y) fm1 → TA (fun i => uZ z 3 x (3 + 2 * i)) (fun i => uA f 4 g (4 + 2 * i)) (uZ (uZ zm 0 0) 43 y) fm1 := fun {x y g fm1} h1 h2 => hT.one (i := 0) (by decide) (fun k hk => zc_n (i := 0) hk) (fun k hk => fc_n (i := 0) hk) (fun q q0 q1 => by rw [uZ_n (show q ≠ 43 from q1), uZ_n q0]) h1 (by
    show TQ 0 (uZ z 3 x 3) (uA f 4 g 4) _ _
    rw [uZ_s, uA_self]
    exact h2)
  have one0 : ∀ {x y : Int32} {fm1 : Nat → FA}, (∀ k, k ∉ FK 0 → fm1 k = fm k) → TQ 0 x (f 4) (uZ (uZ zm 0 0) 43 y) fm1 → TA (fun i => uZ z 3 x (3 + 2 * i)) (fun i => f (4 + 2 * i)) (uZ (uZ zm 0 0) 43 y) fm1 := fun {x y fm1} h1 h2 => by
    have := one (g := f 4) h1 h2
    rw [uA_id rfl] at this
    exact this
  obtain ⟨m, hm, e1, e2, -⟩ := id t2
  by_cases h0 : x1 = -1
  · exact go (c_party_e 0 h0) (m_party_e 0 h0) (one0 (fun _ _ => rfl) (by
      show SL 0 999 6 0 (f 4) (uZ (uZ zm 0 0) 43 0 43) (fm 24)
      rw [uZ_s]
      exact SL.nil))
  by_cases hb : 0 ≤ I x1 ∧ I x1 ≤ 999
  · by_cases hn : m < 6
    · exact go (c_party_p 0 hb e1 hn) (m_party_p 0 hb e2 hn) (one (fun k hk => uA_ne (fun e => hk (by rw [e]; decide))) (by
        show SL 0 999 6 _ _ (uZ (uZ zm 0 0) 43 (nI (m + 1)) 43) (uA fm 24 (upd (fm 24) m x1) 24)
        rw [uZ_s, uA_self]
        exact SL.put t2 e2 hn (by decide) hb.1 hb.2))
    · obtain rfl : m = 6 := by omega
      exact go (c_party_f 0 hb e1) (m_party_f 0 hb e2) (TA_0 hT)
  · exact go (c_party_r 0 h0 hb) (m_party_r 0 h0 hb) (TA_0 hT)
theorem tq_house (l : Launch) (G : PG) {nc nm : Nat} {h : PH} (hI : LIY TP nc nm h) (x1 : Int32) : PRY TP l G nc nm h 164 3 218 2 [vI x1] := by
  obtain ⟨lam, b, u, z, f, zm, fm, hB, hR, hM, hT, hX⟩ := TP_link hI
  have t2 : SL 0 1 16 (z 5) (f 6) (zm 46) (fm 26) := hT 1 (by decide)
  have go : ∀ {v z1 f1 zm1 fm1}, mcall 3 164 [vR 0, vI x1] (LT u z f) = some (some (vI v), LT u z1 f1) → mcall 2 218 [vR 0, vI x1] (LR zm fm) = some (some (vI v), LR zm1 fm1) → TA (fun i => z1 (3 + 2 * i)) (fun i => f1 (4 + 2 * i)) zm1 fm1 → PRY TP l G nc nm h 164 3 218 2 [vI x1] := fun c r t => tp_pair l G hB hR hM hX (kc_q182_ok l G lam hB.2.1) (kr_q42_ok l G _ (lamM_r nm) _ (EXK_of (lamM_r nm))) (As := [x1]) c r t (by decide +kernel) (by decide +kernel) ⟨by rw [show nc = lam 0 from (hB.2.2.1 0 (by decide)).symm]; rfl, ⟨_, rfl, inb_top _⟩, trivial⟩ ⟨rfl, ⟨_, rfl, inb_top _⟩, trivial⟩ rfl
  have one : ∀ {x y : Int32} {g : FA} {fm1 : Nat → FA}, (∀ k, k ∉ FK 1 → fm1 k = fm k) → TQ 1 x g (uZ (uZ zm 0 0) 46 y) fm1 → TA (fun i => uZ z 5 x (3 + 2 * i)) (fun i => uA f 6 g (4 + 2 * i)) (uZ (uZ zm 0 0) 46 y) fm1 := fun {x y g fm1} h1 h2 => hT.one (i := 1) (by decide) (fun k hk => zc_n (i := 1) hk) (fun k hk => fc_n (i := 1) hk) (fun q q0 q1 => by rw [uZ_n (show q ≠ 46 from q1), uZ_n q0]) h1 (by
    show TQ 1 (uZ z 5 x 5) (uA f 6 g 6) _ _
    rw [uZ_s, uA_self]
    exact h2)
  have one0 : ∀ {x y : Int32} {fm1 : Nat → FA}, (∀ k, k ∉ FK 1 → fm1 k = fm k) → TQ 1 x (f 6) (uZ (uZ zm 0 0) 46 y) fm1 → TA (fun i => uZ z 5 x (3 + 2 * i)) (fun i => f (4 + 2 * i)) (uZ (uZ zm 0 0) 46 y) fm1 := fun {x y fm1} h1 h2 => by
    have := one (g := f 6) h1 h2
    rw [uA_id rfl] at this
    exact this
  obtain ⟨m, hm, e1, e2, -⟩ := id t2
  by_cases h0 : x1 = -1
  · exact go (c_house_e 0 h0) (m_house_e 0 h0) (one0 (fun _ _ => rfl) (by
      show SL 0 1 16 0 (f 6) (uZ (uZ zm 0 0) 46 0 46) (fm 26)
      rw [uZ_s]
      exact SL.nil))
  by_cases hb : 0 ≤ I x1 ∧ I x1 ≤ 1
  · by_cases hn : m < 16
    · exact go (c_house_p 0 hb e1 hn) (m_house_p 0 hb e2 hn) (one (fun k hk => uA_ne (fun e => hk (by rw [e]; decide))) (by
        show SL 0 1 16 _ _ (uZ (uZ zm 0 0) 46 (nI (m + 1)) 46) (uA fm 26 (upd (fm 26) m x1) 26)
        rw [uZ_s, uA_self]
        exact SL.put t2 e2 hn (by decide) hb.1 hb.2))
    · obtain rfl : m = 16 := by omega
      exact go (c_house_f 0 hb e1) (m_house_f 0 hb e2) (TA_0 hT)
  · exact go (c_house_r 0 h0 hb) (m_house_r 0 h0 hb) (TA_0 hT)
theorem tq_wish (l : Launch) (G : PG) {nc nm : Nat} {h : PH} (hI : LIY TP nc nm h) (x1 : Int32) : PRY TP l G nc nm h 186 3 287 2 [vI x1] := by
  obtain ⟨lam, b, u, z, f, zm, fm, hB, hR, hM, hT, hX⟩ := TP_link hI
  have t2 : SL 0 99 15 (z 7) (f 8) (zm 50) (fm 29) := hT 2 (by decide)
  have go : ∀ {v z1 f1 zm1 fm1}, mcall 3 186 [vR 0, vI x1] (LT u z f) = some (some (vI v), LT u z1 f1) → mcall 2 287 [vR 0, vI x1] (LR zm fm) = some (some (vI v), LR zm1 fm1) → TA (fun i => z1 (3 + 2 * i)) (fun i => f1 (4 + 2 * i)) zm1 fm1 → PRY TP l G nc nm h 186 3 287 2 [vI x1] := fun c r t => tp_pair l G hB hR hM hX (kc_q184_ok l G lam hB.2.1) (kr_q45_ok l G _ (lamM_r nm) _ (EXK_of (lamM_r nm))) (As := [x1]) c r t (by decide +kernel) (by decide +kernel) ⟨by rw [show nc = lam 0 from (hB.2.2.1 0 (by decide)).symm]; rfl, ⟨_, rfl, inb_top _⟩, trivial⟩ ⟨rfl, ⟨_, rfl, inb_top _⟩, trivial⟩ rfl
  have one : ∀ {x y : Int32} {g : FA} {fm1 : Nat → FA}, (∀ k, k ∉ FK 2 → fm1 k = fm k) → TQ 2 x g (uZ (uZ zm 0 0) 50 y) fm1 → TA (fun i => uZ z 7 x (3 + 2 * i)) (fun i => uA f 8 g (4 + 2 * i)) (uZ (uZ zm 0 0) 50 y) fm1 := fun {x y g fm1} h1 h2 => hT.one (i := 2) (by decide) (fun k hk => zc_n (i := 2) hk) (fun k hk => fc_n (i := 2) hk) (fun q q0 q1 => by rw [uZ_n (show q ≠ 50 from q1), uZ_n q0]) h1 (by
    show TQ 2 (uZ z 7 x 7) (uA f 8 g 8) _ _
    rw [uZ_s, uA_self]
    exact h2)
  have one0 : ∀ {x y : Int32} {fm1 : Nat → FA}, (∀ k, k ∉ FK 2 → fm1 k = fm k) → TQ 2 x (f 8) (uZ (uZ zm 0 0) 50 y) fm1 → TA (fun i => uZ z 7 x (3 + 2 * i)) (fun i => f (4 + 2 * i)) (uZ (uZ zm 0 0) 50 y) fm1 := fun {x y fm1} h1 h2 => by
    have := one (g := f 8) h1 h2
    rw [uA_id rfl] at this
    exact this
  obtain ⟨m, hm, e1, e2, -⟩ := id t2
  by_cases h0 : x1 = -1
  · exact go (c_wish_e 0 h0) (m_wish_e 0 h0) (one0 (fun _ _ => rfl) (by
      show SL 0 99 15 0 (f 8) (uZ (uZ zm 0 0) 50 0 50) (fm 29)
      rw [uZ_s]
      exact SL.nil))
  by_cases hb : 0 ≤ I x1 ∧ I x1 ≤ 99
  · by_cases hn : m < 15
    · exact go (c_wish_p 0 hb e1 hn) (m_wish_p 0 hb e2 hn) (one (fun k hk => uA_ne (fun e => hk (by rw [e]; decide))) (by
        show SL 0 99 15 _ _ (uZ (uZ zm 0 0) 50 (nI (m + 1)) 50) (uA fm 29 (upd (fm 29) m x1) 29)
        rw [uZ_s, uA_self]
        exact SL.put t2 e2 hn (by decide) hb.1 hb.2))
    · obtain rfl : m = 15 := by omega
      exact go (c_wish_f 0 hb e1) (m_wish_f 0 hb e2) (TA_0 hT)
  · exact go (c_wish_r 0 h0 hb) (m_wish_r 0 h0 hb) (TA_0 hT)
theorem tq_name (l : Launch) (G : PG) {nc nm : Nat} {h : PH} (hI : LIY TP nc nm h) (x1 : Int32) : PRY TP l G nc nm h 170 3 242 2 [vI x1] := by
  obtain ⟨lam, b, u, z, f, zm, fm, hB, hR, hM, hT, hX⟩ := TP_link hI
  have t2 : SL 0 9 15 (z 9) (f 10) (zm 52) (fm 30) := hT 3 (by decide)
  have go : ∀ {v z1 f1 zm1 fm1}, mcall 3 170 [vR 0, vI x1] (LT u z f) = some (some (vI v), LT u z1 f1) → mcall 2 242 [vR 0, vI x1] (LR zm fm) = some (some (vI v), LR zm1 fm1) → TA (fun i => z1 (3 + 2 * i)) (fun i => f1 (4 + 2 * i)) zm1 fm1 → PRY TP l G nc nm h 170 3 242 2 [vI x1] := fun c r t => tp_pair l G hB hR hM hX (kc_q185_ok l G lam hB.2.1) (kr_q46_ok l G _ (lamM_r nm) _ (EXK_of (lamM_r nm))) (As := [x1]) c r t (by decide +kernel) (by decide +kernel) ⟨by rw [show nc = lam 0 from (hB.2.2.1 0 (by decide)).symm]; rfl, ⟨_, rfl, inb_top _⟩, trivial⟩ ⟨rfl, ⟨_, rfl, inb_top _⟩, trivial⟩ rfl
  have one : ∀ {x y : Int32} {g : FA} {fm1 : Nat → FA}, (∀ k, k ∉ FK 3 → fm1 k = fm k) → TQ 3 x g (uZ (uZ zm 0 0) 52 y) fm1 → TA (fun i => uZ z 9 x (3 + 2 * i)) (fun i => uA f 10 g (4 + 2 * i)) (uZ (uZ zm 0 0) 52 y) fm1 := fun {x y g fm1} h1 h2 => hT.one (i := 3) (by decide) (fun k hk => zc_n (i := 3) hk) (fun k hk => fc_n (i := 3) hk) (fun q q0 q1 => by rw [uZ_n (show q ≠ 52 from q1), uZ_n q0]) h1 (by
    show TQ 3 (uZ z 9 x 9) (uA f 10 g 10) _ _
    rw [uZ_s, uA_self]
    exact h2)
  have one0 : ∀ {x y : Int32} {fm1 : Nat → FA}, (∀ k, k ∉ FK 3 → fm1 k = fm k) → TQ 3 x (f 10) (uZ (uZ zm 0 0) 52 y) fm1 → TA (fun i => uZ z 9 x (3 + 2 * i)) (fun i => f (4 + 2 * i)) (uZ (uZ zm 0 0) 52 y) fm1 := fun {x y fm1} h1 h2 => by
    have := one (g := f 10) h1 h2
    rw [uA_id rfl] at this
    exact this
  obtain ⟨m, hm, e1, e2, -⟩ := id t2
  by_cases h0 : x1 = -1
  · exact go (c_name_e 0 h0) (m_name_e 0 h0) (one0 (fun _ _ => rfl) (by
      show SL 0 9 15 0 (f 10) (uZ (uZ zm 0 0) 52 0 52) (fm 30)
      rw [uZ_s]
      exact SL.nil))
  by_cases hb : 0 ≤ I x1 ∧ I x1 ≤ 9
  · by_cases hn : m < 15
    · exact go (c_name_p 0 hb e1 hn) (m_name_p 0 hb e2 hn) (one (fun k hk => uA_ne (fun e => hk (by rw [e]; decide))) (by
        show SL 0 9 15 _ _ (uZ (uZ zm 0 0) 52 (nI (m + 1)) 52) (uA fm 30 (upd (fm 30) m x1) 30)
        rw [uZ_s, uA_self]
        exact SL.put t2 e2 hn (by decide) hb.1 hb.2))
    · obtain rfl : m = 15 := by omega
      exact go (c_name_f 0 hb e1) (m_name_f 0 hb e2) (TA_0 hT)
  · exact go (c_name_r 0 h0 hb) (m_name_r 0 h0 hb) (TA_0 hT)
theorem tq_candle (l : Launch) (G : PG) {nc nm : Nat} {h : PH} (hI : LIY TP nc nm h) (x1 : Int32) : PRY TP l G nc nm h 153 3 195 2 [vI x1] := by
  obtain ⟨lam, b, u, z, f, zm, fm, hB, hR, hM, hT, hX⟩ := TP_link hI
  have t2 : SL 1 50 8 (z 11) (f 12) (zm 54) (fm 31) := hT 4 (by decide)
  have go : ∀ {v z1 f1 zm1 fm1}, mcall 3 153 [vR 0, vI x1] (LT u z f) = some (some (vI v), LT u z1 f1) → mcall 2 195 [vR 0, vI x1] (LR zm fm) = some (some (vI v), LR zm1 fm1) → TA (fun i => z1 (3 + 2 * i)) (fun i => f1 (4 + 2 * i)) zm1 fm1 → PRY TP l G nc nm h 153 3 195 2 [vI x1] := fun c r t => tp_pair l G hB hR hM hX (kc_q187_ok l G lam hB.2.1) (kr_q49_ok l G _ (lamM_r nm) _ (EXK_of (lamM_r nm))) (As := [x1]) c r t (by decide +kernel) (by decide +kernel) ⟨by rw [show nc = lam 0 from (hB.2.2.1 0 (by decide)).symm]; rfl, ⟨_, rfl, inb_top _⟩, trivial⟩ ⟨rfl, ⟨_, rfl, inb_top _⟩, trivial⟩ rfl
  have one : ∀ {x y : Int32} {g : FA} {fm1 : Nat → FA}, (∀ k, k ∉ FK 4 → fm1 k = fm k) → TQ 4 x g (uZ (uZ zm 0 0) 54 y) fm1 → TA (fun i => uZ z 11 x (3 + 2 * i)) (fun i => uA f 12 g (4 + 2 * i)) (uZ (uZ zm 0 0) 54 y) fm1 := fun {x y g fm1} h1 h2 => hT.one (i := 4) (by decide) (fun k hk => zc_n (i := 4) hk) (fun k hk => fc_n (i := 4) hk) (fun q q0 q1 => by rw [uZ_n (show q ≠ 54 from q1), uZ_n q0]) h1 (by
    show TQ 4 (uZ z 11 x 11) (uA f 12 g 12) _ _
    rw [uZ_s, uA_self]
    exact h2)
  have one0 : ∀ {x y : Int32} {fm1 : Nat → FA}, (∀ k, k ∉ FK 4 → fm1 k = fm k) → TQ 4 x (f 12) (uZ (uZ zm 0 0) 54 y) fm1 → TA (fun i => uZ z 11 x (3 + 2 * i)) (fun i => f (4 + 2 * i)) (uZ (uZ zm 0 0) 54 y) fm1 := fun {x y fm1} h1 h2 => by
    have := one (g := f 12) h1 h2
    rw [uA_id rfl] at this
    exact this
  obtain ⟨m, hm, e1, e2, -⟩ := id t2
  by_cases h0 : x1 = -1
  · exact go (c_candle_e 0 h0) (m_candle_e 0 h0) (one0 (fun _ _ => rfl) (by
      show SL 1 50 8 0 (f 12) (uZ (uZ zm 0 0) 54 0 54) (fm 31)
      rw [uZ_s]
      exact SL.nil))
  by_cases hb : 1 ≤ I x1 ∧ I x1 ≤ 50
  · by_cases hn : m < 8
    · exact go (c_candle_p 0 hb e1 hn) (m_candle_p 0 hb e2 hn) (one (fun k hk => uA_ne (fun e => hk (by rw [e]; decide))) (by
        show SL 1 50 8 _ _ (uZ (uZ zm 0 0) 54 (nI (m + 1)) 54) (uA fm 31 (upd (fm 31) m x1) 31)
        rw [uZ_s, uA_self]
        exact SL.put t2 e2 hn (by decide) hb.1 hb.2))
    · obtain rfl : m = 8 := by omega
      exact go (c_candle_f 0 hb e1) (m_candle_f 0 hb e2) (TA_0 hT)
  · exact go (c_candle_r 0 h0 hb) (m_candle_r 0 h0 hb) (TA_0 hT)
theorem tq_door (l : Launch) (G : PG) {nc nm : Nat} {h : PH} (hI : LIY TP nc nm h) (x1 x2 : Int32) : PRY TP l G nc nm h 157 3 203 2 [vI x1, vI x2] := by
  obtain ⟨lam, b, u, z, f, zm, fm, hB, hR, hM, hT, hX⟩ := TP_link hI
  have t2 : DLs (z 13) (f 14) (zm 57) (fm 33) (fm 34) := hT 5 (by decide)
  have go : ∀ {v z1 f1 zm1 fm1}, mcall 3 157 [vR 0, vI x1, vI x2] (LT u z f) = some (some (vI v), LT u z1 f1) → mcall 2 203 [vR 0, vI x1, vI x2] (LR zm fm) = some (some (vI v), LR zm1 fm1) → TA (fun i => z1 (3 + 2 * i)) (fun i => f1 (4 + 2 * i)) zm1 fm1 → PRY TP l G nc nm h 157 3 203 2 [vI x1, vI x2] := fun c r t => tp_pair l G hB hR hM hX (kc_q189_ok l G lam hB.2.1) (kr_q51_ok l G _ (lamM_r nm) _ (EXK_of (lamM_r nm))) (As := [x1, x2]) c r t (by decide +kernel) (by decide +kernel) ⟨by rw [show nc = lam 0 from (hB.2.2.1 0 (by decide)).symm]; rfl, ⟨_, rfl, inb_top _⟩, ⟨_, rfl, inb_top _⟩, trivial⟩ ⟨rfl, ⟨_, rfl, inb_top _⟩, ⟨_, rfl, inb_top _⟩, trivial⟩ rfl
  have one : ∀ {x y : Int32} {g : FA} {fm1 : Nat → FA}, (∀ k, k ∉ FK 5 → fm1 k = fm k) → TQ 5 x g (uZ (uZ zm 0 0) 57 y) fm1 → TA (fun i => uZ z 13 x (3 + 2 * i)) (fun i => uA f 14 g (4 + 2 * i)) (uZ (uZ zm 0 0) 57 y) fm1 := fun {x y g fm1} h1 h2 => hT.one (i := 5) (by decide) (fun k hk => zc_n (i := 5) hk) (fun k hk => fc_n (i := 5) hk) (fun q q0 q1 => by rw [uZ_n (show q ≠ 57 from q1), uZ_n q0]) h1 (by
    show TQ 5 (uZ z 13 x 13) (uA f 14 g 14) _ _
    rw [uZ_s, uA_self]
    exact h2)
  have one0 : ∀ {x y : Int32} {fm1 : Nat → FA}, (∀ k, k ∉ FK 5 → fm1 k = fm k) → TQ 5 x (f 14) (uZ (uZ zm 0 0) 57 y) fm1 → TA (fun i => uZ z 13 x (3 + 2 * i)) (fun i => f (4 + 2 * i)) (uZ (uZ zm 0 0) 57 y) fm1 := fun {x y fm1} h1 h2 => by
    have := one (g := f 14) h1 h2
    rw [uA_id rfl] at this
    exact this
  obtain ⟨m, hm, e1, e2, -⟩ := id t2
  by_cases h0 : x1 = -1
  · exact go (c_door_e 0 h0) (m_door_e 0 h0) (one0 (fun _ _ => rfl) (by
      show DLs 0 (f 14) (uZ (uZ zm 0 0) 57 0 57) (fm 33) (fm 34)
      rw [uZ_s]
      exact DLs.nil))
  by_cases hb : 1 ≤ I x1 ∧ I x1 ≤ 50 ∧ 0 ≤ I x2 ∧ I x2 ≤ 200
  · by_cases hn : m < 8
    · obtain ⟨w, rfl, -, i1⟩ := nI_ofI (x := x1) (by omega)
      obtain ⟨b2, rfl, -, i2⟩ := nI_ofI (x := x2) (by omega)
      have c := c_door_p (u := u) (f := f) 0 hb e1 hn
      rw [nI_enc] at c
      exact go c (m_door_p 0 hb e2 hn) (one (fun k hk => (uA_ne (k := 34) (fun e => hk (by rw [e]; decide))).trans (uA_ne (k := 33) (fun e => hk (by rw [e]; decide)))) (by
        show DLs _ _ (uZ (uZ zm 0 0) 57 (nI (m + 1)) 57) (uA (uA fm 33 (upd (fm 33) m (nI w))) 34 (upd (fm 34) m (nI b2)) 33) (uA (uA fm 33 (upd (fm 33) m (nI w))) 34 (upd (fm 34) m (nI b2)) 34)
        rw [uZ_s, uA_self, uA_ne (show (33 : Nat) ≠ 34 by decide), uA_self]
        exact DLs.put t2 e2 hn (by omega) (by omega) (by omega)))
    · obtain rfl : m = 8 := by omega
      exact go (c_door_f 0 hb e1) (m_door_f 0 hb e2) (TA_0 hT)
  · exact go (c_door_r 0 h0 hb) (m_door_r 0 h0 hb) (TA_0 hT)
theorem tq_stands (l : Launch) (G : PG) {nc nm : Nat} {h : PH} (hI : LIY TP nc nm h) (x1 : Int32) : PRY TP l G nc nm h 178 3 276 2 [vI x1] := by
  obtain ⟨lam, b, u, z, f, zm, fm, hB, hR, hM, hT, hX⟩ := TP_link hI
  have t2 : SL 0 30 12 (z 15) (f 16) (zm 61) (fm 36) := hT 6 (by decide)
  have go : ∀ {v z1 f1 zm1 fm1}, mcall 3 178 [vR 0, vI x1] (LT u z f) = some (some (vI v), LT u z1 f1) → mcall 2 276 [vR 0, vI x1] (LR zm fm) = some (some (vI v), LR zm1 fm1) → TA (fun i => z1 (3 + 2 * i)) (fun i => f1 (4 + 2 * i)) zm1 fm1 → PRY TP l G nc nm h 178 3 276 2 [vI x1] := fun c r t => tp_pair l G hB hR hM hX (kc_q191_ok l G lam hB.2.1) (kr_q53_ok l G _ (lamM_r nm) _ (EXK_of (lamM_r nm))) (As := [x1]) c r t (by decide +kernel) (by decide +kernel) ⟨by rw [show nc = lam 0 from (hB.2.2.1 0 (by decide)).symm]; rfl, ⟨_, rfl, inb_top _⟩, trivial⟩ ⟨rfl, ⟨_, rfl, inb_top _⟩, trivial⟩ rfl
  have one : ∀ {x y : Int32} {g : FA} {fm1 : Nat → FA}, (∀ k, k ∉ FK 6 → fm1 k = fm k) → TQ 6 x g (uZ (uZ zm 0 0) 61 y) fm1 → TA (fun i => uZ z 15 x (3 + 2 * i)) (fun i => uA f 16 g (4 + 2 * i)) (uZ (uZ zm 0 0) 61 y) fm1 := fun {x y g fm1} h1 h2 => hT.one (i := 6) (by decide) (fun k hk => zc_n (i := 6) hk) (fun k hk => fc_n (i := 6) hk) (fun q q0 q1 => by rw [uZ_n (show q ≠ 61 from q1), uZ_n q0]) h1 (by
    show TQ 6 (uZ z 15 x 15) (uA f 16 g 16) _ _
    rw [uZ_s, uA_self]
    exact h2)
  have one0 : ∀ {x y : Int32} {fm1 : Nat → FA}, (∀ k, k ∉ FK 6 → fm1 k = fm k) → TQ 6 x (f 16) (uZ (uZ zm 0 0) 61 y) fm1 → TA (fun i => uZ z 15 x (3 + 2 * i)) (fun i => f (4 + 2 * i)) (uZ (uZ zm 0 0) 61 y) fm1 := fun {x y fm1} h1 h2 => by
    have := one (g := f 16) h1 h2
    rw [uA_id rfl] at this
    exact this
  obtain ⟨m, hm, e1, e2, -⟩ := id t2
  by_cases h0 : x1 = -1
  · exact go (c_stands_e 0 h0) (m_stands_e 0 h0) (one0 (fun _ _ => rfl) (by
      show SL 0 30 12 0 (f 16) (uZ (uZ zm 0 0) 61 0 61) (fm 36)
      rw [uZ_s]
      exact SL.nil))
  by_cases hb : 0 ≤ I x1 ∧ I x1 ≤ 30
  · by_cases hn : m < 12
    · exact go (c_stands_p 0 hb e1 hn) (m_stands_p 0 hb e2 hn) (one (fun k hk => uA_ne (fun e => hk (by rw [e]; decide))) (by
        show SL 0 30 12 _ _ (uZ (uZ zm 0 0) 61 (nI (m + 1)) 61) (uA fm 36 (upd (fm 36) m x1) 36)
        rw [uZ_s, uA_self]
        exact SL.put t2 e2 hn (by decide) hb.1 hb.2))
    · obtain rfl : m = 12 := by omega
      exact go (c_stands_f 0 hb e1) (m_stands_f 0 hb e2) (TA_0 hT)
  · exact go (c_stands_r 0 h0 hb) (m_stands_r 0 h0 hb) (TA_0 hT)
theorem tq_bill (l : Launch) (G : PG) {nc nm : Nat} {h : PH} (hI : LIY TP nc nm h) (x1 x2 : Int32) : PRY TP l G nc nm h 150 3 189 2 [vI x1, vI x2] := by
  obtain ⟨lam, b, u, z, f, zm, fm, hB, hR, hM, hT, hX⟩ := TP_link hI
  have t2 : CLs bnf (z 17) (f 18) (zm 63) (fm 37) := hT 7 (by decide)
  have go : ∀ {v z1 f1 zm1 fm1}, mcall 3 150 [vR 0, vI x1, vI x2] (LT u z f) = some (some (vI v), LT u z1 f1) → mcall 2 189 [vR 0, vI x1, vI x2] (LR zm fm) = some (some (vI v), LR zm1 fm1) → TA (fun i => z1 (3 + 2 * i)) (fun i => f1 (4 + 2 * i)) zm1 fm1 → PRY TP l G nc nm h 150 3 189 2 [vI x1, vI x2] := fun c r t => tp_pair l G hB hR hM hX (kc_q193_ok l G lam hB.2.1) (kr_q55_ok l G _ (lamM_r nm) _ (EXK_of (lamM_r nm))) (As := [x1, x2]) c r t (by decide +kernel) (by decide +kernel) ⟨by rw [show nc = lam 0 from (hB.2.2.1 0 (by decide)).symm]; rfl, ⟨_, rfl, inb_top _⟩, ⟨_, rfl, inb_top _⟩, trivial⟩ ⟨rfl, ⟨_, rfl, inb_top _⟩, ⟨_, rfl, inb_top _⟩, trivial⟩ rfl
  have one : ∀ {x y : Int32} {g : FA} {fm1 : Nat → FA}, (∀ k, k ∉ FK 7 → fm1 k = fm k) → TQ 7 x g (uZ (uZ zm 0 0) 63 y) fm1 → TA (fun i => uZ z 17 x (3 + 2 * i)) (fun i => uA f 18 g (4 + 2 * i)) (uZ (uZ zm 0 0) 63 y) fm1 := fun {x y g fm1} h1 h2 => hT.one (i := 7) (by decide) (fun k hk => zc_n (i := 7) hk) (fun k hk => fc_n (i := 7) hk) (fun q q0 q1 => by rw [uZ_n (show q ≠ 63 from q1), uZ_n q0]) h1 (by
    show TQ 7 (uZ z 17 x 17) (uA f 18 g 18) _ _
    rw [uZ_s, uA_self]
    exact h2)
  have one0 : ∀ {x y : Int32} {fm1 : Nat → FA}, (∀ k, k ∉ FK 7 → fm1 k = fm k) → TQ 7 x (f 18) (uZ (uZ zm 0 0) 63 y) fm1 → TA (fun i => uZ z 17 x (3 + 2 * i)) (fun i => f (4 + 2 * i)) (uZ (uZ zm 0 0) 63 y) fm1 := fun {x y fm1} h1 h2 => by
    have := one (g := f 18) h1 h2
    rw [uA_id rfl] at this
    exact this
  obtain ⟨m, hm, e1, e2, -⟩ := id t2
  by_cases h0 : x1 = -1
  · exact go (c_bill_e 0 h0) (m_bill_e 0 h0) (one0 (fun k hk => uA_ne (fun e => hk (by rw [e]; decide))) (by
      show CLs bnf 0 (f 18) (uZ (uZ zm 0 0) 63 0 63) (uA fm 37 (zr0 (fm 37) 8) 37)
      rw [uZ_s, uA_self]
      exact CLs.nil7))
  by_cases hb : 0 ≤ I x1 ∧ I x1 < 8 ∧ 0 ≤ I x2 ∧ I x2 < 8 ∧ ¬ x1 = x2
  · obtain ⟨a1, rfl, -, i1⟩ := nI_ofI (x := x1) (by omega)
    obtain ⟨a2, rfl, -, i2⟩ := nI_ofI (x := x2) (by omega)
    have h1 : a1 < 8 := by omega
    have h2 : a2 < 8 := by omega
    have h3 : a1 ≠ a2 := fun q => hb.2.2.2.2 (by rw [q])
    by_cases hn : m < 12
    · have c := c_bill_p (u := u) (f := f) 0 hb e1 hn
      rw [nI_enc] at c
      exact go c (m_bill_p 0 h1 h2 h3 e2 hn) (one (fun k hk => uA_ne (fun e => hk (by rw [e]; decide))) (by
        show CLs bnf _ _ (uZ (uZ zm 0 0) 63 (nI (m + 1)) 63) (uA fm 37 (b1u (b1u (fm 37) a1 a2) a2 a1) 37)
        rw [uZ_s, uA_self]
        exact CLs.put7 t2 e2 hn h1 h2 h3))
    · obtain rfl : m = 12 := by omega
      exact go (c_bill_f 0 hb e1) (m_bill_f 0 h1 h2 h3 e2) (TA_0 hT)
  · exact go (c_bill_r 0 h0 hb) (m_bill_r 0 h0 (fun q => hb ⟨q.1, by omega, q.2.2.1, by omega, q.2.2.2.2⟩)) (TA_0 hT)
theorem tq_before (l : Launch) (G : PG) {nc nm : Nat} {h : PH} (hI : LIY TP nc nm h) (x1 x2 : Int32) : PRY TP l G nc nm h 149 3 188 2 [vI x1, vI x2] := by
  obtain ⟨lam, b, u, z, f, zm, fm, hB, hR, hM, hT, hX⟩ := TP_link hI
  have t2 : CLs bef (z 19) (f 20) (zm 65) (fm 38) := hT 8 (by decide)
  have go : ∀ {v z1 f1 zm1 fm1}, mcall 3 149 [vR 0, vI x1, vI x2] (LT u z f) = some (some (vI v), LT u z1 f1) → mcall 2 188 [vR 0, vI x1, vI x2] (LR zm fm) = some (some (vI v), LR zm1 fm1) → TA (fun i => z1 (3 + 2 * i)) (fun i => f1 (4 + 2 * i)) zm1 fm1 → PRY TP l G nc nm h 149 3 188 2 [vI x1, vI x2] := fun c r t => tp_pair l G hB hR hM hX (kc_q195_ok l G lam hB.2.1) (kr_q58_ok l G _ (lamM_r nm) _ (EXK_of (lamM_r nm))) (As := [x1, x2]) c r t (by decide +kernel) (by decide +kernel) ⟨by rw [show nc = lam 0 from (hB.2.2.1 0 (by decide)).symm]; rfl, ⟨_, rfl, inb_top _⟩, ⟨_, rfl, inb_top _⟩, trivial⟩ ⟨rfl, ⟨_, rfl, inb_top _⟩, ⟨_, rfl, inb_top _⟩, trivial⟩ rfl
  have one : ∀ {x y : Int32} {g : FA} {fm1 : Nat → FA}, (∀ k, k ∉ FK 8 → fm1 k = fm k) → TQ 8 x g (uZ (uZ zm 0 0) 65 y) fm1 → TA (fun i => uZ z 19 x (3 + 2 * i)) (fun i => uA f 20 g (4 + 2 * i)) (uZ (uZ zm 0 0) 65 y) fm1 := fun {x y g fm1} h1 h2 => hT.one (i := 8) (by decide) (fun k hk => zc_n (i := 8) hk) (fun k hk => fc_n (i := 8) hk) (fun q q0 q1 => by rw [uZ_n (show q ≠ 65 from q1), uZ_n q0]) h1 (by
    show TQ 8 (uZ z 19 x 19) (uA f 20 g 20) _ _
    rw [uZ_s, uA_self]
    exact h2)
  have one0 : ∀ {x y : Int32} {fm1 : Nat → FA}, (∀ k, k ∉ FK 8 → fm1 k = fm k) → TQ 8 x (f 20) (uZ (uZ zm 0 0) 65 y) fm1 → TA (fun i => uZ z 19 x (3 + 2 * i)) (fun i => f (4 + 2 * i)) (uZ (uZ zm 0 0) 65 y) fm1 := fun {x y fm1} h1 h2 => by
    have := one (g := f 20) h1 h2
    rw [uA_id rfl] at this
    exact this
  obtain ⟨m, hm, e1, e2, -⟩ := id t2
  by_cases h0 : x1 = -1
  · exact go (c_before_e 0 h0) (m_before_e 0 h0) (one0 (fun k hk => uA_ne (fun e => hk (by rw [e]; decide))) (by
      show CLs bef 0 (f 20) (uZ (uZ zm 0 0) 65 0 65) (uA fm 38 (zr0 (fm 38) 8) 38)
      rw [uZ_s, uA_self]
      exact CLs.nil8))
  by_cases hb : 0 ≤ I x1 ∧ I x1 < 8 ∧ 0 ≤ I x2 ∧ I x2 < 8 ∧ ¬ x1 = x2
  · obtain ⟨a1, rfl, -, i1⟩ := nI_ofI (x := x1) (by omega)
    obtain ⟨a2, rfl, -, i2⟩ := nI_ofI (x := x2) (by omega)
    have h1 : a1 < 8 := by omega
    have h2 : a2 < 8 := by omega
    have h3 : a1 ≠ a2 := fun q => hb.2.2.2.2 (by rw [q])
    by_cases hn : m < 12
    · have c := c_before_p (u := u) (f := f) 0 hb e1 hn
      rw [nI_enc] at c
      exact go c (m_before_p 0 h1 h2 h3 e2 hn) (one (fun k hk => uA_ne (fun e => hk (by rw [e]; decide))) (by
        show CLs bef _ _ (uZ (uZ zm 0 0) 65 (nI (m + 1)) 65) (uA fm 38 (b1u (fm 38) a2 a1) 38)
        rw [uZ_s, uA_self]
        exact CLs.put8 t2 e2 hn h1 h2 h3))
    · obtain rfl : m = 12 := by omega
      exact go (c_before_f 0 hb e1) (m_before_f 0 h1 h2 h3 e2) (TA_0 hT)
  · exact go (c_before_r 0 h0 hb) (m_before_r 0 h0 (fun q => hb ⟨q.1, by omega, q.2.2.1, by omega, q.2.2.2.2⟩)) (TA_0 hT)
