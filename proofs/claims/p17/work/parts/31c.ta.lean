/-! what is told, on both sides -/
def SL (lo hi : Int) (room : Nat) (n : Int32) (g : FA) (x : Int32) (r : FA) : Prop := ∃ m, m ≤ room ∧ n = nI m ∧ x = nI m ∧ ∀ j, j < m → g j = r j ∧ lo ≤ I (g j) ∧ I (g j) ≤ hi
def DLs (n : Int32) (g : FA) (x : Int32) (r1 r2 : FA) : Prop := ∃ m, m ≤ 8 ∧ n = nI m ∧ x = nI m ∧ ∀ j, j < m → ∃ w b : Nat, 1 ≤ w ∧ w ≤ 50 ∧ b ≤ 200 ∧ g j = nI (w * 256 + b) ∧ r1 j = nI w ∧ r2 j = nI b
/-- the sets that the reference keeps for couples and for what stands before -/
def bnf (a b : Nat → Nat) : Nat → FA
  | 0 => fun _ => 0
  | n + 1 => b1u (b1u (bnf a b n) (a n) (b n)) (b n) (a n)
def bef (a b : Nat → Nat) : Nat → FA
  | 0 => fun _ => 0
  | n + 1 => b1u (bef a b n) (b n) (a n)
def CLs (F : (Nat → Nat) → (Nat → Nat) → Nat → FA) (n : Int32) (g : FA) (x : Int32) (r : FA) : Prop := ∃ m, m ≤ 12 ∧ n = nI m ∧ x = nI m ∧ ∃ a b : Nat → Nat, (∀ j, j < m → a j < 8 ∧ b j < 8 ∧ a j ≠ b j ∧ g j = nI (a j * 256 + b j)) ∧ ∀ k, k < 8 → r k = F a b m k
/-- list i, the class's count and row beside the reference's -/
def TQ (i : Nat) (n : Int32) (g : FA) (zm : Nat → Int32) (fm : Nat → FA) : Prop := match i with
  | 0 => SL 0 999 6 n g (zm 43) (fm 24)
  | 1 => SL 0 1 16 n g (zm 46) (fm 26)
  | 2 => SL 0 99 15 n g (zm 50) (fm 29)
  | 3 => SL 0 9 15 n g (zm 52) (fm 30)
  | 4 => SL 1 50 8 n g (zm 54) (fm 31)
  | 5 => DLs n g (zm 57) (fm 33) (fm 34)
  | 6 => SL 0 30 12 n g (zm 61) (fm 36)
  | 7 => CLs bnf n g (zm 63) (fm 37)
  | 8 => CLs bef n g (zm 65) (fm 38)
  | _ => True
def TA (zc : Nat → Int32) (fc : Nat → FA) (zm : Nat → Int32) (fm : Nat → FA) : Prop := ∀ i, i < 9 → TQ i (zc i) (fc i) zm fm
def MZ : List Nat := [43, 46, 50, 52, 54, 57, 61, 63, 65]
def MKt : List (Nat × Nat) := [(24, 6), (26, 16), (29, 15), (30, 15), (31, 8), (33, 8), (34, 8), (36, 12), (37, 8), (38, 8)]
theorem SL.cong {lo hi : Int} {room : Nat} {n x : Int32} {g g' r r' : FA} (h : SL lo hi room n g x r) (hg : ∀ m, m ≤ room → n = nI m → ∀ j, j < m → g' j = g j) (hr : ∀ j, j < room → r' j = r j) : SL lo hi room n g' x r' := by
  obtain ⟨m, h1, h2, h3, h4⟩ := h
  refine ⟨m, h1, h2, h3, fun j hj => ?_⟩
  rw [hg m h1 h2 j hj, hr j (by omega)]
  exact h4 j hj
theorem DLs.cong {n x : Int32} {g g' r1 r1' r2 r2' : FA} (h : DLs n g x r1 r2) (hg : ∀ m, m ≤ 8 → n = nI m → ∀ j, j < m → g' j = g j) (hr1 : ∀ j, j < 8 → r1' j = r1 j) (hr2 : ∀ j, j < 8 → r2' j = r2 j) : DLs n g' x r1' r2' := by
  obtain ⟨m, h1, h2, h3, h4⟩ := h
  refine ⟨m, h1, h2, h3, fun j hj => ?_⟩
  rw [hg m h1 h2 j hj, hr1 j (by omega), hr2 j (by omega)]
  exact h4 j hj
theorem CLs.cong {F : (Nat → Nat) → (Nat → Nat) → Nat → FA} {n x : Int32} {g g' r r' : FA} (h : CLs F n g x r) (hg : ∀ m, m ≤ 12 → n = nI m → ∀ j, j < m → g' j = g j) (hr : ∀ j, j < 8 → r' j = r j) : CLs F n g' x r' := by
  obtain ⟨m, h1, h2, h3, a, b, h4, h5⟩ := h
  refine ⟨m, h1, h2, h3, a, b, fun j hj => ?_, fun k hk => ?_⟩
  · rw [hg m h1 h2 j hj]
    exact h4 j hj
  · rw [hr k hk]
    exact h5 k hk
theorem TQ.cong {i : Nat} (hi : i < 9) {n : Int32} {g g' : FA} {zm zm' : Nat → Int32} {fm fm' : Nat → FA} (h : TQ i n g zm fm) (hg : ∀ m, m ≤ rmT i → n = nI m → ∀ j, j < m → g' j = g j) (hz : ∀ q, q ∈ MZ → zm' q = zm q) (hf : ∀ k N, (k, N) ∈ MKt → ∀ j, j < N → fm' k j = fm k j) : TQ i n g' zm' fm' := by
  match i, hi, h, hg with
  | 0, _, h, hg => show SL 0 999 6 n g' (zm' 43) (fm' 24); rw [hz 43 (by decide)]; exact SL.cong h hg (hf 24 6 (by decide))
  | 1, _, h, hg => show SL 0 1 16 n g' (zm' 46) (fm' 26); rw [hz 46 (by decide)]; exact SL.cong h hg (hf 26 16 (by decide))
  | 2, _, h, hg => show SL 0 99 15 n g' (zm' 50) (fm' 29); rw [hz 50 (by decide)]; exact SL.cong h hg (hf 29 15 (by decide))
  | 3, _, h, hg => show SL 0 9 15 n g' (zm' 52) (fm' 30); rw [hz 52 (by decide)]; exact SL.cong h hg (hf 30 15 (by decide))
  | 4, _, h, hg => show SL 1 50 8 n g' (zm' 54) (fm' 31); rw [hz 54 (by decide)]; exact SL.cong h hg (hf 31 8 (by decide))
  | 5, _, h, hg => show DLs n g' (zm' 57) (fm' 33) (fm' 34); rw [hz 57 (by decide)]; exact DLs.cong h hg (hf 33 8 (by decide)) (hf 34 8 (by decide))
  | 6, _, h, hg => show SL 0 30 12 n g' (zm' 61) (fm' 36); rw [hz 61 (by decide)]; exact SL.cong h hg (hf 36 12 (by decide))
  | 7, _, h, hg => show CLs bnf n g' (zm' 63) (fm' 37); rw [hz 63 (by decide)]; exact CLs.cong h hg (hf 37 8 (by decide))
  | 8, _, h, hg => show CLs bef n g' (zm' 65) (fm' 38); rw [hz 65 (by decide)]; exact CLs.cong h hg (hf 38 8 (by decide))
  | n + 9, hi, _, _ => exact absurd hi (by omega)
theorem TQ.nat {i : Nat} (hi : i < 9) {n : Int32} {g : FA} {zm : Nat → Int32} {fm : Nat → FA} (h : TQ i n g zm fm) : ∃ m, m ≤ rmT i ∧ n = nI m := by
  match i, hi, h with
  | 0, _, ⟨m, h1, h2, _⟩ => exact ⟨m, h1, h2⟩
  | 1, _, ⟨m, h1, h2, _⟩ => exact ⟨m, h1, h2⟩
  | 2, _, ⟨m, h1, h2, _⟩ => exact ⟨m, h1, h2⟩
  | 3, _, ⟨m, h1, h2, _⟩ => exact ⟨m, h1, h2⟩
  | 4, _, ⟨m, h1, h2, _⟩ => exact ⟨m, h1, h2⟩
  | 5, _, ⟨m, h1, h2, _⟩ => exact ⟨m, h1, h2⟩
  | 6, _, ⟨m, h1, h2, _⟩ => exact ⟨m, h1, h2⟩
  | 7, _, ⟨m, h1, h2, _⟩ => exact ⟨m, h1, h2⟩
  | 8, _, ⟨m, h1, h2, _⟩ => exact ⟨m, h1, h2⟩
  | n + 9, hi, _ => exact absurd hi (by omega)
theorem TA.cong {zc zc' : Nat → Int32} {fc fc' : Nat → FA} {zm zm' : Nat → Int32} {fm fm' : Nat → FA} (h : TA zc fc zm fm) (hc : ∀ i, i < 9 → zc' i = zc i) (hg : ∀ i, i < 9 → ∀ m, m ≤ rmT i → zc i = nI m → ∀ j, j < m → fc' i j = fc i j) (hz : ∀ q, q ∈ MZ → zm' q = zm q) (hf : ∀ k N, (k, N) ∈ MKt → ∀ j, j < N → fm' k j = fm k j) : TA zc' fc' zm' fm' := fun i hi => by
  rw [hc i hi]
  exact (h i hi).cong hi (hg i hi) hz hf
/-- one list told of: the others stay -/
def FZ (i : Nat) : Nat := ([43, 46, 50, 52, 54, 57, 61, 63, 65] : List Nat).getD i 0
def FK (i : Nat) : List Nat := ([[24], [26], [29], [30], [31], [33, 34], [36], [37], [38]] : List (List Nat)).getD i []
theorem TQ.off {i : Nat} (hi : i < 9) {n : Int32} {g : FA} {zm zm' : Nat → Int32} {fm fm' : Nat → FA} (h : TQ i n g zm fm) (hz : zm' (FZ i) = zm (FZ i)) (hf : ∀ k, k ∈ FK i → fm' k = fm k) : TQ i n g zm' fm' := by
  match i, hi, h, hz, hf with
  | 0, _, h, hz, hf => show SL 0 999 6 n g (zm' 43) (fm' 24); rw [show zm' 43 = zm 43 from hz, hf 24 (by decide)]; exact h
  | 1, _, h, hz, hf => show SL 0 1 16 n g (zm' 46) (fm' 26); rw [show zm' 46 = zm 46 from hz, hf 26 (by decide)]; exact h
  | 2, _, h, hz, hf => show SL 0 99 15 n g (zm' 50) (fm' 29); rw [show zm' 50 = zm 50 from hz, hf 29 (by decide)]; exact h
  | 3, _, h, hz, hf => show SL 0 9 15 n g (zm' 52) (fm' 30); rw [show zm' 52 = zm 52 from hz, hf 30 (by decide)]; exact h
  | 4, _, h, hz, hf => show SL 1 50 8 n g (zm' 54) (fm' 31); rw [show zm' 54 = zm 54 from hz, hf 31 (by decide)]; exact h
  | 5, _, h, hz, hf => show DLs n g (zm' 57) (fm' 33) (fm' 34); rw [show zm' 57 = zm 57 from hz, hf 33 (by decide), hf 34 (by decide)]; exact h
  | 6, _, h, hz, hf => show SL 0 30 12 n g (zm' 61) (fm' 36); rw [show zm' 61 = zm 61 from hz, hf 36 (by decide)]; exact h
  | 7, _, h, hz, hf => show CLs bnf n g (zm' 63) (fm' 37); rw [show zm' 63 = zm 63 from hz, hf 37 (by decide)]; exact h
  | 8, _, h, hz, hf => show CLs bef n g (zm' 65) (fm' 38); rw [show zm' 65 = zm 65 from hz, hf 38 (by decide)]; exact h
  | n + 9, hi, _, _, _ => exact absurd hi (by omega)
theorem FZ_ne : ∀ i, i < 9 → ∀ k, k < 9 → i ≠ k → FZ i ≠ FZ k := by decide
theorem FK_all : ∀ i, i < 9 → ∀ k, k < 9 → i ≠ k → (FK i).all (fun a => !(FK k).contains a) = true := by decide
theorem FK_ne (i : Nat) (hi : i < 9) (k : Nat) (hk : k < 9) (hik : i ≠ k) (a : Nat) (ha : a ∈ FK i) : a ∉ FK k := fun hb => by
  have h := List.all_eq_true.mp (FK_all i hi k hk hik) a ha
  rw [List.contains_iff_mem.mpr hb] at h
  cases h
/-- told of list i alone -/
theorem TA.one {i : Nat} (hi : i < 9) {zc zc' : Nat → Int32} {fc fc' : Nat → FA} {zm zm' : Nat → Int32} {fm fm' : Nat → FA} (h : TA zc fc zm fm) (hc : ∀ k, k ≠ i → zc' k = zc k) (hg : ∀ k, k ≠ i → fc' k = fc k) (hz : ∀ q, q ≠ 0 → q ≠ FZ i → zm' q = zm q) (hf : ∀ k, k ∉ FK i → fm' k = fm k) (ho : TQ i (zc' i) (fc' i) zm' fm') : TA zc' fc' zm' fm' := fun k hk => by
  by_cases q : k = i
  · subst q
    exact ho
  · rw [hc k q, hg k q]
    refine (h k hk).off hk (hz _ ?_ (FZ_ne k hk i hi q)) (fun a ha => hf a (FK_ne k hk i hi q a ha))
    have : ∀ k, k < 9 → FZ k ≠ 0 := by decide
    exact this k hk
theorem SL.put {lo hi : Int} {room m : Nat} {g r : FA} {n x v : Int32} (h : SL lo hi room n g x r) (hm : x = nI m) (hr : m < room) (h4 : room ≤ 400) (h1 : lo ≤ I v) (h2 : I v ≤ hi) : SL lo hi room (nI (m + 1)) (upd g m v) (nI (m + 1)) (upd r m v) := by
  obtain ⟨m', k1, k2, k3, k4⟩ := h
  obtain rfl : m' = m := nI_inj (by omega) (by omega) (k3.symm.trans hm)
  refine ⟨m' + 1, by omega, rfl, rfl, fun j hj => ?_⟩
  by_cases q : j = m'
  · subst q
    rw [pk_us, pk_us]
    exact ⟨rfl, h1, h2⟩
  · rw [pk_un q, pk_un q]
    exact k4 j (by omega)
theorem SL.nil {lo hi : Int} {room : Nat} {g r : FA} : SL lo hi room 0 g 0 r := ⟨0, Nat.zero_le _, rfl, rfl, fun j hj => absurd hj (Nat.not_lt_zero j)⟩
theorem DLs.put {m w b : Nat} {g r1 r2 : FA} {n x : Int32} (h : DLs n g x r1 r2) (hm : x = nI m) (hr : m < 8) (h1 : 1 ≤ w) (h2 : w ≤ 50) (h3 : b ≤ 200) : DLs (nI (m + 1)) (upd g m (nI (w * 256 + b))) (nI (m + 1)) (upd r1 m (nI w)) (upd r2 m (nI b)) := by
  obtain ⟨m', k1, k2, k3, k4⟩ := h
  obtain rfl : m' = m := nI_inj (by omega) (by omega) (k3.symm.trans hm)
  refine ⟨m' + 1, by omega, rfl, rfl, fun j hj => ?_⟩
  by_cases q : j = m'
  · subst q
    rw [pk_us, pk_us, pk_us]
    exact ⟨w, b, h1, h2, h3, rfl, rfl, rfl⟩
  · rw [pk_un q, pk_un q, pk_un q]
    exact k4 j (by omega)
theorem DLs.nil {g r1 r2 : FA} : DLs 0 g 0 r1 r2 := ⟨0, Nat.zero_le _, rfl, rfl, fun j hj => absurd hj (Nat.not_lt_zero j)⟩
def put (a : Nat → Nat) (m v : Nat) : Nat → Nat := fun j => if j = m then v else a j
def pk (k j : Nat) : Nat := match k with
  | 24 => 592 + j
  | 26 => 598 + j
  | 29 => 614 + 2 * j
  | 30 => 614 + 2 * j + 1
  | 31 => 644 + 5 * j
  | 33 => 644 + 5 * j + 1
  | 34 => 644 + 5 * j + 2
  | 37 => 644 + 5 * j + 3
  | 38 => 644 + 5 * j + 4
  | _ => 684 + j
