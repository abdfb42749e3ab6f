/-! what is told, on both sides -/
def SL (lo hi : Int) (room : Nat) (n : Int32) (g : FA) (x : Int32) (r : FA) : Prop := ∃ m, m ≤ room ∧ n = nI m ∧ x = nI m ∧ ∀ j, j < m → g j = r j ∧ lo ≤ I (g j) ∧ I (g j) ≤ hi
def DLs (n : Int32) (g : FA) (x : Int32) (r1 r2 : FA) : Prop := ∃ m, m ≤ 8 ∧ n = nI m ∧ x = nI m ∧ ∀ j, j < m → ∃ w b : Nat, 1 ≤ w ∧ w ≤ 50 ∧ b ≤ 200 ∧ g j = nI (w * 256 + b) ∧ r1 j = nI w ∧ r2 j = nI b
/-- the sets that the reference keeps for couples and for what stands before -/
def bnf (a b : Nat → Nat) : Nat → FA
  | 0 => fun _ => 0
  | n + 1 => b1u (b1u (bnf a b n) (a n) (b n)) (b n) (a n)
def bef (a b : Nat → Nat) : Nat → FA
  | 0 => fun _ => 0
  | n + 1 => b1u (bef a b n) (b n) (a n)
def CLs (F : (Nat → Nat) → (Nat → Nat) → Nat → FA) (n : Int32) (g : FA) (x : Int32) (r : FA) : Prop := ∃ m, m ≤ 12 ∧ n = nI m ∧ x = nI m ∧ ∃ a b : Nat → Nat, (∀ j, j < m → a j < 8 ∧ b j < 8 ∧ a j ≠ b j ∧ g j = nI (a j * 256 + b j)) ∧ ∀ k, k < 8 → r k = F a b m k
/-- list i, the class's count and row beside the reference's -/
def TQ (i : Nat) (n : Int32) (g : FA) (zm : Nat → Int32) (fm : Nat → FA) : Prop := match i with
  | 0 => SL 0 999 6 n g (zm 43) (fm 24)
  | 1 => SL 0 1 16 n g (zm 46) (fm 26)
  | 2 => SL 0 99 15 n g (zm 50) (fm 29)
  | 3 => SL 0 9 15 n g (zm 52) (fm 30)
  | 4 => SL 1 50 8 n g (zm 54) (fm 31)
  | 5 => DLs n g (zm 57) (fm 33) (fm 34)
  | 6 => SL 0 30 12 n g (zm 61) (fm 36)
  | 7 => CLs bnf n g (zm 63) (fm 37)
  | 8 => CLs bef n g (zm 65) (fm 38)
  | _ => True
def TA (zc : Nat → Int32) (fc : Nat → FA) (zm : Nat → Int32) (fm : Nat → FA) : Prop := ∀ i, i < 9 → TQ i (zc i) (fc i) zm fm
def MZ : List Nat := [43, 46, 50, 52, 54, 57, 61, 63, 65]
def MKt : List (Nat × Nat) := [(24, 6), (26, 16), (29, 15), (30, 15), (31, 8), (33, 8), (34, 8), (36, 12), (37, 8), (38, 8)]
theorem SL.cong {lo hi : Int} {room : Nat} {n x : Int32} {g g' r r' : FA} (h : SL lo hi room n g x r) (hg : ∀ m, m ≤ room → n = nI m → ∀ j, j < m → g' j = g j) (hr : ∀ j, j < room → r' j = r j) : SL lo hi room n g' x r' := by
  obtain ⟨m, h1, h2, h3, h4⟩ := h
  refine ⟨m, h1, h2, h3, fun j hj => ?_⟩
  rw [hg m h1 h2 j hj, hr j (by omega)]
  exact h4 j hj
theorem DLs.cong {n x : Int32} {g g' r1 r1' r2 r2' : FA} (h : DLs n g x r1 r2) (hg : ∀ m, m ≤ 8 → n = nI m → ∀ j, j < m → g' j = g j) (hr1 : ∀ j, j < 8 → r1' j = r1 j) (hr2 : ∀ j, j < 8 → r2' j = r2 j) : DLs n g' x r1' r2' := by
  obtain ⟨m, h1, h2, h3, h4⟩ := h
  refine ⟨m, h1, h2, h3, fun j hj => ?_⟩
  rw [hg m h1 h2 j hj, hr1 j (by omega), hr2 j (by omega)]
  exact h4 j hj
theorem CLs.cong {F : (Nat → Nat) → (Nat → Nat) → Nat → FA} {n x : Int32} {g g' r r' : FA} (h : CLs F n g x r) (hg : ∀ m, m ≤ 12 → n = nI m → ∀ j, j < m → g' j = g j) (hr : ∀ j, j < 8 → r' j = r j) : CLs F n g' x r' := by
  obtain ⟨m, h1, h2, h3, a, b, h4, h5⟩ := h
  refine ⟨m, h1, h2, h3, a, b, fun j hj => ?_, fun k hk => ?_⟩
  · rw [hg m h1 h2 j hj]
    exact h4 j hj
  · rw [hr k hk]
    exact h5 k hk
theorem TQ.cong {i : Nat} (hi : i < 9) {n : Int32} {g g' : FA} {zm zm' : Nat → Int32} {fm fm' : Nat → FA} (h : TQ i n g zm fm) (hg : ∀ m, m ≤ rmT i → n = nI m → ∀ j, j < m → g' j = g j) (hz : ∀ q, q ∈ MZ → zm' q = zm q) (hf : ∀ k N, (k, N) ∈ MKt → ∀ j, j < N → fm' k j = fm k j) : TQ i n g' zm' fm' := by
  match i, hi, h, hg with
  | 0, _, h, hg => show SL 0 999 6 n g' (zm' 43) (fm' 24); rw [hz 43 (by decide)]; exact SL.cong h hg (hf 24 6 (by decide))
  | 1, _, h, hg => show SL 0 1 16 n g' (zm' 46) (fm' 26); rw [hz 46 (by decide)]; exact SL.cong h hg (hf 26 16 (by decide))
  | 2, _, h, hg => show SL 0 99 15 n g' (zm' 50) (fm' 29); rw [hz 50 (by decide)]; exact SL.cong h hg (hf 29 15 (by decide))
  | 3, _, h, hg => show SL 0 9 15 n g' (zm' 52) (fm' 30); rw [hz 52 (by decide)]; exact SL.cong h hg (hf 30 15 (by decide))
  | 4, _, h, hg => show SL 1 50 8 n g' (zm' 54) (fm' 31); rw [hz 54 (by decide)]; exact SL.cong h hg (hf 31 8 (by decide))
  | 5, _, h, hg => show DLs n g' (zm' 57) (fm' 33) (fm' 34); rw [hz 57 (by decide)]; exact DLs.cong h hg (hf 33 8 (by decide)) (hf 34 8 (by decide))
  | 6, _, h, hg => show SL 0 30 12 n g' (zm' 61) (fm' 36); rw [hz 61 (by decide)]; exact SL.cong h hg (hf 36 12 (by decide))
  | 7, _, h, hg => show CLs bnf n g' (zm' 63) (fm' 37); rw [hz 63 (by decide)]; exact CLs.cong h hg (hf 37 8 (by decide))
  | 8, _, h, hg => show CLs bef n g' (zm' 65) (fm' 38); rw [hz 65 (by decide)]; exact CLs.cong h hg (hf 38 8 (by decide))
  | n + 9, hi, _, _ => exact absurd hi (by omega)
theorem TQ.nat {i : Nat} (hi : i < 9) {n : Int32} {g : FA} {zm : Nat → Int32} {fm : Nat → FA} (h : TQ i n g zm fm) : ∃ m, m ≤ rmT i ∧ n = nI m := by
  match i, hi, h with
  | 0, _, ⟨m, h1, h2, _⟩ => exact ⟨m, h1, h2⟩
  | 1, _, ⟨m, h1, h2, _⟩ => exact ⟨m, h1, h2⟩
  | 2, _, ⟨m, h1, h2, _⟩ => exact ⟨m, h1, h2⟩
  | 3, _, ⟨m, h1, h2, _⟩ => exact ⟨m, h1, h2⟩
  | 4, _, ⟨m, h1, h2, _⟩ => exact ⟨m, h1, h2⟩
  | 5, _, ⟨m, h1, h2, _⟩ => exact ⟨m, h1, h2⟩
  | 6, _, ⟨m, h1, h2, _⟩ => exact ⟨m, h1, h2⟩
  | 7, _, ⟨m, h1, h2, _⟩ => exact ⟨m, h1, h2⟩
  | 8, _, ⟨m, h1, h2, _⟩ => exact ⟨m, h1, h2⟩
  | n + 9, hi, _ => exact absurd hi (by omega)
theorem TA.cong {zc zc' : Nat → Int32} {fc fc' : Nat → FA} {zm zm' : Nat → Int32} {fm fm' : Nat → FA} (h : TA zc fc zm fm) (hc : ∀ i, i < 9 → zc' i = zc i) (hg : ∀ i, i < 9 → ∀ m, m ≤ rmT i → zc i = nI m → ∀ j, j < m → fc' i j = fc i j) (hz : ∀ q, q ∈ MZ → zm' q = zm q) (hf : ∀ k N, (k, N) ∈ MKt → ∀ j, j < N → fm' k j = fm k j) : TA zc' fc' zm' fm' := fun i hi => by
  rw [hc i hi]
  exact (h i hi).cong hi (hg i hi) hz hf
/-- one list told of: the others stay -/
def FZ (i : Nat) : Nat := ([43, 46, 50, 52, 54, 57, 61, 63, 65] : List Nat).getD i 0
def FK (i : Nat) : List Nat := ([[24], [26], [29], [30], [31], [33, 34], [36], [37], [38]] : List (List Nat)).getD i []
theorem TQ.off {i : Nat} (hi : i < 9) {n : Int32} {g : FA} {zm zm' : Nat → Int32} {fm fm' : Nat → FA} (h : TQ i n g zm fm) (hz : zm' (FZ i) = zm (FZ i)) (hf : ∀ k, k ∈ FK i → fm' k = fm k) : TQ i n g zm' fm' := by
  match i, hi, h, hz, hf with
  | 0, _, h, hz, hf => show SL 0 999 6 n g (zm' 43) (fm' 24); rw [show zm' 43 = zm 43 from hz, hf 24 (by decide)]; exact h
  | 1, _, h, hz, hf => show SL 0 1 16 n g (zm' 46) (fm' 26); rw [show zm' 46 = zm 46 from hz, hf 26 (by decide)]; exact h
  | 2, _, h, hz, hf => show SL 0 99 15 n g (zm' 50) (fm' 29); rw [show zm' 50 = zm 50 from hz, hf 29 (by decide)]; exact h
  | 3, _, h, hz, hf => show SL 0 9 15 n g (zm' 52) (fm' 30); rw [show zm' 52 = zm 52 from hz, hf 30 (by decide)]; exact h
  | 4, _, h, hz, hf => show SL 1 50 8 n g (zm' 54) (fm' 31); rw [show zm' 54 = zm 54 from hz, hf 31 (by decide)]; exact h
  | 5, _, h, hz, hf => show DLs n g (zm' 57) (fm' 33) (fm' 34); rw [show zm' 57 = zm 57 from hz, hf 33 (by decide), hf 34 (by decide)]; exact h
  | 6, _, h, hz, hf => show SL 0 30 12 n g (zm' 61) (fm' 36); rw [show zm' 61 = zm 61 from hz, hf 36 (by decide)]; exact h
  | 7, _, h, hz, hf => show CLs bnf n g (zm' 63) (fm' 37); rw [show zm' 63 = zm 63 from hz, hf 37 (by decide)]; exact h
  | 8, _, h, hz, hf => show CLs bef n g (zm' 65) (fm' 38); rw [show zm' 65 = zm 65 from hz, hf 38 (by decide)]; exact h
  | n + 9, hi, _, _, _ => exact absurd hi (by omega)
theorem FZ_ne : ∀ i, i < 9 → ∀ k, k < 9 → i ≠ k → FZ i ≠ FZ k := by decide
theorem FK_all : ∀ i, i < 9 → ∀ k, k < 9 → i ≠ k → (FK i).all (fun a => !(FK k).contains a) = true := by decide
theorem FK_ne (i : Nat) (hi : i < 9) (k : Nat) (hk : k < 9) (hik : i ≠ k) (a : Nat) (ha : a ∈ FK i) : a ∉ FK k := fun hb => by
  have h := List.all_eq_true.mp (FK_all i hi k hk hik) a ha
  rw [List.contains_iff_mem.mpr hb] at h
  cases h
/-- told of list i alone -/
theorem TA.one {i : Nat} (hi : i < 9) {zc zc' : Nat → Int32} {fc fc' : Nat → FA} {zm zm' : Nat → Int32} {fm fm' : Nat → FA} (h : TA zc fc zm fm) (hc : ∀ k, k ≠ i → zc' k = zc k) (hg : ∀ k, k ≠ i → fc' k = fc k) (hz : ∀ q, q ≠ 0 → q ≠ FZ i → zm' q = zm q) (hf : ∀ k, k ∉ FK i → fm' k = fm k) (ho : TQ i (zc' i) (fc' i) zm' fm') : TA zc' fc' zm' fm' := fun k hk => by
  by_cases q : k = i
  · subst q
    exact ho
  · rw [hc k q, hg k q]
    refine (h k hk).off hk (hz _ ?_ (FZ_ne k hk i hi q)) (fun a ha => hf a (FK_ne k hk i hi q a ha))
    have : ∀ k, k < 9 → FZ k ≠ 0 := by decide
    exact this k hk
theorem SL.put {lo hi : Int} {room m : Nat} {g r : FA} {n x v : Int32} (h : SL lo hi room n g x r) (hm : x = nI m) (hr : m < room) (h4 : room ≤ 400) (h1 : lo ≤ I v) (h2 : I v ≤ hi) : SL lo hi room (nI (m + 1)) (upd g m v) (nI (m + 1)) (upd r m v) := by
  obtain ⟨m', k1, k2, k3, k4⟩ := h
  obtain rfl : m' = m := nI_inj (by omega) (by omega) (k3.symm.trans hm)
  refine ⟨m' + 1, by omega, rfl, rfl, fun j hj => ?_⟩
  by_cases q : j = m'
  · subst q
    rw [pk_us, pk_us]
    exact ⟨rfl, h1, h2⟩
  · rw [pk_un q, pk_un q]
    exact k4 j (by omega)
theorem SL.nil {lo hi : Int} {room : Nat} {g r : FA} : SL lo hi room 0 g 0 r := ⟨0, Nat.zero_le _, rfl, rfl, fun j hj => absurd hj (Nat.not_lt_zero j)⟩
theorem DLs.put {m w b : Nat} {g r1 r2 : FA} {n x : Int32} (h : DLs n g x r1 r2) (hm : x = nI m) (hr : m < 8) (h1 : 1 ≤ w) (h2 : w ≤ 50) (h3 : b ≤ 200) : DLs (nI (m + 1)) (upd g m (nI (w * 256 + b))) (nI (m + 1)) (upd r1 m (nI w)) (upd r2 m (nI b)) := by
  obtain ⟨m', k1, k2, k3, k4⟩ := h
  obtain rfl : m' = m := nI_inj (by omega) (by omega) (k3.symm.trans hm)
  refine ⟨m' + 1, by omega, rfl, rfl, fun j hj => ?_⟩
  by_cases q : j = m'
  · subst q
    rw [pk_us, pk_us, pk_us]
    exact ⟨w, b, h1, h2, h3, rfl, rfl, rfl⟩
  · rw [pk_un q, pk_un q, pk_un q]
    exact k4 j (by omega)
theorem DLs.nil {g r1 r2 : FA} : DLs 0 g 0 r1 r2 := ⟨0, Nat.zero_le _, rfl, rfl, fun j hj => absurd hj (Nat.not_lt_zero j)⟩
theorem bnf_cong {a b a' b' : Nat → Nat} : ∀ n, (∀ j, j < n → a' j = a j ∧ b' j = b j) → bnf a' b' n = bnf a b n := by
  intro n
  induction n with
  | zero => intro _; rfl
  | succ n ih =>
    intro h
    show b1u (b1u (bnf a' b' n) (a' n) (b' n)) (b' n) (a' n) = b1u (b1u (bnf a b n) (a n) (b n)) (b n) (a n)
    rw [ih (fun j hj => h j (by omega)), (h n (by omega)).1, (h n (by omega)).2]
theorem bef_cong {a b a' b' : Nat → Nat} : ∀ n, (∀ j, j < n → a' j = a j ∧ b' j = b j) → bef a' b' n = bef a b n := by
  intro n
  induction n with
  | zero => intro _; rfl
  | succ n ih =>
    intro h
    show b1u (bef a' b' n) (b' n) (a' n) = b1u (bef a b n) (b n) (a n)
    rw [ih (fun j hj => h j (by omega)), (h n (by omega)).1, (h n (by omega)).2]
theorem b1u_cong {g g' : FA} {a b : Nat} (ha : a < 8) (h : ∀ k, k < 8 → g' k = g k) : ∀ k, k < 8 → b1u g' a b k = b1u g a b k := by
  intro k hk
  unfold b1u
  by_cases q : k = a
  · subst q
    rw [pk_us, pk_us, h k hk]
  · rw [pk_un q, pk_un q]
    exact h k hk
def put (a : Nat → Nat) (m v : Nat) : Nat → Nat := fun j => if j = m then v else a j
theorem put_s (a : Nat → Nat) (m v : Nat) : put a m v m = v := if_pos rfl
theorem put_n (a : Nat → Nat) (m v : Nat) {j : Nat} (h : j ≠ m) : put a m v j = a j := if_neg h
theorem CLs.put7 {m x1 x2 : Nat} {g r : FA} {n x : Int32} (h : CLs bnf n g x r) (hm : x = nI m) (hr : m < 12) (h1 : x1 < 8) (h2 : x2 < 8) (h3 : x1 ≠ x2) : CLs bnf (nI (m + 1)) (upd g m (nI (x1 * 256 + x2))) (nI (m + 1)) (b1u (b1u r x1 x2) x2 x1) := by
  obtain ⟨m', k1, k2, k3, a, b, k4, k5⟩ := h
  obtain rfl : m' = m := nI_inj (by omega) (by omega) (k3.symm.trans hm)
  refine ⟨m' + 1, by omega, rfl, rfl, put a m' x1, put b m' x2, fun j hj => ?_, ?_⟩
  · by_cases q : j = m'
    · subst q
      rw [put_s, put_s, pk_us]
      exact ⟨h1, h2, h3, rfl⟩
    · rw [put_n _ _ _ q, put_n _ _ _ q, pk_un q]
      exact k4 j (by omega)
  · show ∀ k, k < 8 → _ = b1u (b1u (bnf (put a m' x1) (put b m' x2) m') (put a m' x1 m') (put b m' x2 m')) (put b m' x2 m') (put a m' x1 m') k
    rw [put_s, put_s, bnf_cong m' (fun j hj => ⟨put_n a m' x1 (by omega), put_n b m' x2 (by omega)⟩)]
    exact b1u_cong h2 (b1u_cong h1 k5)
theorem CLs.put8 {m x1 x2 : Nat} {g r : FA} {n x : Int32} (h : CLs bef n g x r) (hm : x = nI m) (hr : m < 12) (h1 : x1 < 8) (h2 : x2 < 8) (h3 : x1 ≠ x2) : CLs bef (nI (m + 1)) (upd g m (nI (x1 * 256 + x2))) (nI (m + 1)) (b1u r x2 x1) := by
  obtain ⟨m', k1, k2, k3, a, b, k4, k5⟩ := h
  obtain rfl : m' = m := nI_inj (by omega) (by omega) (k3.symm.trans hm)
  refine ⟨m' + 1, by omega, rfl, rfl, put a m' x1, put b m' x2, fun j hj => ?_, ?_⟩
  · by_cases q : j = m'
    · subst q
      rw [put_s, put_s, pk_us]
      exact ⟨h1, h2, h3, rfl⟩
    · rw [put_n _ _ _ q, put_n _ _ _ q, pk_un q]
      exact k4 j (by omega)
  · show ∀ k, k < 8 → _ = b1u (bef (put a m' x1) (put b m' x2) m') (put b m' x2 m') (put a m' x1 m') k
    rw [put_s, put_s, bef_cong m' (fun j hj => ⟨put_n a m' x1 (by omega), put_n b m' x2 (by omega)⟩)]
    exact b1u_cong h2 k5
theorem CLs.nil7 {g r : FA} : CLs bnf 0 g 0 (zr0 r 8) := ⟨0, Nat.zero_le _, rfl, rfl, fun _ => 0, fun _ => 0, fun j hj => absurd hj (Nat.not_lt_zero j), fun k hk => if_pos hk⟩
theorem CLs.nil8 {g r : FA} : CLs bef 0 g 0 (zr0 r 8) := ⟨0, Nat.zero_le _, rfl, rfl, fun _ => 0, fun _ => 0, fun j hj => absurd hj (Nat.not_lt_zero j), fun k hk => if_pos hk⟩
/-- the class's lists, the reference's, the images' -/
def CT (B nc : Nat) (h : PH) (z : Nat → Int32) (f : Nat → FA) : Prop := ∀ i, i < 9 → FLD h (nc + (B + 2 * i)) 1 (z i) ∧ h[nc + (B + 1 + 2 * i)]? = some (eI (rmT i) (f i))
def MT2 (nm : Nat) (h : PH) (z : Nat → Int32) (f : Nat → FA) : Prop := (∀ q, q ∈ MZ → FLD h nm q (z q)) ∧ ∀ k N, (k, N) ∈ MKt → h[nm + k]? = some (eI N (f k))
/-- where an image keeps them -/
def pz (q : Nat) : Nat := match q with
  | 43 => 503
  | 46 => 504
  | 50 => 505
  | 52 => 506
  | 54 => 507
  | 57 => 508
  | 61 => 509
  | 63 => 510
  | _ => 511
def pk (k j : Nat) : Nat := match k with
  | 24 => 592 + j
  | 26 => 598 + j
  | 29 => 614 + 2 * j
  | 30 => 614 + 2 * j + 1
  | 31 => 644 + 5 * j
  | 33 => 644 + 5 * j + 1
  | 34 => 644 + 5 * j + 2
  | 37 => 644 + 5 * j + 3
  | 38 => 644 + 5 * j + 4
  | _ => 684 + j
def imz (X : FA) (q : Nat) : Int32 := X (pz q)
def imf (X : FA) (k j : Nat) : Int32 := X (pk k j)
theorem pz_lay : ∀ q, q ∈ MZ → pz q < 2439 ∧ layp (pz q) = (0, q) := by decide +kernel
theorem pk_lay : ∀ e, e ∈ MKt → ∀ j, j < e.2 → pk e.1 j < 2439 ∧ layp (pk e.1 j) = (e.1, j) := by decide +kernel
def TP (b nc nm : Nat) (h : PH) : Prop := (∃ zc fc zm fm, CT 12 nc h zc fc ∧ MT2 nm h zm fm ∧ TA zc fc zm fm) ∧ (b = 1 → ∃ zi fi N X, CT 41 nc h zi fi ∧ h[nm + 42]? = some (eI N X) ∧ TA zi fi (imz X) (imf X))
def FCt : List (Nat × Nat) := [(12, 1), (13, 999), (14, 1), (15, 999), (16, 1), (17, 999), (18, 1), (19, 999), (20, 1), (21, 999), (22, 1), (23, 999), (24, 1), (25, 999), (26, 1), (27, 999), (28, 1), (29, 999), (41, 1), (42, 999), (43, 1), (44, 999), (45, 1), (46, 999), (47, 1), (48, 999), (49, 1), (50, 999), (51, 1), (52, 999), (53, 1), (54, 999), (55, 1), (56, 999), (57, 1), (58, 999)]
def FRt : List (Nat × Nat) := [(0, 43), (0, 46), (0, 50), (0, 52), (0, 54), (0, 57), (0, 61), (0, 63), (0, 65), (24, 999), (26, 999), (29, 999), (30, 999), (31, 999), (33, 999), (34, 999), (36, 999), (37, 999), (38, 999), (42, 999)]
theorem FCt_12 : ∀ i, i < 9 → (12 + 2 * i, 1) ∈ FCt ∧ (12 + 1 + 2 * i, 999) ∈ FCt ∧ (41 + 2 * i, 1) ∈ FCt ∧ (41 + 1 + 2 * i, 999) ∈ FCt := by decide
theorem FRt_z : ∀ q, q ∈ MZ → (0, q) ∈ FRt := by decide
theorem FRt_k : ∀ e, e ∈ MKt → (e.1, 999) ∈ FRt := by decide
theorem TP_st : STB FCt FRt TP := by
  intro b nc nm h h' hP hc hr
  obtain ⟨⟨zc, fc, zm, fm, h1, h2, h3⟩, h4⟩ := hP
  refine ⟨⟨zc, fc, zm, fm, fun i hi => ⟨(hc _ (FCt_12 i hi).1).1 _ (h1 i hi).1, (hc _ (FCt_12 i hi).2.1).2 rfl _ _ (h1 i hi).2⟩, ⟨fun q hq => (hr _ (FRt_z q hq)).1 _ (h2.1 q hq), fun k N hk => (hr _ (FRt_k _ hk)).2 rfl _ _ (h2.2 k N hk)⟩, h3⟩, fun hb => ?_⟩
  obtain ⟨zi, fi, N, X, k1, k2, k3⟩ := h4 hb
  exact ⟨zi, fi, N, X, fun i hi => ⟨(hc _ (FCt_12 i hi).2.2.1).1 _ (k1 i hi).1, (hc _ (FCt_12 i hi).2.2.2).2 rfl _ _ (k1 i hi).2⟩, (hr (42, 999) (by decide)).2 rfl _ _ k2, k3⟩
