/-! THE PURE INTERPRETER. Methods as lists of entries (pc, op, a, b, v, targets); a heap L with labels from 0; the cell k of it lies at the label lb k. -/
abbrev PO : Type := Nat × Nat × Nat × Nat × Int32 × List Nat
def sv (lb : Nat → Nat) (v : PV) : PV := match v with
  | .inl x => .inl x
  | .inr (.inl none) => .inr (.inl none)
  | .inr (.inl (some k)) => .inr (.inl (some (lb k)))
  | .inr (.inr j) => .inr (.inr j)
abbrev QE (A : Type) : Type := ((Nat × Nat × A) ⊕ (Nat × Nat × (Nat → Option Nat))) ⊕ (Nat × List PV)
abbrev QH (A : Type) : Type := List (QE A)
def se {A : Type} (rd : A → Nat → Int32) (lb : Nat → Nat) (x : QE A) : PE := match x with
  | .inl (.inl a) => .inl (.inl (a.1, a.2.1, rd a.2.2))
  | .inl (.inr a) => .inl (.inr (a.1, a.2.1, fun j => (a.2.2 j).map lb))
  | .inr q => .inr (q.1, q.2.map (sv lb))
def sls (lb : Nat → Nat) (ls : List (Option PV)) : List (Option PV) := ls.map (fun o => o.map (sv lb))
theorem sls_get {lb : Nat → Nat} {i : Nat} {ls : List (Option PV)} {v : PV} (h : ls[i]? = some (some v)) : (sls lb ls)[i]? = some (some (sv lb v)) := by
  simp [sls, h]
theorem sls_set {lb : Nat → Nat} {i : Nat} {ls : List (Option PV)} {v : PV} : sls lb (ls.set i (some v)) = (sls lb ls).set i (some (sv lb v)) := by
  simp [sls, List.map_set]
/-- h holds the cells L at the labels lb, and is H elsewhere -/
def Rep {A : Type} (rd : A → Nat → Int32) (H : PH) (lb : Nat → Nat) (N : Nat) (L : QH A) (h : PH) : Prop := L.length = N ∧ (∀ k x, L[k]? = some x → h[lb k]? = some (se rd lb x)) ∧ h.length = H.length ∧ (∀ a, (∀ k, k < N → a ≠ lb k) → h[a]? = H[a]?)
def LbI (lb : Nat → Nat) (N : Nat) : Prop := ∀ i, i < N → ∀ j, j < N → lb i = lb j → i = j
theorem Rep.set {A : Type} {rd : A → Nat → Int32} {H h : PH} {L : QH A} {lb : Nat → Nat} {N k : Nat} {x y : QE A} (hi : LbI lb N) (hR : Rep rd H lb N L h) (hx : L[k]? = some x) : Rep rd H lb N (L.set k y) (h.set (lb k) (se rd lb y)) := by
  obtain ⟨h1, h2, h3, h4⟩ := hR
  have hk : k < N := by rw [← h1]; exact (List.getElem?_eq_some_iff.mp hx).1
  have hl : lb k < h.length := (List.getElem?_eq_some_iff.mp (h2 k x hx)).1
  refine ⟨by rw [List.length_set]; exact h1, fun k' x' hx' => ?_, by rw [List.length_set]; exact h3, fun a ha => ?_⟩
  · by_cases e : k = k'
    · subst e
      rw [List.getElem?_set_self (by rw [h1]; exact hk)] at hx'
      cases hx'
      exact List.getElem?_set_self hl
    · rw [List.getElem?_set_ne e] at hx'
      have hk' : k' < N := by rw [← h1]; exact (List.getElem?_eq_some_iff.mp hx').1
      rw [List.getElem?_set_ne (fun q => e (hi k hk k' hk' q))]
      exact h2 k' x' hx'
  · rw [List.getElem?_set_ne (fun q => ha k hk q.symm)]
    exact h4 a ha
noncomputable def nth {α : Type} (l : List α) : Nat → Option α := List.rec (motive := fun _ => Nat → Option α) (fun _ => none) (fun x _ ih k => Nat.rec (motive := fun _ => Option α) (some x) (fun j _ => ih j) k) l
theorem nth_eq {α : Type} (l : List α) : ∀ k, nth l k = l[k]? := by
  induction l with
  | nil => intro k; rfl
  | cons x t ih =>
    intro k
    cases k with
    | zero => rfl
    | succ j => rw [List.getElem?_cons_succ]; exact ih j
noncomputable def stl {α : Type} (l : List α) (v : α) : Nat → List α := List.rec (motive := fun _ => Nat → List α) (fun _ => []) (fun x t ih k => Nat.rec (motive := fun _ => List α) (v :: t) (fun j _ => x :: ih j) k) l
theorem stl_eq {α : Type} (l : List α) (v : α) : ∀ k, stl l v k = l.set k v := by
  induction l with
  | nil => intro k; rfl
  | cons x t ih =>
    intro k
    cases k with
    | zero => rfl
    | succ j => rw [List.set_cons_succ, ← ih j]; rfl
noncomputable def drp (k : Nat) (l : List PO) : List PO := Nat.rec (motive := fun _ => List PO → List PO) (fun l => l) (fun _ ih l => List.casesOn l [] (fun _ t => ih t)) k l
noncomputable def frN {α : Type} (n : Nat) (k : Nat → α) : α := Nat.rec (motive := fun _ => α) (k 0) (fun m _ => k (Nat.succ m)) n
theorem frN_eq {α : Type} (n : Nat) (k : Nat → α) : frN n k = k n := by cases n <;> rfl
theorem bif_some {α : Type} {c : Bool} {A : Option α} {y : α} (h : (bif c then A else none) = some y) : c = true ∧ A = some y := by
  cases c
  · cases h
  · exact ⟨rfl, h⟩
def pbin (a : Nat) (x y : Int32) : Int32 := match a with
  | 0 => x + y
  | 1 => x - y
  | 2 => x * y
  | 3 => x &&& y
  | 4 => x ||| y
  | 5 => x ^^^ y
  | 6 => x <<< (y &&& 31)
  | 7 => x >>> (y &&& 31)
  | _ => (x.toUInt32 >>> (y.toUInt32 &&& Int32.toUInt32 31)).toInt32
def ix (x : Int32) : Nat := x.toBitVec.toNat
def ky (x : Int32) : Nat := (x.toBitVec.toNat + 2147483648) % 4294967296
theorem ix_eq {x y : Int32} : x = y ↔ ix x = ix y := by
  constructor
  · intro h; rw [h]
  · intro h; exact Int32.toBitVec_inj.mp (BitVec.eq_of_toNat_eq h)
theorem ky_toInt (x : Int32) : x.toInt = (ky x : Int) - 2147483648 := by
  have h : x.toInt = x.toBitVec.toInt := rfl
  have hb : x.toBitVec.toNat < 4294967296 := x.toBitVec.isLt
  rw [h, BitVec.toInt_eq_toNat_cond, ky]
  split <;> omega
theorem ky_lt {x y : Int32} : x < y ↔ ky x < ky y := by
  rw [Int32.lt_iff_toInt_lt, ky_toInt, ky_toInt]
  omega
theorem ky_le {x y : Int32} : x ≤ y ↔ ky x ≤ ky y := by
  rw [Int32.le_iff_toInt_le, ky_toInt, ky_toInt]
  omega
def pcmp (b : Nat) (x y : Int32) : Bool := match b with
  | 0 => Nat.beq (ix x) (ix y)
  | 1 => !(Nat.beq (ix x) (ix y))
  | 2 => Nat.blt (ky x) (ky y)
  | 3 => Nat.ble (ky y) (ky x)
  | 4 => Nat.blt (ky y) (ky x)
  | _ => Nat.ble (ky x) (ky y)
theorem cmp_eq {x y : Int32} : pcmp 0 x y = decide (x = y) := by
  rw [Bool.eq_iff_iff, decide_eq_true_eq, ix_eq]; exact Eq.to_iff Nat.beq_eq
theorem cmp_ne {x y : Int32} : pcmp 1 x y = decide (¬ x = y) := by
  show (!(pcmp 0 x y)) = _
  rw [cmp_eq, decide_not]
theorem cmp_lt {x y : Int32} : pcmp 2 x y = decide (x < y) := by
  rw [Bool.eq_iff_iff, decide_eq_true_eq, ky_lt]; exact Eq.to_iff Nat.blt_eq
theorem cmp_ge {x y : Int32} : pcmp 3 x y = decide (y ≤ x) := by
  rw [Bool.eq_iff_iff, decide_eq_true_eq, ky_le]; exact Eq.to_iff Nat.ble_eq
theorem cmp_gt {x y : Int32} : pcmp 4 x y = decide (y < x) := by
  rw [Bool.eq_iff_iff, decide_eq_true_eq, ky_lt]; exact Eq.to_iff Nat.blt_eq
theorem cmp_le {x y : Int32} : pcmp 5 x y = decide (x ≤ y) := by
  rw [Bool.eq_iff_iff, decide_eq_true_eq, ky_le]; exact Eq.to_iff Nat.ble_eq
def pin (i : Int32) (N : Nat) : Bool := Nat.blt (ix i) 2147483648 && Nat.blt (ix i) N
theorem ix_clamp {i : Int32} (h : ix i < 2147483648) : i.toNatClampNeg = ix i := by
  have hk := ky_toInt i
  have e : ky i = ix i + 2147483648 := by
    show (ix i + 2147483648) % 4294967296 = _
    omega
  show i.toInt.toNat = _
  rw [hk, e]
  omega
theorem pin_ix {i : Int32} {N : Nat} (h : pin i N = true) : i.toNatClampNeg = ix i := by
  simp only [pin, Bool.and_eq_true, Nat.blt_eq] at h
  exact ix_clamp h.1
theorem pin_ok {i : Int32} {N : Nat} (h : pin i N = true) : vp_in i N := by
  have e := pin_ix h
  simp only [pin, Bool.and_eq_true, Nat.blt_eq] at h
  rintro (q | q)
  · rw [ky_lt] at q
    have e1 : ky i = ix i + 2147483648 := by
      show (ix i + 2147483648) % 4294967296 = _
      omega
    have e2 : ky 0 = 2147483648 := by decide
    omega
  · omega
def hd0 (l : List Nat) : Nat := match l with
  | [] => 0
  | x :: _ => x
abbrev QT (A : Type) : Type := Option (Option PV × QH A)
abbrev QK (A : Type) : Type := Nat → List (Option PV) → List PV → QH A → QT A
abbrev QF (A : Type) : Type := QK A → List (Option PV) → List PV → QH A → QT A
abbrev QC (A : Type) : Type := Nat → List PV → QH A → QT A
abbrev QZ (A : Type) : Type := Int32 → (Int32 → QT A) → QT A
noncomputable def p_iload {A : Type} (ih : QK A) (a : Nat) (t : Nat) (ls : List (Option PV)) (st : List PV) (L : QH A) : QT A := match nth ls a with
  | some (some (.inl x)) => ih t ls (.inl x :: st) L
  | _ => none
noncomputable def p_aload {A : Type} (ih : QK A) (a : Nat) (t : Nat) (ls : List (Option PV)) (st : List PV) (L : QH A) : QT A := match nth ls a with
  | some (some (.inr (.inl x))) => ih t ls (.inr (.inl x) :: st) L
  | _ => none
noncomputable def p_istore {A : Type} (ih : QK A) (a : Nat) (t : Nat) (ls : List (Option PV)) (st : List PV) (L : QH A) : QT A := match st with
  | .inl x :: st' => ih t (stl ls (some (.inl x)) a) st' L
  | _ => none
noncomputable def p_astore {A : Type} (ih : QK A) (a : Nat) (t : Nat) (ls : List (Option PV)) (st : List PV) (L : QH A) : QT A := match st with
  | .inr (.inl x) :: st' => ih t (stl ls (some (.inr (.inl x))) a) st' L
  | _ => none
noncomputable def p_iinc {A : Type} (ih : QK A) (fz : QZ A) (a : Nat) (v : Int32) (t : Nat) (ls : List (Option PV)) (st : List PV) (L : QH A) : QT A := match nth ls a with
  | some (some (.inl x)) => fz (x + v) (fun y => ih t (stl ls (some (.inl y)) a) st L)
  | _ => none
def p_bin {A : Type} (ih : QK A) (fz : QZ A) (a : Nat) (t : Nat) (ls : List (Option PV)) (st : List PV) (L : QH A) : QT A := match st with
  | .inl y :: .inl x :: st' => fz (pbin a x y) (fun z => ih t ls (.inl z :: st') L)
  | _ => none
def p_div {A : Type} (ih : QK A) (fz : QZ A) (t : Nat) (ls : List (Option PV)) (st : List PV) (L : QH A) : QT A := match st with
  | .inl y :: .inl x :: st' => bif pcmp 1 y 0 then fz (x / y) (fun z => ih t ls (.inl z :: st') L) else none
  | _ => none
def p_rem {A : Type} (ih : QK A) (fz : QZ A) (t : Nat) (ls : List (Option PV)) (st : List PV) (L : QH A) : QT A := match st with
  | .inl y :: .inl x :: st' => bif pcmp 1 y 0 then fz (x - x / y * y) (fun z => ih t ls (.inl z :: st') L) else none
  | _ => none
def p_neg {A : Type} (ih : QK A) (fz : QZ A) (t : Nat) (ls : List (Option PV)) (st : List PV) (L : QH A) : QT A := match st with
  | .inl x :: st' => fz (-x) (fun z => ih t ls (.inl z :: st') L)
  | _ => none
def p_dup {A : Type} (ih : QK A) (t : Nat) (ls : List (Option PV)) (st : List PV) (L : QH A) : QT A := match st with
  | z :: st' => ih t ls (z :: z :: st') L
  | _ => none
def p_pop {A : Type} (ih : QK A) (t : Nat) (ls : List (Option PV)) (st : List PV) (L : QH A) : QT A := match st with
  | _ :: st' => ih t ls st' L
  | _ => none
def p_dup2 {A : Type} (ih : QK A) (t : Nat) (ls : List (Option PV)) (st : List PV) (L : QH A) : QT A := match st with
  | z :: w :: st' => ih t ls (z :: w :: z :: w :: st') L
  | _ => none
noncomputable def p_if0 {A : Type} (ih : QK A) (a b : Nat) (t : Nat) (ls : List (Option PV)) (st : List PV) (L : QH A) : QT A := match st with
  | .inl x :: st' => bif pcmp b x 0 then ih a ls st' L else ih t ls st' L
  | _ => none
noncomputable def p_icmp {A : Type} (ih : QK A) (a b : Nat) (t : Nat) (ls : List (Option PV)) (st : List PV) (L : QH A) : QT A := match st with
  | .inl y :: .inl x :: st' => bif pcmp b x y then ih a ls st' L else ih t ls st' L
  | _ => none
noncomputable def p_get {A : Type} (ih : QK A) (a b : Nat) (t : Nat) (ls : List (Option PV)) (st : List PV) (L : QH A) : QT A := match st with
  | .inr (.inl (some x)) :: st' => match nth L x with
    | some (.inr (c', fs)) => match nth fs b with
      | some z => bif Nat.beq c' a then ih t ls (z :: st') L else none
      | none => none
    | _ => none
  | _ => none
noncomputable def p_put {A : Type} (ih : QK A) (a b : Nat) (v : Int32) (t : Nat) (ls : List (Option PV)) (st : List PV) (L : QH A) : QT A := match st with
  | .inl z :: .inr (.inl (some x)) :: st' => match nth L x with
    | some (.inr (c', fs)) => bif (Nat.beq c' a && (Nat.blt b fs.length && (pcmp 0 v 0 || (pcmp 0 z 0 || pcmp 0 z 1)))) then ih t ls st' (stl L (.inr (c', stl fs (.inl z) b)) x) else none
    | _ => none
  | _ => none
noncomputable def p_iald {A : Type} (ih : QK A) (rd : A → Nat → Int32) (fz : QZ A) (t : Nat) (ls : List (Option PV)) (st : List PV) (L : QH A) : QT A := match st with
  | .inl i :: .inr (.inl (some x)) :: st' => match nth L x with
    | some (.inl (.inl (q, N, f))) => bif (Nat.beq q 0 && pin i N) then fz (rd f (ix i)) (fun z => ih t ls (.inl z :: st') L) else none
    | _ => none
  | .inl i :: .inr (.inr j) :: st' => bif (Nat.blt j 3 && pin i (sN j)) then fz (sF j (ix i)) (fun z => ih t ls (.inl z :: st') L) else none
  | _ => none
noncomputable def p_iast {A : Type} (ih : QK A) (wr : A → Nat → Int32 → A) (t : Nat) (ls : List (Option PV)) (st : List PV) (L : QH A) : QT A := match st with
  | .inl z :: .inl i :: .inr (.inl (some x)) :: st' => match nth L x with
    | some (.inl (.inl (q, N, f))) => bif (Nat.beq q 0 && pin i N) then ih t ls st' (stl L (.inl (.inl (q, N, wr f (ix i) z))) x) else none
    | _ => none
  | _ => none
noncomputable def p_alen {A : Type} (ih : QK A) (t : Nat) (ls : List (Option PV)) (st : List PV) (L : QH A) : QT A := match st with
  | .inr (.inl (some x)) :: st' => match nth L x with
    | some (.inl (.inl (q, N, _))) => bif Nat.beq q 0 then ih t ls (.inl (Int32.ofNat N) :: st') L else none
    | _ => none
  | .inr (.inr j) :: st' => bif Nat.blt j 3 then ih t ls (.inl (Int32.ofNat (sN j)) :: st') L else none
  | _ => none
noncomputable def p_aald {A : Type} (ih : QK A) (t : Nat) (ls : List (Option PV)) (st : List PV) (L : QH A) : QT A := match st with
  | .inl i :: .inr (.inl (some x)) :: st' => match nth L x with
    | some (.inl (.inr (q, N, f))) => bif ((Nat.beq q 1 || (Nat.beq q 2 || Nat.beq q 3)) && pin i N) then ih t ls (.inr (.inl (f (ix i))) :: st') L else none
    | _ => none
  | _ => none
noncomputable def p_callS {A : Type} (ih : QK A) (call : QC A) (a b : Nat) (t : Nat) (ls : List (Option PV)) (st : List PV) (L : QH A) : QT A :=
  bif (Nat.ble b st.length && Nat.ble (st.drop b).length 8) then
    match call a (st.take b).reverse L with
    | some (r, L') => ih t ls (r.toList ++ st.drop b) L'
    | none => none
  else none
noncomputable def p_callV {A : Type} (ih : QK A) (call : QC A) (a b : Nat) (v : Nat) (t : Nat) (ls : List (Option PV)) (st : List PV) (L : QH A) : QT A := match st.drop b with
  | .inr (.inl (some x)) :: st' => match nth L x with
    | some (.inr (c', _)) => bif (Nat.beq c' v && (Nat.ble b st.length && Nat.ble st'.length 8)) then
        match call a (.inr (.inl (some x)) :: (st.take b).reverse) L with
        | some (r, L') => ih t ls (r.toList ++ st') L'
        | none => none
      else none
    | _ => none
  | _ => none
def p_max {A : Type} (ih : QK A) (t : Nat) (ls : List (Option PV)) (st : List PV) (L : QH A) : QT A := match st with
  | .inl y :: .inl x :: st' => bif Nat.ble st'.length 8 then (bif pcmp 2 x y then ih t ls (.inl y :: st') L else ih t ls (.inl x :: st') L) else none
  | _ => none
def p_min {A : Type} (ih : QK A) (t : Nat) (ls : List (Option PV)) (st : List PV) (L : QH A) : QT A := match st with
  | .inl y :: .inl x :: st' => bif Nat.ble st'.length 8 then (bif pcmp 2 y x then ih t ls (.inl y :: st') L else ih t ls (.inl x :: st') L) else none
  | _ => none
def p_abs {A : Type} (ih : QK A) (fz : QZ A) (t : Nat) (ls : List (Option PV)) (st : List PV) (L : QH A) : QT A := match st with
  | .inl x :: st' => bif Nat.ble st'.length 8 then (bif pcmp 3 x 0 then ih t ls (.inl x :: st') L else fz (0 - x) (fun z => ih t ls (.inl z :: st') L)) else none
  | _ => none
def p_iret {A : Type} (st : List PV) (L : QH A) : QT A := match st with
  | [.inl z] => some (some (.inl z), L)
  | _ => none
def p_zret {A : Type} (st : List PV) (L : QH A) : QT A := match st with
  | [.inl z] => bif (pcmp 0 z 0 || pcmp 0 z 1) then some (some (.inl z), L) else none
  | _ => none
def p_vret {A : Type} (st : List PV) (L : QH A) : QT A := match st with
  | [] => some (none, L)
  | _ => none
noncomputable def p_tab {A : Type} (ih : QK A) (a b : Nat) (tg : List Nat) (ls : List (Option PV)) (st : List PV) (L : QH A) : QT A := match st with
  | .inl x :: st' => bif (decide (x.toInt < (a : Int)) || decide ((b : Int) < x.toInt)) then (match nth tg 0 with
      | some k => ih k ls st' L
      | none => none)
    else (match nth tg ((x.toInt - (a : Int)).toNat + 1) with
      | some k => ih k ls st' L
      | none => none)
  | _ => none
noncomputable def clo {A : Type} (rd : A → Nat → Int32) (wr : A → Nat → Int32 → A) (fz : QZ A) (call : QC A) (op a b : Nat) (v : Int32) (tg : List Nat) (t : Nat) : QF A := match op with
  | 0 => fun ih ls st L => p_iload ih a t ls st L
  | 1 => fun ih ls st L => p_aload ih a t ls st L
  | 2 => fun ih ls st L => ih t ls (.inl v :: st) L
  | 3 => fun ih ls st L => p_get ih a b t ls st L
  | 4 => fun ih ls st L => p_icmp ih a b t ls st L
  | 5 => fun ih ls st L => p_iald ih rd fz t ls st L
  | 6 => fun ih ls st L => p_bin ih fz a t ls st L
  | 7 => fun ih ls st L => p_istore ih a t ls st L
  | 8 => fun ih ls st L => p_iinc ih fz a v t ls st L
  | 9 => fun ih ls st L => ih a ls st L
  | 10 => fun ih ls st L => p_if0 ih a b t ls st L
  | 11 => fun ih ls st L => p_iast ih wr t ls st L
  | 12 => fun ih ls st L => p_callV ih call a b (hd0 tg) t ls st L
  | 13 => fun ih ls st L => p_callS ih call a b t ls st L
  | 14 => fun ih ls st L => p_iret st L
  | 15 => fun ih ls st L => p_zret st L
  | 16 => fun ih ls st L => p_vret st L
  | 17 => fun ih ls st L => p_div ih fz t ls st L
  | 18 => fun ih ls st L => p_rem ih fz t ls st L
  | 19 => fun ih ls st L => p_put ih a b v t ls st L
  | 20 => fun ih ls st L => p_neg ih fz t ls st L
  | 21 => fun ih ls st L => p_dup ih t ls st L
  | 22 => fun ih ls st L => p_dup2 ih t ls st L
  | 23 => fun ih ls st L => p_pop ih t ls st L
  | 24 => fun ih ls st L => p_alen ih t ls st L
  | 25 => fun ih ls st L => p_aald ih t ls st L
  | 26 => fun ih ls st L => ih t ls (.inr (.inr a) :: st) L
  | 27 => fun ih ls st L => p_max ih t ls st L
  | 28 => fun ih ls st L => p_min ih t ls st L
  | 29 => fun ih ls st L => p_abs ih fz t ls st L
  | 30 => fun ih ls st L => p_tab ih a b tg ls st L
  | 31 => fun ih ls st L => p_astore ih a t ls st L
  | _ => fun ih ls st L => none
noncomputable def mkc {A : Type} (rd : A → Nat → Int32) (wr : A → Nat → Int32 → A) (fz : QZ A) (call : QC A) (c : List PO) (i : Nat) : List (QF A) := match c with
  | [] => []
  | (_, op, a, b, v, tg) :: t => clo rd wr fz call op a b v tg (i + 1) :: mkc rd wr fz call t (i + 1)
theorem mkc_nth {A : Type} {rd : A → Nat → Int32} {wr : A → Nat → Int32 → A} {fz : QZ A} {call : QC A} : ∀ (c : List PO) (i k : Nat) (f : QF A), nth (mkc rd wr fz call c i) k = some f → ∃ pc op a b v tg, nth c k = some (pc, op, a, b, v, tg) ∧ f = clo rd wr fz call op a b v tg (i + k + 1) := by
  intro c
  induction c with
  | nil => intro i k f h; cases h
  | cons e t ih =>
    intro i k f h
    obtain ⟨pc, op, a, b, v, tg⟩ := e
    cases k with
    | zero =>
      cases h
      exact ⟨pc, op, a, b, v, tg, rfl, rfl⟩
    | succ k =>
      obtain ⟨pc', op', a', b', v', tg', h1, h2⟩ := ih (i + 1) k f h
      exact ⟨pc', op', a', b', v', tg', h1, by rw [h2, show i + 1 + k + 1 = i + (k + 1) + 1 by omega]⟩
noncomputable def run {A : Type} (code : List (QF A)) (F : Nat) : QK A := Nat.rec (motive := fun _ => QK A) (fun _ _ _ _ => none) (fun _ ih i ls st L => match nth code i with
  | some f => f ih ls st L
  | none => none) F

def tX11_order : List PO := [(0, 1, 0, 0, 0, []), (1, 3, 11, 9, 0, []), (4, 1, 0, 0, 0, []), (5, 3, 11, 0, 0, []), (8, 3, 10, 3, 0, []), (11, 2, 0, 0, 8, []), (13, 25, 0, 0, 0, []), (14, 12, 1, 1, 0, [4]), (17, 14, 0, 0, 0, [])]
def tX4_rowsOfAll : List PO := [(0, 1, 0, 0, 0, []), (1, 3, 4, 1, 0, []), (4, 2, 0, 0, 0, []), (5, 13, 2, 2, 0, []), (8, 2, 0, 0, 0, []), (9, 7, 2, 0, 0, []), (10, 0, 2, 0, 0, []), (11, 1, 1, 0, 0, []), (12, 3, 9, 1, 0, []), (15, 4, 37, 3, 0, []), (18, 1, 1, 0, 0, []), (19, 0, 2, 0, 0, []), (20, 12, 3, 1, 0, [9]), (23, 2, 0, 0, 256, []), (26, 18, 0, 0, 0, []), (27, 7, 3, 0, 0, []), (28, 0, 3, 0, 0, []), (29, 10, 35, 2, 0, []), (32, 0, 3, 0, 0, []), (33, 2, 0, 0, 8, []), (35, 4, 35, 3, 0, []), (38, 1, 0, 0, 0, []), (39, 3, 4, 1, 0, []), (42, 0, 3, 0, 0, []), (43, 22, 0, 0, 0, []), (44, 5, 0, 0, 0, []), (45, 2, 0, 0, 1, []), (46, 1, 1, 0, 0, []), (47, 0, 2, 0, 0, []), (48, 12, 3, 1, 0, [9]), (51, 2, 0, 0, 256, []), (54, 17, 0, 0, 0, []), (55, 6, 6, 0, 0, []), (56, 6, 4, 0, 0, []), (57, 11, 0, 0, 0, []), (58, 8, 2, 0, 1, []), (61, 9, 6, 0, 0, []), (64, 1, 0, 0, 0, []), (65, 3, 4, 0, 0, []), (68, 2, 0, 0, 0, []), (69, 13, 2, 2, 0, []), (72, 1, 0, 0, 0, []), (73, 3, 4, 0, 0, []), (76, 2, 0, 0, 0, []), (77, 2, 0, 0, 1, []), (78, 11, 0, 0, 0, []), (79, 2, 0, 0, 255, []), (82, 7, 2, 0, 0, []), (83, 2, 0, 0, 0, []), (84, 7, 3, 0, 0, []), (85, 0, 3, 0, 0, []), (86, 0, 2, 0, 0, []), (87, 4, 92, 3, 0, []), (90, 2, 0, 0, 0, []), (91, 7, 4, 0, 0, []), (93, 0, 4, 0, 0, []), (95, 2, 0, 0, 8, []), (97, 4, 90, 3, 0, []), (100, 0, 3, 0, 0, []), (101, 0, 4, 0, 0, []), (103, 6, 7, 0, 0, []), (104, 2, 0, 0, 1, []), (105, 6, 3, 0, 0, []), (106, 10, 88, 1, 0, []), (109, 1, 0, 0, 0, []), (110, 3, 4, 1, 0, []), (113, 0, 4, 0, 0, []), (115, 5, 0, 0, 0, []), (116, 0, 3, 0, 0, []), (117, 2, 0, 0, (-1), []), (118, 6, 5, 0, 0, []), (119, 6, 3, 0, 0, []), (120, 10, 88, 1, 0, []), (123, 1, 0, 0, 0, []), (124, 3, 4, 0, 0, []), (127, 0, 3, 0, 0, []), (128, 2, 0, 0, 1, []), (129, 0, 4, 0, 0, []), (131, 6, 6, 0, 0, []), (132, 6, 4, 0, 0, []), (133, 22, 0, 0, 0, []), (134, 5, 0, 0, 0, []), (135, 1, 0, 0, 0, []), (136, 3, 4, 0, 0, []), (139, 0, 3, 0, 0, []), (140, 5, 0, 0, 0, []), (141, 6, 0, 0, 0, []), (142, 11, 0, 0, 0, []), (143, 8, 4, 0, 1, []), (146, 9, 55, 0, 0, []), (149, 8, 3, 0, 1, []), (152, 9, 50, 0, 0, []), (155, 1, 0, 0, 0, []), (156, 3, 4, 0, 0, []), (159, 0, 2, 0, 0, []), (160, 5, 0, 0, 0, []), (161, 14, 0, 0, 0, [])]
def tJ7_fill_53178 : List PO := [(0, 2, 0, 0, 0, []), (1, 7, 2, 0, 0, []), (2, 1, 0, 0, 0, []), (3, 24, 0, 0, 0, []), (4, 7, 3, 0, 0, []), (5, 0, 2, 0, 0, []), (6, 0, 3, 0, 0, []), (7, 4, 14, 3, 0, []), (10, 1, 0, 0, 0, []), (11, 0, 2, 0, 0, []), (12, 0, 1, 0, 0, []), (13, 11, 0, 0, 0, []), (14, 8, 2, 0, 1, []), (17, 9, 5, 0, 0, []), (20, 16, 0, 0, 0, [])]
def tX9_item : List PO := [(0, 0, 1, 0, 0, []), (1, 10, 16, 2, 0, []), (4, 0, 1, 0, 0, []), (5, 1, 0, 0, 0, []), (6, 3, 9, 1, 0, []), (9, 4, 16, 3, 0, []), (12, 0, 1, 0, 0, []), (13, 1, 0, 0, 0, []), (14, 3, 9, 0, 0, []), (17, 24, 0, 0, 0, []), (18, 4, 16, 3, 0, []), (21, 1, 0, 0, 0, []), (22, 3, 9, 0, 0, []), (25, 0, 1, 0, 0, []), (26, 5, 0, 0, 0, []), (27, 9, 17, 0, 0, []), (30, 2, 0, 0, 0, []), (31, 14, 0, 0, 0, [])]
def tX11_wax : List PO := [(0, 0, 1, 0, 0, []), (1, 30, 0, 9, 0, [59, 2, 6, 10, 17, 24, 31, 42, 49, 49, 49]), (56, 1, 0, 0, 0, []), (57, 3, 11, 6, 0, []), (60, 12, 5, 0, 0, [1]), (63, 14, 0, 0, 0, []), (64, 1, 0, 0, 0, []), (65, 3, 11, 6, 0, []), (68, 12, 23, 0, 0, [1]), (71, 14, 0, 0, 0, []), (72, 1, 0, 0, 0, []), (73, 3, 11, 8, 0, []), (76, 1, 0, 0, 0, []), (77, 3, 11, 0, 0, []), (80, 3, 10, 0, 0, []), (83, 12, 24, 1, 0, [6]), (86, 14, 0, 0, 0, []), (87, 1, 0, 0, 0, []), (88, 3, 11, 8, 0, []), (91, 1, 0, 0, 0, []), (92, 3, 11, 0, 0, []), (95, 3, 10, 0, 0, []), (98, 12, 29, 1, 0, [6]), (101, 14, 0, 0, 0, []), (102, 1, 0, 0, 0, []), (103, 3, 11, 8, 0, []), (106, 1, 0, 0, 0, []), (107, 3, 11, 0, 0, []), (110, 3, 10, 0, 0, []), (113, 12, 30, 1, 0, [6]), (116, 14, 0, 0, 0, []), (117, 1, 0, 0, 0, []), (118, 3, 11, 8, 0, []), (121, 1, 0, 0, 0, []), (122, 3, 11, 0, 0, []), (125, 3, 10, 0, 0, []), (128, 12, 31, 1, 0, [6]), (131, 10, 40, 1, 0, []), (134, 2, 0, 0, 1, []), (135, 9, 41, 0, 0, []), (138, 2, 0, 0, 0, []), (139, 14, 0, 0, 0, []), (140, 1, 0, 0, 0, []), (141, 3, 11, 8, 0, []), (144, 1, 0, 0, 0, []), (145, 3, 11, 0, 0, []), (148, 3, 10, 0, 0, []), (151, 12, 31, 1, 0, [6]), (154, 14, 0, 0, 0, []), (155, 1, 0, 0, 0, []), (156, 3, 11, 8, 0, []), (159, 1, 0, 0, 0, []), (160, 3, 11, 0, 0, []), (163, 3, 10, 0, 0, []), (166, 0, 1, 0, 0, []), (167, 2, 0, 0, 7, []), (169, 6, 1, 0, 0, []), (170, 12, 32, 2, 0, [6]), (173, 14, 0, 0, 0, []), (174, 2, 0, 0, (-100000), []), (176, 14, 0, 0, 0, [])]
def tX1_sum : List PO := [(0, 2, 0, 0, 0, []), (1, 7, 1, 0, 0, []), (2, 2, 0, 0, 0, []), (3, 7, 2, 0, 0, []), (4, 0, 2, 0, 0, []), (5, 2, 0, 0, 144, []), (8, 4, 25, 3, 0, []), (11, 1, 0, 0, 0, []), (12, 3, 1, 0, 0, []), (15, 0, 2, 0, 0, []), (16, 12, 6, 1, 0, [0]), (19, 10, 23, 0, 0, []), (22, 0, 1, 0, 0, []), (23, 1, 0, 0, 0, []), (24, 3, 1, 0, 0, []), (27, 0, 2, 0, 0, []), (28, 12, 7, 1, 0, [0]), (31, 1, 0, 0, 0, []), (32, 0, 2, 0, 0, []), (33, 12, 10, 1, 0, [1]), (36, 6, 2, 0, 0, []), (37, 6, 0, 0, 0, []), (38, 7, 1, 0, 0, []), (39, 8, 2, 0, 1, []), (42, 9, 4, 0, 0, []), (45, 0, 1, 0, 0, []), (46, 14, 0, 0, 0, [])]
def tX0_marked : List PO := [(0, 0, 1, 0, 0, []), (1, 10, 12, 2, 0, []), (4, 0, 1, 0, 0, []), (5, 2, 0, 0, 144, []), (8, 4, 12, 3, 0, []), (11, 1, 0, 0, 0, []), (12, 3, 0, 1, 0, []), (15, 0, 1, 0, 0, []), (16, 5, 0, 0, 0, []), (17, 10, 12, 0, 0, []), (20, 2, 0, 0, 1, []), (21, 9, 13, 0, 0, []), (24, 2, 0, 0, 0, []), (25, 15, 0, 0, 0, [])]
def tX0_way : List PO := [(0, 1, 0, 0, 0, []), (1, 0, 1, 0, 0, []), (2, 12, 8, 1, 0, [0]), (5, 2, 0, 0, 0, []), (6, 13, 9, 2, 0, []), (9, 14, 0, 0, 0, [])]
def tX0_mark : List PO := [(0, 0, 1, 0, 0, []), (1, 10, 10, 2, 0, []), (4, 0, 1, 0, 0, []), (5, 2, 0, 0, 144, []), (8, 4, 10, 3, 0, []), (11, 1, 0, 0, 0, []), (12, 3, 0, 1, 0, []), (15, 0, 1, 0, 0, []), (16, 5, 0, 0, 0, []), (17, 9, 11, 0, 0, []), (20, 2, 0, 0, 0, []), (21, 14, 0, 0, 0, [])]
def tJ6_compare_7cf53 : List PO := [(0, 0, 0, 0, 0, []), (1, 0, 1, 0, 0, []), (2, 4, 5, 3, 0, []), (5, 2, 0, 0, (-1), []), (6, 9, 11, 0, 0, []), (9, 0, 0, 0, 0, []), (10, 0, 1, 0, 0, []), (11, 4, 10, 1, 0, []), (14, 2, 0, 0, 0, []), (15, 9, 11, 0, 0, []), (18, 2, 0, 0, 1, []), (19, 14, 0, 0, 0, [])]
def tX1_weighs : List PO := [(0, 1, 0, 0, 0, []), (1, 1, 0, 0, 0, []), (2, 3, 1, 0, 0, []), (5, 0, 1, 0, 0, []), (6, 12, 11, 1, 0, [0]), (9, 0, 1, 0, 0, []), (10, 12, 12, 2, 0, [1]), (13, 1, 0, 0, 0, []), (14, 3, 1, 1, 0, []), (17, 2, 0, 0, 0, []), (18, 25, 0, 0, 0, []), (19, 2, 0, 0, 302, []), (22, 1, 0, 0, 0, []), (23, 3, 1, 0, 0, []), (26, 0, 1, 0, 0, []), (27, 12, 15, 1, 0, [0]), (30, 1, 0, 0, 0, []), (31, 3, 1, 3, 0, []), (34, 1, 0, 0, 0, []), (35, 3, 1, 4, 0, []), (38, 12, 17, 4, 0, [8]), (41, 2, 0, 0, 99, []), (43, 13, 22, 2, 0, []), (46, 14, 0, 0, 0, [])]
def tX0_owner : List PO := [(0, 1, 0, 0, 0, []), (1, 0, 1, 0, 0, []), (2, 12, 8, 1, 0, [0]), (5, 7, 2, 0, 0, []), (6, 0, 2, 0, 0, []), (7, 10, 8, 1, 0, []), (10, 2, 0, 0, (-1), []), (11, 9, 12, 0, 0, []), (14, 0, 2, 0, 0, []), (15, 29, 0, 0, 0, []), (18, 2, 0, 0, 4, []), (19, 6, 7, 0, 0, []), (20, 14, 0, 0, 0, [])]
def tX1_layValues : List PO := [(0, 0, 2, 0, 0, []), (1, 2, 0, 0, (-1), []), (2, 4, 5, 0, 0, []), (5, 2, 0, 0, 1, []), (6, 9, 6, 0, 0, []), (9, 2, 0, 0, 0, []), (10, 7, 3, 0, 0, []), (11, 1, 0, 0, 0, []), (12, 3, 1, 3, 0, []), (15, 2, 0, 0, 0, []), (16, 0, 3, 0, 0, []), (17, 10, 17, 0, 0, []), (20, 1, 0, 0, 0, []), (21, 3, 1, 0, 0, []), (24, 0, 2, 0, 0, []), (25, 12, 7, 1, 0, [0]), (28, 9, 22, 0, 0, []), (31, 1, 0, 0, 0, []), (32, 3, 1, 0, 0, []), (35, 0, 1, 0, 0, []), (36, 2, 0, 0, 1, []), (37, 12, 13, 2, 0, [0]), (40, 11, 0, 0, 0, []), (41, 1, 0, 0, 0, []), (42, 3, 1, 3, 0, []), (45, 2, 0, 0, 1, []), (46, 1, 0, 0, 0, []), (47, 3, 1, 0, 0, []), (50, 0, 1, 0, 0, []), (51, 2, 0, 0, 3, []), (52, 12, 13, 2, 0, [0]), (55, 11, 0, 0, 0, []), (56, 1, 0, 0, 0, []), (57, 3, 1, 3, 0, []), (60, 2, 0, 0, 2, []), (61, 1, 0, 0, 0, []), (62, 3, 1, 0, 0, []), (65, 0, 1, 0, 0, []), (66, 2, 0, 0, 2, []), (67, 12, 13, 2, 0, [0]), (70, 11, 0, 0, 0, []), (71, 1, 0, 0, 0, []), (72, 3, 1, 3, 0, []), (75, 2, 0, 0, 3, []), (76, 0, 3, 0, 0, []), (77, 10, 51, 0, 0, []), (80, 1, 0, 0, 0, []), (81, 3, 1, 0, 0, []), (84, 0, 2, 0, 0, []), (85, 12, 15, 1, 0, [0]), (88, 9, 52, 0, 0, []), (91, 2, 0, 0, 0, []), (92, 11, 0, 0, 0, []), (93, 1, 0, 0, 0, []), (94, 3, 1, 3, 0, []), (97, 2, 0, 0, 4, []), (98, 1, 0, 0, 0, []), (99, 3, 1, 0, 0, []), (102, 3, 0, 3, 0, []), (105, 11, 0, 0, 0, []), (106, 1, 0, 0, 0, []), (107, 3, 1, 3, 0, []), (110, 2, 0, 0, 5, []), (111, 1, 0, 0, 0, []), (112, 3, 1, 0, 0, []), (115, 3, 0, 4, 0, []), (118, 11, 0, 0, 0, []), (119, 1, 0, 0, 0, []), (120, 3, 1, 3, 0, []), (123, 2, 0, 0, 6, []), (125, 0, 3, 0, 0, []), (126, 10, 76, 0, 0, []), (129, 0, 2, 0, 0, []), (130, 2, 0, 0, 12, []), (132, 17, 0, 0, 0, []), (133, 9, 77, 0, 0, []), (136, 2, 0, 0, 0, []), (137, 11, 0, 0, 0, []), (138, 1, 0, 0, 0, []), (139, 3, 1, 3, 0, []), (142, 2, 0, 0, 7, []), (144, 0, 3, 0, 0, []), (145, 10, 88, 0, 0, []), (148, 1, 0, 0, 0, []), (149, 3, 1, 0, 0, []), (152, 0, 2, 0, 0, []), (153, 12, 16, 1, 0, [0]), (156, 9, 89, 0, 0, []), (159, 2, 0, 0, 0, []), (160, 11, 0, 0, 0, []), (161, 1, 0, 0, 0, []), (162, 3, 1, 3, 0, []), (165, 2, 0, 0, 8, []), (167, 1, 0, 0, 0, []), (168, 3, 1, 0, 0, []), (171, 0, 1, 0, 0, []), (172, 2, 0, 0, 5, []), (173, 12, 13, 2, 0, [0]), (176, 11, 0, 0, 0, []), (177, 1, 0, 0, 0, []), (178, 3, 1, 3, 0, []), (181, 2, 0, 0, 9, []), (183, 1, 0, 0, 0, []), (184, 3, 1, 0, 0, []), (187, 3, 0, 5, 0, []), (190, 11, 0, 0, 0, []), (191, 16, 0, 0, 0, [])]
def tX0_trait : List PO := [(0, 1, 0, 0, 0, []), (1, 0, 1, 0, 0, []), (2, 12, 14, 1, 0, [0]), (5, 10, 11, 0, 0, []), (8, 0, 2, 0, 0, []), (9, 10, 11, 2, 0, []), (12, 0, 2, 0, 0, []), (13, 2, 0, 0, 6, []), (15, 4, 11, 3, 0, []), (18, 2, 0, 0, 1, []), (19, 9, 12, 0, 0, []), (22, 2, 0, 0, 0, []), (23, 7, 3, 0, 0, []), (24, 0, 3, 0, 0, []), (25, 10, 24, 0, 0, []), (28, 1, 0, 0, 0, []), (29, 3, 0, 0, 0, []), (32, 0, 2, 0, 0, []), (33, 2, 0, 0, 20, []), (35, 6, 2, 0, 0, []), (36, 0, 1, 0, 0, []), (37, 6, 0, 0, 0, []), (38, 5, 0, 0, 0, []), (39, 9, 25, 0, 0, []), (42, 2, 0, 0, 0, []), (43, 14, 0, 0, 0, [])]
def tX0_has : List PO := [(0, 0, 1, 0, 0, []), (1, 10, 11, 2, 0, []), (4, 0, 1, 0, 0, []), (5, 1, 0, 0, 0, []), (6, 3, 0, 2, 0, []), (9, 4, 11, 3, 0, []), (12, 0, 1, 0, 0, []), (13, 2, 0, 0, 20, []), (15, 4, 11, 3, 0, []), (18, 2, 0, 0, 1, []), (19, 9, 12, 0, 0, []), (22, 2, 0, 0, 0, []), (23, 15, 0, 0, 0, [])]
def tX0_depth : List PO := [(0, 1, 0, 0, 0, []), (1, 0, 1, 0, 0, []), (2, 12, 8, 1, 0, [0]), (5, 29, 0, 0, 0, []), (8, 2, 0, 0, 15, []), (10, 6, 3, 0, 0, []), (11, 14, 0, 0, 0, [])]
def tX0_besides : List PO := [(0, 0, 1, 0, 0, []), (1, 2, 0, 0, 12, []), (3, 18, 0, 0, 0, []), (4, 7, 2, 0, 0, []), (5, 1, 0, 0, 0, []), (6, 0, 1, 0, 0, []), (7, 2, 0, 0, 12, []), (9, 6, 0, 0, 0, []), (10, 12, 6, 1, 0, [0]), (13, 10, 12, 0, 0, []), (16, 2, 0, 0, 1, []), (17, 9, 13, 0, 0, []), (20, 2, 0, 0, 0, []), (21, 7, 3, 0, 0, []), (22, 0, 3, 0, 0, []), (23, 1, 0, 0, 0, []), (24, 0, 1, 0, 0, []), (25, 2, 0, 0, 12, []), (27, 6, 1, 0, 0, []), (28, 12, 6, 1, 0, [0]), (31, 10, 23, 0, 0, []), (34, 2, 0, 0, 1, []), (35, 9, 24, 0, 0, []), (38, 2, 0, 0, 0, []), (39, 6, 0, 0, 0, []), (40, 7, 3, 0, 0, []), (41, 0, 3, 0, 0, []), (42, 0, 2, 0, 0, []), (43, 10, 37, 5, 0, []), (46, 1, 0, 0, 0, []), (47, 0, 1, 0, 0, []), (48, 2, 0, 0, 1, []), (49, 6, 1, 0, 0, []), (50, 12, 6, 1, 0, [0]), (53, 10, 37, 0, 0, []), (56, 2, 0, 0, 1, []), (57, 9, 38, 0, 0, []), (60, 2, 0, 0, 0, []), (61, 6, 0, 0, 0, []), (62, 7, 3, 0, 0, []), (63, 0, 3, 0, 0, []), (64, 0, 2, 0, 0, []), (65, 2, 0, 0, 11, []), (67, 4, 52, 3, 0, []), (70, 1, 0, 0, 0, []), (71, 0, 1, 0, 0, []), (72, 2, 0, 0, 1, []), (73, 6, 0, 0, 0, []), (74, 12, 6, 1, 0, [0]), (77, 10, 52, 0, 0, []), (80, 2, 0, 0, 1, []), (81, 9, 53, 0, 0, []), (84, 2, 0, 0, 0, []), (85, 6, 0, 0, 0, []), (86, 7, 3, 0, 0, []), (87, 0, 3, 0, 0, []), (88, 14, 0, 0, 0, [])]
def tX8_tells : List PO := [(0, 2, 0, 0, 0, []), (1, 7, 5, 0, 0, []), (3, 0, 5, 0, 0, []), (5, 1, 0, 0, 0, []), (6, 3, 8, 1, 0, []), (9, 4, 46, 3, 0, []), (12, 1, 0, 0, 0, []), (13, 0, 5, 0, 0, []), (15, 2, 0, 0, 0, []), (16, 12, 18, 2, 0, [8]), (19, 0, 1, 0, 0, []), (20, 4, 44, 1, 0, []), (23, 1, 0, 0, 0, []), (24, 0, 5, 0, 0, []), (26, 2, 0, 0, 1, []), (27, 12, 18, 2, 0, [8]), (30, 7, 6, 0, 0, []), (32, 1, 0, 0, 0, []), (33, 0, 5, 0, 0, []), (35, 2, 0, 0, 2, []), (36, 12, 18, 2, 0, [8]), (39, 7, 7, 0, 0, []), (41, 1, 0, 0, 0, []), (42, 0, 5, 0, 0, []), (44, 2, 0, 0, 3, []), (45, 12, 18, 2, 0, [8]), (48, 7, 8, 0, 0, []), (50, 0, 7, 0, 0, []), (52, 0, 8, 0, 0, []), (54, 4, 37, 0, 0, []), (57, 1, 0, 0, 0, []), (58, 0, 7, 0, 0, []), (60, 0, 8, 0, 0, []), (62, 1, 3, 0, 0, []), (63, 1, 4, 0, 0, []), (65, 12, 19, 4, 0, [8]), (68, 10, 44, 0, 0, []), (71, 1, 0, 0, 0, []), (72, 0, 6, 0, 0, []), (74, 0, 7, 0, 0, []), (76, 1, 3, 0, 0, []), (77, 1, 4, 0, 0, []), (79, 12, 19, 4, 0, [8]), (82, 14, 0, 0, 0, []), (83, 8, 5, 0, 1, []), (86, 9, 2, 0, 0, []), (89, 0, 2, 0, 0, []), (90, 14, 0, 0, 0, [])]
def tX8_number : List PO := [(0, 0, 1, 0, 0, []), (1, 10, 22, 2, 0, []), (4, 0, 1, 0, 0, []), (5, 1, 0, 0, 0, []), (6, 3, 8, 1, 0, []), (9, 4, 22, 3, 0, []), (12, 0, 2, 0, 0, []), (13, 10, 22, 2, 0, []), (16, 0, 2, 0, 0, []), (17, 2, 0, 0, 5, []), (18, 4, 22, 3, 0, []), (21, 0, 1, 0, 0, []), (22, 2, 0, 0, 5, []), (23, 6, 2, 0, 0, []), (24, 0, 2, 0, 0, []), (25, 6, 0, 0, 0, []), (26, 1, 0, 0, 0, []), (27, 3, 8, 0, 0, []), (30, 24, 0, 0, 0, []), (31, 4, 22, 3, 0, []), (34, 2, 0, 0, 1, []), (35, 9, 23, 0, 0, []), (38, 2, 0, 0, 0, []), (39, 7, 3, 0, 0, []), (40, 0, 3, 0, 0, []), (41, 10, 35, 0, 0, []), (44, 1, 0, 0, 0, []), (45, 3, 8, 0, 0, []), (48, 0, 1, 0, 0, []), (49, 2, 0, 0, 5, []), (50, 6, 2, 0, 0, []), (51, 0, 2, 0, 0, []), (52, 6, 0, 0, 0, []), (53, 5, 0, 0, 0, []), (54, 9, 36, 0, 0, []), (57, 2, 0, 0, 0, []), (58, 14, 0, 0, 0, [])]
def tX8_run : List PO := [(0, 2, 0, 0, 0, []), (1, 7, 5, 0, 0, []), (3, 0, 1, 0, 0, []), (4, 2, 0, 0, 0, []), (5, 27, 0, 0, 0, []), (8, 7, 6, 0, 0, []), (10, 0, 6, 0, 0, []), (12, 0, 2, 0, 0, []), (13, 4, 109, 3, 0, []), (16, 0, 6, 0, 0, []), (18, 1, 0, 0, 0, []), (19, 3, 8, 2, 0, []), (22, 24, 0, 0, 0, []), (23, 4, 109, 3, 0, []), (26, 1, 0, 0, 0, []), (27, 3, 8, 2, 0, []), (30, 0, 6, 0, 0, []), (32, 5, 0, 0, 0, []), (33, 2, 0, 0, 15, []), (35, 6, 3, 0, 0, []), (36, 7, 7, 0, 0, []), (38, 1, 0, 0, 0, []), (39, 3, 8, 2, 0, []), (42, 0, 6, 0, 0, []), (44, 5, 0, 0, 0, []), (45, 2, 0, 0, 4, []), (46, 6, 7, 0, 0, []), (47, 7, 8, 0, 0, []), (49, 0, 7, 0, 0, []), (51, 10, 33, 0, 0, []), (54, 0, 7, 0, 0, []), (56, 2, 0, 0, 1, []), (57, 4, 56, 1, 0, []), (60, 0, 5, 0, 0, []), (62, 1, 4, 0, 0, []), (64, 24, 0, 0, 0, []), (65, 4, 107, 3, 0, []), (68, 0, 8, 0, 0, []), (70, 10, 107, 2, 0, []), (73, 1, 4, 0, 0, []), (75, 0, 5, 0, 0, []), (77, 0, 7, 0, 0, []), (79, 2, 0, 0, 1, []), (80, 4, 52, 1, 0, []), (83, 0, 8, 0, 0, []), (85, 1, 3, 0, 0, []), (86, 24, 0, 0, 0, []), (87, 4, 52, 3, 0, []), (90, 1, 3, 0, 0, []), (91, 0, 8, 0, 0, []), (93, 5, 0, 0, 0, []), (94, 9, 53, 0, 0, []), (97, 0, 8, 0, 0, []), (99, 11, 0, 0, 0, []), (100, 8, 5, 0, 1, []), (103, 9, 107, 0, 0, []), (106, 0, 7, 0, 0, []), (108, 2, 0, 0, 2, []), (109, 4, 62, 0, 0, []), (112, 0, 7, 0, 0, []), (114, 2, 0, 0, 3, []), (115, 4, 88, 1, 0, []), (118, 0, 5, 0, 0, []), (120, 10, 107, 5, 0, []), (123, 1, 4, 0, 0, []), (125, 0, 5, 0, 0, []), (127, 2, 0, 0, 1, []), (128, 6, 1, 0, 0, []), (129, 0, 7, 0, 0, []), (131, 2, 0, 0, 3, []), (132, 4, 79, 1, 0, []), (135, 2, 0, 0, 1, []), (136, 1, 4, 0, 0, []), (138, 0, 5, 0, 0, []), (140, 2, 0, 0, 1, []), (141, 6, 1, 0, 0, []), (142, 5, 0, 0, 0, []), (143, 6, 1, 0, 0, []), (144, 9, 86, 0, 0, []), (147, 1, 4, 0, 0, []), (149, 0, 5, 0, 0, []), (151, 2, 0, 0, 1, []), (152, 6, 1, 0, 0, []), (153, 5, 0, 0, 0, []), (154, 0, 8, 0, 0, []), (156, 13, 20, 2, 0, []), (159, 11, 0, 0, 0, []), (160, 9, 107, 0, 0, []), (163, 0, 5, 0, 0, []), (165, 2, 0, 0, 1, []), (166, 4, 107, 5, 0, []), (169, 8, 5, 0, (-1), []), (172, 1, 4, 0, 0, []), (174, 0, 5, 0, 0, []), (176, 2, 0, 0, 1, []), (177, 6, 1, 0, 0, []), (178, 0, 7, 0, 0, []), (180, 1, 4, 0, 0, []), (182, 0, 5, 0, 0, []), (184, 2, 0, 0, 1, []), (185, 6, 1, 0, 0, []), (186, 5, 0, 0, 0, []), (187, 1, 4, 0, 0, []), (189, 0, 5, 0, 0, []), (191, 5, 0, 0, 0, []), (192, 13, 21, 3, 0, []), (195, 11, 0, 0, 0, []), (196, 8, 6, 0, 1, []), (199, 9, 6, 0, 0, []), (202, 0, 5, 0, 0, []), (204, 10, 115, 5, 0, []), (207, 1, 4, 0, 0, []), (209, 2, 0, 0, 0, []), (210, 5, 0, 0, 0, []), (211, 9, 116, 0, 0, []), (214, 2, 0, 0, 0, []), (215, 14, 0, 0, 0, [])]
def tX8_part : List PO := [(0, 0, 1, 0, 0, []), (1, 10, 4, 1, 0, []), (4, 2, 0, 0, 0, []), (5, 9, 7, 0, 0, []), (8, 0, 0, 0, 0, []), (9, 0, 1, 0, 0, []), (10, 17, 0, 0, 0, []), (11, 14, 0, 0, 0, [])]
def tX8_join : List PO := [(0, 0, 0, 0, 0, []), (1, 30, 4, 10, 0, [39, 2, 6, 10, 14, 21, 28, 35]), (44, 0, 1, 0, 0, []), (45, 0, 2, 0, 0, []), (46, 6, 0, 0, 0, []), (47, 14, 0, 0, 0, []), (48, 0, 1, 0, 0, []), (49, 0, 2, 0, 0, []), (50, 6, 1, 0, 0, []), (51, 14, 0, 0, 0, []), (52, 0, 1, 0, 0, []), (53, 0, 2, 0, 0, []), (54, 6, 2, 0, 0, []), (55, 14, 0, 0, 0, []), (56, 0, 1, 0, 0, []), (57, 0, 2, 0, 0, []), (58, 4, 19, 3, 0, []), (61, 2, 0, 0, 1, []), (62, 9, 20, 0, 0, []), (65, 2, 0, 0, 0, []), (66, 14, 0, 0, 0, []), (67, 0, 1, 0, 0, []), (68, 0, 2, 0, 0, []), (69, 4, 26, 1, 0, []), (72, 2, 0, 0, 1, []), (73, 9, 27, 0, 0, []), (76, 2, 0, 0, 0, []), (77, 14, 0, 0, 0, []), (78, 0, 1, 0, 0, []), (79, 0, 2, 0, 0, []), (80, 4, 33, 5, 0, []), (83, 2, 0, 0, 1, []), (84, 9, 34, 0, 0, []), (87, 2, 0, 0, 0, []), (88, 14, 0, 0, 0, []), (89, 0, 1, 0, 0, []), (90, 0, 2, 0, 0, []), (91, 6, 3, 0, 0, []), (92, 14, 0, 0, 0, []), (93, 0, 1, 0, 0, []), (94, 0, 2, 0, 0, []), (95, 6, 4, 0, 0, []), (96, 14, 0, 0, 0, [])]
def tX1_held : List PO := [(0, 2, 0, 0, 0, []), (1, 0, 1, 0, 0, []), (2, 0, 0, 0, 0, []), (3, 28, 0, 0, 0, []), (6, 27, 0, 0, 0, []), (9, 14, 0, 0, 0, [])]
def tX1_turned : List PO := [(0, 1, 0, 0, 0, []), (1, 3, 1, 5, 0, []), (4, 2, 0, 0, 0, []), (5, 13, 2, 2, 0, []), (8, 2, 0, 0, 0, []), (9, 7, 1, 0, 0, []), (10, 2, 0, 0, 0, []), (11, 7, 2, 0, 0, []), (12, 0, 2, 0, 0, []), (13, 2, 0, 0, 144, []), (16, 4, 51, 3, 0, []), (19, 1, 0, 0, 0, []), (20, 3, 1, 0, 0, []), (23, 0, 2, 0, 0, []), (24, 12, 6, 1, 0, [0]), (27, 10, 49, 0, 0, []), (30, 1, 0, 0, 0, []), (31, 0, 2, 0, 0, []), (32, 12, 10, 1, 0, [1]), (35, 7, 3, 0, 0, []), (36, 0, 1, 0, 0, []), (37, 1, 0, 0, 0, []), (38, 3, 1, 0, 0, []), (41, 0, 2, 0, 0, []), (42, 12, 7, 1, 0, [0]), (45, 0, 3, 0, 0, []), (46, 6, 2, 0, 0, []), (47, 6, 0, 0, 0, []), (48, 7, 1, 0, 0, []), (49, 1, 0, 0, 0, []), (50, 3, 1, 0, 0, []), (53, 0, 2, 0, 0, []), (54, 12, 7, 1, 0, [0]), (57, 10, 49, 3, 0, []), (60, 0, 3, 0, 0, []), (61, 10, 49, 2, 0, []), (64, 0, 3, 0, 0, []), (65, 1, 0, 0, 0, []), (66, 3, 1, 5, 0, []), (69, 24, 0, 0, 0, []), (70, 4, 49, 3, 0, []), (73, 1, 0, 0, 0, []), (74, 3, 1, 5, 0, []), (77, 0, 3, 0, 0, []), (78, 22, 0, 0, 0, []), (79, 5, 0, 0, 0, []), (80, 2, 0, 0, 1, []), (81, 6, 0, 0, 0, []), (82, 11, 0, 0, 0, []), (83, 8, 2, 0, 1, []), (86, 9, 8, 0, 0, []), (89, 2, 0, 0, 0, []), (90, 7, 2, 0, 0, []), (91, 2, 0, 0, 99, []), (93, 7, 3, 0, 0, []), (94, 0, 3, 0, 0, []), (95, 10, 76, 5, 0, []), (98, 2, 0, 0, 0, []), (99, 7, 4, 0, 0, []), (101, 0, 4, 0, 0, []), (103, 1, 0, 0, 0, []), (104, 3, 1, 5, 0, []), (107, 0, 3, 0, 0, []), (108, 5, 0, 0, 0, []), (109, 4, 74, 3, 0, []), (112, 0, 1, 0, 0, []), (113, 10, 74, 4, 0, []), (116, 0, 1, 0, 0, []), (117, 0, 3, 0, 0, []), (118, 6, 0, 0, 0, []), (119, 7, 1, 0, 0, []), (120, 8, 2, 0, 1, []), (123, 8, 4, 0, 1, []), (126, 9, 59, 0, 0, []), (129, 8, 3, 0, (-1), []), (132, 9, 55, 0, 0, []), (135, 0, 1, 0, 0, []), (136, 10, 80, 5, 0, []), (139, 0, 2, 0, 0, []), (140, 9, 81, 0, 0, []), (143, 2, 0, 0, (-1), []), (144, 14, 0, 0, 0, [])]
def tX6_blobs : List PO := [(0, 1, 0, 0, 0, []), (1, 1, 1, 0, 0, []), (2, 2, 0, 0, 1, []), (3, 2, 0, 0, 0, []), (4, 12, 25, 3, 0, [6]), (7, 14, 0, 0, 0, [])]
def tX6_pieces : List PO := [(0, 2, 0, 0, 0, []), (1, 7, 4, 0, 0, []), (3, 2, 0, 0, 0, []), (4, 7, 5, 0, 0, []), (6, 2, 0, 0, 0, []), (7, 7, 6, 0, 0, []), (9, 2, 0, 0, 0, []), (10, 7, 7, 0, 0, []), (12, 0, 7, 0, 0, []), (14, 2, 0, 0, 144, []), (17, 4, 25, 3, 0, []), (20, 1, 0, 0, 0, []), (21, 3, 6, 0, 0, []), (24, 0, 7, 0, 0, []), (26, 1, 1, 0, 0, []), (27, 0, 7, 0, 0, []), (29, 12, 6, 1, 0, [0]), (32, 0, 2, 0, 0, []), (33, 4, 21, 1, 0, []), (36, 2, 0, 0, 0, []), (37, 9, 22, 0, 0, []), (40, 2, 0, 0, 1, []), (41, 11, 0, 0, 0, []), (42, 8, 7, 0, 1, []), (45, 9, 8, 0, 0, []), (48, 2, 0, 0, 0, []), (49, 7, 7, 0, 0, []), (51, 0, 7, 0, 0, []), (53, 2, 0, 0, 144, []), (56, 4, 55, 3, 0, []), (59, 1, 0, 0, 0, []), (60, 3, 6, 0, 0, []), (63, 0, 7, 0, 0, []), (65, 5, 0, 0, 0, []), (66, 10, 53, 1, 0, []), (69, 1, 0, 0, 0, []), (70, 0, 7, 0, 0, []), (72, 12, 26, 1, 0, [6]), (75, 8, 4, 0, 1, []), (78, 0, 5, 0, 0, []), (80, 1, 0, 0, 0, []), (81, 3, 6, 2, 0, []), (84, 27, 0, 0, 0, []), (87, 7, 5, 0, 0, []), (89, 0, 6, 0, 0, []), (91, 1, 0, 0, 0, []), (92, 3, 6, 3, 0, []), (95, 10, 50, 0, 0, []), (98, 2, 0, 0, 0, []), (99, 9, 51, 0, 0, []), (102, 2, 0, 0, 1, []), (103, 6, 0, 0, 0, []), (104, 7, 6, 0, 0, []), (106, 8, 7, 0, 1, []), (109, 9, 27, 0, 0, []), (112, 0, 3, 0, 0, []), (113, 10, 59, 1, 0, []), (116, 0, 4, 0, 0, []), (118, 14, 0, 0, 0, []), (119, 0, 3, 0, 0, []), (120, 2, 0, 0, 1, []), (121, 4, 64, 1, 0, []), (124, 0, 5, 0, 0, []), (126, 9, 65, 0, 0, []), (129, 0, 6, 0, 0, []), (131, 14, 0, 0, 0, [])]
def tX6_spread : List PO := [(0, 1, 0, 0, 0, []), (1, 2, 0, 0, 0, []), (2, 19, 6, 2, 0, []), (5, 1, 0, 0, 0, []), (6, 2, 0, 0, 0, []), (7, 19, 6, 3, 1, []), (10, 1, 0, 0, 0, []), (11, 0, 1, 0, 0, []), (12, 2, 0, 0, 12, []), (14, 17, 0, 0, 0, []), (15, 0, 1, 0, 0, []), (16, 2, 0, 0, 12, []), (18, 18, 0, 0, 0, []), (19, 12, 27, 2, 0, [6]), (22, 2, 0, 0, 0, []), (23, 7, 2, 0, 0, []), (24, 0, 2, 0, 0, []), (25, 1, 0, 0, 0, []), (26, 3, 6, 2, 0, []), (29, 4, 81, 3, 0, []), (32, 0, 2, 0, 0, []), (33, 2, 0, 0, 144, []), (36, 4, 81, 3, 0, []), (39, 1, 0, 0, 0, []), (40, 3, 6, 1, 0, []), (43, 0, 2, 0, 0, []), (44, 5, 0, 0, 0, []), (45, 2, 0, 0, 12, []), (47, 17, 0, 0, 0, []), (48, 7, 3, 0, 0, []), (49, 1, 0, 0, 0, []), (50, 3, 6, 1, 0, []), (53, 0, 2, 0, 0, []), (54, 5, 0, 0, 0, []), (55, 2, 0, 0, 12, []), (57, 18, 0, 0, 0, []), (58, 7, 4, 0, 0, []), (60, 1, 0, 0, 0, []), (61, 1, 0, 0, 0, []), (62, 3, 6, 3, 0, []), (65, 10, 51, 1, 0, []), (68, 0, 3, 0, 0, []), (69, 10, 51, 0, 0, []), (72, 0, 3, 0, 0, []), (73, 2, 0, 0, 11, []), (75, 4, 51, 0, 0, []), (78, 0, 4, 0, 0, []), (80, 10, 51, 0, 0, []), (83, 0, 4, 0, 0, []), (85, 2, 0, 0, 11, []), (87, 4, 53, 1, 0, []), (90, 2, 0, 0, 1, []), (91, 9, 54, 0, 0, []), (94, 2, 0, 0, 0, []), (95, 19, 6, 3, 1, []), (98, 1, 0, 0, 0, []), (99, 0, 3, 0, 0, []), (100, 2, 0, 0, 1, []), (101, 6, 0, 0, 0, []), (102, 0, 4, 0, 0, []), (104, 12, 27, 2, 0, [6]), (107, 1, 0, 0, 0, []), (108, 0, 3, 0, 0, []), (109, 2, 0, 0, 1, []), (110, 6, 1, 0, 0, []), (111, 0, 4, 0, 0, []), (113, 12, 27, 2, 0, [6]), (116, 1, 0, 0, 0, []), (117, 0, 3, 0, 0, []), (118, 0, 4, 0, 0, []), (120, 2, 0, 0, 1, []), (121, 6, 0, 0, 0, []), (122, 12, 27, 2, 0, [6]), (125, 1, 0, 0, 0, []), (126, 0, 3, 0, 0, []), (127, 0, 4, 0, 0, []), (129, 2, 0, 0, 1, []), (130, 6, 1, 0, 0, []), (131, 12, 27, 2, 0, [6]), (134, 8, 2, 0, 1, []), (137, 9, 16, 0, 0, []), (140, 16, 0, 0, 0, [])]
def tX6_reach : List PO := [(0, 0, 1, 0, 0, []), (1, 0, 2, 0, 0, []), (2, 13, 28, 2, 0, []), (5, 7, 3, 0, 0, []), (6, 0, 3, 0, 0, []), (7, 2, 0, 0, (-1), []), (8, 4, 33, 0, 0, []), (11, 1, 0, 0, 0, []), (12, 3, 6, 0, 0, []), (15, 0, 3, 0, 0, []), (16, 5, 0, 0, 0, []), (17, 10, 33, 1, 0, []), (20, 1, 0, 0, 0, []), (21, 3, 6, 2, 0, []), (24, 2, 0, 0, 144, []), (27, 4, 33, 3, 0, []), (30, 1, 0, 0, 0, []), (31, 3, 6, 0, 0, []), (34, 0, 3, 0, 0, []), (35, 2, 0, 0, 1, []), (36, 11, 0, 0, 0, []), (37, 1, 0, 0, 0, []), (38, 3, 6, 1, 0, []), (41, 1, 0, 0, 0, []), (42, 3, 6, 2, 0, []), (45, 0, 3, 0, 0, []), (46, 11, 0, 0, 0, []), (47, 1, 0, 0, 0, []), (48, 21, 0, 0, 0, []), (49, 3, 6, 2, 0, []), (52, 2, 0, 0, 1, []), (53, 6, 0, 0, 0, []), (54, 19, 6, 2, 0, []), (57, 16, 0, 0, 0, [])]
def tX11_cellAt : List PO := [(0, 0, 0, 0, 0, []), (1, 10, 12, 2, 0, []), (4, 0, 0, 0, 0, []), (5, 2, 0, 0, 12, []), (7, 4, 12, 3, 0, []), (10, 0, 1, 0, 0, []), (11, 10, 12, 2, 0, []), (14, 0, 1, 0, 0, []), (15, 2, 0, 0, 12, []), (17, 4, 12, 3, 0, []), (20, 2, 0, 0, 1, []), (21, 9, 13, 0, 0, []), (24, 2, 0, 0, 0, []), (25, 7, 2, 0, 0, []), (26, 0, 2, 0, 0, []), (27, 10, 22, 0, 0, []), (30, 0, 0, 0, 0, []), (31, 2, 0, 0, 12, []), (33, 6, 2, 0, 0, []), (34, 0, 1, 0, 0, []), (35, 6, 0, 0, 0, []), (36, 9, 23, 0, 0, []), (39, 2, 0, 0, (-1), []), (40, 14, 0, 0, 0, [])]
def tX6_greatestBlob : List PO := [(0, 1, 0, 0, 0, []), (1, 1, 1, 0, 0, []), (2, 2, 0, 0, 1, []), (3, 2, 0, 0, 1, []), (4, 12, 25, 3, 0, [6]), (7, 14, 0, 0, 0, [])]
def tX6_holes : List PO := [(0, 1, 0, 0, 0, []), (1, 1, 1, 0, 0, []), (2, 2, 0, 0, 0, []), (3, 2, 0, 0, 2, []), (4, 12, 25, 3, 0, [6]), (7, 14, 0, 0, 0, [])]
def tX6_unlike : List PO := [(0, 2, 0, 0, 0, []), (1, 7, 2, 0, 0, []), (2, 2, 0, 0, 0, []), (3, 7, 3, 0, 0, []), (4, 0, 3, 0, 0, []), (5, 2, 0, 0, 12, []), (7, 4, 45, 3, 0, []), (10, 2, 0, 0, 0, []), (11, 7, 4, 0, 0, []), (13, 0, 4, 0, 0, []), (15, 2, 0, 0, 6, []), (17, 4, 43, 3, 0, []), (20, 1, 1, 0, 0, []), (21, 0, 3, 0, 0, []), (22, 2, 0, 0, 12, []), (24, 6, 2, 0, 0, []), (25, 0, 4, 0, 0, []), (27, 6, 0, 0, 0, []), (28, 12, 7, 1, 0, [0]), (31, 7, 5, 0, 0, []), (33, 1, 1, 0, 0, []), (34, 0, 3, 0, 0, []), (35, 2, 0, 0, 12, []), (37, 6, 2, 0, 0, []), (38, 2, 0, 0, 12, []), (40, 6, 0, 0, 0, []), (41, 2, 0, 0, 1, []), (42, 6, 1, 0, 0, []), (43, 0, 4, 0, 0, []), (45, 6, 1, 0, 0, []), (46, 12, 7, 1, 0, [0]), (49, 7, 6, 0, 0, []), (51, 0, 2, 0, 0, []), (52, 0, 5, 0, 0, []), (54, 0, 6, 0, 0, []), (56, 4, 38, 1, 0, []), (59, 2, 0, 0, 0, []), (60, 9, 39, 0, 0, []), (63, 2, 0, 0, 1, []), (64, 6, 0, 0, 0, []), (65, 7, 2, 0, 0, []), (66, 8, 4, 0, 1, []), (69, 9, 9, 0, 0, []), (72, 8, 3, 0, 1, []), (75, 9, 4, 0, 0, []), (78, 0, 2, 0, 0, []), (79, 14, 0, 0, 0, [])]
def tX6_bareSquare : List PO := [(0, 2, 0, 0, 0, []), (1, 7, 3, 0, 0, []), (2, 2, 0, 0, (-1), []), (3, 7, 4, 0, 0, []), (5, 2, 0, 0, 143, []), (8, 7, 5, 0, 0, []), (10, 0, 5, 0, 0, []), (12, 10, 43, 2, 0, []), (15, 1, 0, 0, 0, []), (16, 3, 6, 0, 0, []), (19, 0, 5, 0, 0, []), (21, 1, 1, 0, 0, []), (22, 0, 5, 0, 0, []), (24, 12, 6, 1, 0, [0]), (27, 10, 17, 0, 0, []), (30, 2, 0, 0, 0, []), (31, 9, 22, 0, 0, []), (34, 2, 0, 0, 1, []), (35, 1, 0, 0, 0, []), (36, 0, 5, 0, 0, []), (38, 12, 33, 1, 0, [6]), (41, 6, 0, 0, 0, []), (42, 11, 0, 0, 0, []), (43, 1, 0, 0, 0, []), (44, 3, 6, 0, 0, []), (47, 0, 5, 0, 0, []), (49, 5, 0, 0, 0, []), (50, 10, 41, 5, 0, []), (53, 1, 0, 0, 0, []), (54, 3, 6, 0, 0, []), (57, 0, 5, 0, 0, []), (59, 5, 0, 0, 0, []), (60, 0, 3, 0, 0, []), (61, 4, 41, 2, 0, []), (64, 1, 0, 0, 0, []), (65, 3, 6, 0, 0, []), (68, 0, 5, 0, 0, []), (70, 5, 0, 0, 0, []), (71, 7, 3, 0, 0, []), (72, 0, 5, 0, 0, []), (74, 7, 4, 0, 0, []), (76, 8, 5, 0, (-1), []), (79, 9, 6, 0, 0, []), (82, 0, 2, 0, 0, []), (83, 10, 47, 1, 0, []), (86, 0, 3, 0, 0, []), (87, 14, 0, 0, 0, []), (88, 0, 4, 0, 0, []), (90, 2, 0, 0, (-1), []), (91, 4, 52, 1, 0, []), (94, 2, 0, 0, (-1), []), (95, 14, 0, 0, 0, []), (96, 0, 2, 0, 0, []), (97, 2, 0, 0, 1, []), (98, 4, 59, 1, 0, []), (101, 0, 4, 0, 0, []), (103, 2, 0, 0, 12, []), (105, 17, 0, 0, 0, []), (106, 9, 62, 0, 0, []), (109, 0, 4, 0, 0, []), (111, 2, 0, 0, 12, []), (113, 18, 0, 0, 0, []), (114, 14, 0, 0, 0, [])]
def tX6_squareBehind : List PO := [(0, 0, 1, 0, 0, []), (1, 10, 14, 2, 0, []), (4, 0, 1, 0, 0, []), (5, 2, 0, 0, 12, []), (7, 6, 0, 0, 0, []), (8, 2, 0, 0, 1, []), (9, 6, 0, 0, 0, []), (10, 2, 0, 0, 144, []), (13, 4, 14, 3, 0, []), (16, 0, 1, 0, 0, []), (17, 2, 0, 0, 12, []), (19, 18, 0, 0, 0, []), (20, 2, 0, 0, 11, []), (22, 4, 16, 1, 0, []), (25, 2, 0, 0, 0, []), (26, 14, 0, 0, 0, []), (27, 1, 0, 0, 0, []), (28, 3, 6, 0, 0, []), (31, 0, 1, 0, 0, []), (32, 2, 0, 0, 1, []), (33, 6, 0, 0, 0, []), (34, 5, 0, 0, 0, []), (35, 1, 0, 0, 0, []), (36, 3, 6, 0, 0, []), (39, 0, 1, 0, 0, []), (40, 2, 0, 0, 12, []), (42, 6, 0, 0, 0, []), (43, 5, 0, 0, 0, []), (44, 1, 0, 0, 0, []), (45, 3, 6, 0, 0, []), (48, 0, 1, 0, 0, []), (49, 2, 0, 0, 12, []), (51, 6, 0, 0, 0, []), (52, 2, 0, 0, 1, []), (53, 6, 0, 0, 0, []), (54, 5, 0, 0, 0, []), (55, 28, 0, 0, 0, []), (58, 28, 0, 0, 0, []), (61, 14, 0, 0, 0, [])]
def tX11_game : List PO := [(0, 0, 2, 0, 0, []), (1, 10, 10, 2, 0, []), (4, 0, 2, 0, 0, []), (5, 2, 0, 0, 1, []), (6, 4, 10, 4, 0, []), (9, 1, 0, 0, 0, []), (10, 3, 11, 10, 0, []), (13, 0, 1, 0, 0, []), (14, 12, 35, 1, 0, [2]), (17, 10, 12, 1, 0, []), (20, 2, 0, 0, (-10), []), (22, 14, 0, 0, 0, []), (23, 0, 2, 0, 0, []), (24, 10, 18, 1, 0, []), (27, 1, 0, 0, 0, []), (28, 3, 11, 10, 0, []), (31, 12, 37, 0, 0, [2]), (34, 9, 21, 0, 0, []), (37, 1, 0, 0, 0, []), (38, 3, 11, 10, 0, []), (41, 12, 43, 0, 0, [2]), (44, 14, 0, 0, 0, [])]
def tX2_lay : List PO := [(0, 0, 1, 0, 0, []), (1, 10, 5, 2, 0, []), (4, 0, 1, 0, 0, []), (5, 2, 0, 0, 222222222, []), (7, 4, 7, 5, 0, []), (10, 2, 0, 0, 0, []), (11, 15, 0, 0, 0, []), (12, 0, 1, 0, 0, []), (13, 7, 2, 0, 0, []), (14, 2, 0, 0, 0, []), (15, 7, 3, 0, 0, []), (16, 2, 0, 0, 0, []), (17, 7, 4, 0, 0, []), (19, 1, 0, 0, 0, []), (20, 2, 0, 0, 0, []), (21, 19, 2, 2, 0, []), (24, 2, 0, 0, 8, []), (26, 7, 5, 0, 0, []), (28, 0, 5, 0, 0, []), (30, 10, 68, 2, 0, []), (33, 0, 2, 0, 0, []), (34, 2, 0, 0, 10, []), (36, 18, 0, 0, 0, []), (37, 7, 6, 0, 0, []), (39, 0, 2, 0, 0, []), (40, 2, 0, 0, 10, []), (42, 17, 0, 0, 0, []), (43, 7, 2, 0, 0, []), (44, 0, 6, 0, 0, []), (46, 2, 0, 0, 2, []), (47, 4, 33, 5, 0, []), (50, 2, 0, 0, 0, []), (51, 15, 0, 0, 0, []), (52, 1, 0, 0, 0, []), (53, 3, 2, 1, 0, []), (56, 0, 5, 0, 0, []), (58, 0, 6, 0, 0, []), (60, 11, 0, 0, 0, []), (61, 1, 0, 0, 0, []), (62, 21, 0, 0, 0, []), (63, 3, 2, 2, 0, []), (66, 0, 6, 0, 0, []), (68, 26, 1, 0, 0, []), (71, 0, 5, 0, 0, []), (73, 5, 0, 0, 0, []), (74, 6, 2, 0, 0, []), (75, 6, 0, 0, 0, []), (76, 19, 2, 2, 0, []), (79, 0, 3, 0, 0, []), (80, 0, 6, 0, 0, []), (82, 2, 0, 0, 1, []), (83, 4, 54, 1, 0, []), (86, 2, 0, 0, 1, []), (87, 9, 55, 0, 0, []), (90, 2, 0, 0, 0, []), (91, 6, 0, 0, 0, []), (92, 7, 3, 0, 0, []), (93, 0, 4, 0, 0, []), (95, 0, 6, 0, 0, []), (97, 2, 0, 0, 2, []), (98, 4, 63, 1, 0, []), (101, 2, 0, 0, 1, []), (102, 9, 64, 0, 0, []), (105, 2, 0, 0, 0, []), (106, 6, 0, 0, 0, []), (107, 7, 4, 0, 0, []), (109, 8, 5, 0, (-1), []), (112, 9, 18, 0, 0, []), (115, 1, 0, 0, 0, []), (116, 0, 3, 0, 0, []), (117, 0, 4, 0, 0, []), (119, 6, 0, 0, 0, []), (120, 19, 2, 3, 0, []), (123, 0, 3, 0, 0, []), (124, 0, 4, 0, 0, []), (126, 4, 81, 0, 0, []), (129, 0, 3, 0, 0, []), (130, 0, 4, 0, 0, []), (132, 2, 0, 0, 1, []), (133, 6, 0, 0, 0, []), (134, 4, 91, 1, 0, []), (137, 1, 0, 0, 0, []), (138, 2, 0, 0, 1, []), (139, 12, 36, 1, 0, [2]), (142, 10, 89, 0, 0, []), (145, 1, 0, 0, 0, []), (146, 2, 0, 0, 2, []), (147, 12, 36, 1, 0, [2]), (150, 10, 91, 1, 0, []), (153, 2, 0, 0, 1, []), (154, 9, 92, 0, 0, []), (157, 2, 0, 0, 0, []), (158, 15, 0, 0, 0, [])]
def tX2_hasThree : List PO := [(0, 2, 0, 0, 0, []), (1, 7, 2, 0, 0, []), (2, 0, 2, 0, 0, []), (3, 2, 0, 0, 2, []), (4, 6, 0, 0, 0, []), (5, 26, 2, 0, 0, []), (8, 24, 0, 0, 0, []), (9, 4, 40, 3, 0, []), (12, 1, 0, 0, 0, []), (13, 3, 2, 1, 0, []), (16, 26, 2, 0, 0, []), (19, 0, 2, 0, 0, []), (20, 5, 0, 0, 0, []), (21, 5, 0, 0, 0, []), (22, 0, 1, 0, 0, []), (23, 4, 38, 1, 0, []), (26, 1, 0, 0, 0, []), (27, 3, 2, 1, 0, []), (30, 26, 2, 0, 0, []), (33, 0, 2, 0, 0, []), (34, 2, 0, 0, 1, []), (35, 6, 0, 0, 0, []), (36, 5, 0, 0, 0, []), (37, 5, 0, 0, 0, []), (38, 0, 1, 0, 0, []), (39, 4, 38, 1, 0, []), (42, 1, 0, 0, 0, []), (43, 3, 2, 1, 0, []), (46, 26, 2, 0, 0, []), (49, 0, 2, 0, 0, []), (50, 2, 0, 0, 2, []), (51, 6, 0, 0, 0, []), (52, 5, 0, 0, 0, []), (53, 5, 0, 0, 0, []), (54, 0, 1, 0, 0, []), (55, 4, 38, 1, 0, []), (58, 2, 0, 0, 1, []), (59, 15, 0, 0, 0, []), (60, 8, 2, 0, 3, []), (63, 9, 2, 0, 0, []), (66, 2, 0, 0, 0, []), (67, 15, 0, 0, 0, [])]
def tX2_valueForNext : List PO := [(0, 1, 0, 0, 0, []), (1, 1, 0, 0, 0, []), (2, 3, 2, 2, 0, []), (5, 1, 0, 0, 0, []), (6, 3, 2, 3, 0, []), (9, 12, 38, 2, 0, [2]), (12, 14, 0, 0, 0, [])]
def tX2_value : List PO := [(0, 1, 0, 0, 0, []), (1, 0, 1, 0, 0, []), (2, 12, 39, 1, 0, [2]), (5, 7, 3, 0, 0, []), (6, 0, 3, 0, 0, []), (7, 2, 0, 0, (-2), []), (9, 4, 9, 0, 0, []), (12, 0, 3, 0, 0, []), (13, 14, 0, 0, 0, []), (14, 0, 2, 0, 0, []), (15, 13, 40, 1, 0, []), (18, 7, 4, 0, 0, []), (20, 1, 0, 0, 0, []), (21, 0, 4, 0, 0, []), (23, 12, 36, 1, 0, [2]), (26, 10, 19, 0, 0, []), (29, 2, 0, 0, 1, []), (30, 7, 3, 0, 0, []), (31, 9, 59, 0, 0, []), (34, 1, 0, 0, 0, []), (35, 2, 0, 0, 3, []), (36, 0, 4, 0, 0, []), (38, 6, 1, 0, 0, []), (39, 12, 36, 1, 0, [2]), (42, 10, 28, 0, 0, []), (45, 2, 0, 0, (-1), []), (46, 7, 3, 0, 0, []), (47, 9, 59, 0, 0, []), (50, 0, 2, 0, 0, []), (51, 2, 0, 0, 9, []), (53, 4, 34, 2, 0, []), (56, 2, 0, 0, 0, []), (57, 7, 3, 0, 0, []), (58, 9, 59, 0, 0, []), (61, 2, 0, 0, (-1), []), (62, 7, 3, 0, 0, []), (63, 2, 0, 0, 0, []), (64, 7, 5, 0, 0, []), (66, 0, 5, 0, 0, []), (68, 2, 0, 0, 9, []), (70, 4, 59, 3, 0, []), (73, 0, 3, 0, 0, []), (74, 2, 0, 0, 1, []), (75, 4, 59, 3, 0, []), (78, 1, 0, 0, 0, []), (79, 3, 2, 1, 0, []), (82, 0, 5, 0, 0, []), (84, 5, 0, 0, 0, []), (85, 10, 57, 1, 0, []), (88, 0, 3, 0, 0, []), (89, 1, 0, 0, 0, []), (90, 0, 5, 0, 0, []), (92, 0, 1, 0, 0, []), (93, 0, 2, 0, 0, []), (94, 12, 41, 3, 0, [2]), (97, 27, 0, 0, 0, []), (100, 7, 3, 0, 0, []), (101, 8, 5, 0, 1, []), (104, 9, 38, 0, 0, []), (107, 1, 0, 0, 0, []), (108, 0, 1, 0, 0, []), (109, 0, 3, 0, 0, []), (110, 12, 42, 2, 0, [2]), (113, 0, 3, 0, 0, []), (114, 14, 0, 0, 0, [])]
def tX2_recall : List PO := [(0, 0, 1, 0, 0, []), (1, 2, 0, 0, 16, []), (3, 17, 0, 0, 0, []), (4, 7, 2, 0, 0, []), (5, 0, 1, 0, 0, []), (6, 10, 11, 2, 0, []), (9, 0, 2, 0, 0, []), (10, 1, 0, 0, 0, []), (11, 3, 2, 0, 0, []), (14, 24, 0, 0, 0, []), (15, 4, 13, 2, 0, []), (18, 2, 0, 0, (-2), []), (20, 14, 0, 0, 0, []), (21, 1, 0, 0, 0, []), (22, 3, 2, 0, 0, []), (25, 0, 2, 0, 0, []), (26, 5, 0, 0, 0, []), (27, 2, 0, 0, 2, []), (28, 0, 1, 0, 0, []), (29, 2, 0, 0, 16, []), (31, 18, 0, 0, 0, []), (32, 6, 2, 0, 0, []), (33, 6, 7, 0, 0, []), (34, 2, 0, 0, 3, []), (35, 6, 3, 0, 0, []), (36, 2, 0, 0, 2, []), (37, 6, 1, 0, 0, []), (38, 14, 0, 0, 0, [])]
def tX2_whoIsNext : List PO := [(0, 0, 0, 0, 0, []), (1, 2, 0, 0, 2, []), (2, 18, 0, 0, 0, []), (3, 10, 6, 1, 0, []), (6, 2, 0, 0, 1, []), (7, 9, 7, 0, 0, []), (10, 2, 0, 0, 2, []), (11, 14, 0, 0, 0, [])]
def tX2_valueOfMove : List PO := [(0, 0, 1, 0, 0, []), (1, 10, 8, 2, 0, []), (4, 0, 1, 0, 0, []), (5, 2, 0, 0, 9, []), (7, 4, 8, 3, 0, []), (10, 0, 3, 0, 0, []), (11, 2, 0, 0, 9, []), (13, 4, 10, 2, 0, []), (16, 2, 0, 0, 0, []), (17, 14, 0, 0, 0, []), (18, 0, 3, 0, 0, []), (19, 13, 40, 1, 0, []), (22, 7, 4, 0, 0, []), (24, 1, 0, 0, 0, []), (25, 3, 2, 1, 0, []), (28, 0, 1, 0, 0, []), (29, 0, 4, 0, 0, []), (31, 11, 0, 0, 0, []), (32, 1, 0, 0, 0, []), (33, 0, 2, 0, 0, []), (34, 0, 4, 0, 0, []), (36, 26, 1, 0, 0, []), (39, 0, 1, 0, 0, []), (40, 5, 0, 0, 0, []), (41, 6, 2, 0, 0, []), (42, 6, 0, 0, 0, []), (43, 0, 3, 0, 0, []), (44, 2, 0, 0, 1, []), (45, 6, 0, 0, 0, []), (46, 12, 38, 2, 0, [2]), (49, 20, 0, 0, 0, []), (50, 7, 5, 0, 0, []), (52, 1, 0, 0, 0, []), (53, 3, 2, 1, 0, []), (56, 0, 1, 0, 0, []), (57, 2, 0, 0, 0, []), (58, 11, 0, 0, 0, []), (59, 0, 5, 0, 0, []), (61, 14, 0, 0, 0, [])]
def tX2_keepValue : List PO := [(0, 0, 1, 0, 0, []), (1, 2, 0, 0, 16, []), (3, 17, 0, 0, 0, []), (4, 7, 3, 0, 0, []), (5, 0, 1, 0, 0, []), (6, 10, 27, 2, 0, []), (9, 0, 3, 0, 0, []), (10, 1, 0, 0, 0, []), (11, 3, 2, 0, 0, []), (14, 24, 0, 0, 0, []), (15, 4, 27, 3, 0, []), (18, 1, 0, 0, 0, []), (19, 3, 2, 0, 0, []), (22, 0, 3, 0, 0, []), (23, 22, 0, 0, 0, []), (24, 5, 0, 0, 0, []), (25, 0, 2, 0, 0, []), (26, 2, 0, 0, 2, []), (27, 6, 0, 0, 0, []), (28, 2, 0, 0, 2, []), (29, 0, 1, 0, 0, []), (30, 2, 0, 0, 16, []), (32, 18, 0, 0, 0, []), (33, 6, 2, 0, 0, []), (34, 6, 6, 0, 0, []), (35, 6, 4, 0, 0, []), (36, 11, 0, 0, 0, []), (37, 16, 0, 0, 0, [])]
def tX2_firstThatKeeps : List PO := [(0, 1, 0, 0, 0, []), (1, 2, 0, 0, 1, []), (2, 12, 36, 1, 0, [2]), (5, 10, 8, 1, 0, []), (8, 1, 0, 0, 0, []), (9, 2, 0, 0, 2, []), (10, 12, 36, 1, 0, [2]), (13, 10, 10, 0, 0, []), (16, 2, 0, 0, (-1), []), (17, 14, 0, 0, 0, []), (18, 1, 0, 0, 0, []), (19, 1, 0, 0, 0, []), (20, 3, 2, 2, 0, []), (23, 1, 0, 0, 0, []), (24, 3, 2, 3, 0, []), (27, 12, 38, 2, 0, [2]), (30, 7, 1, 0, 0, []), (31, 2, 0, 0, 0, []), (32, 7, 2, 0, 0, []), (33, 0, 2, 0, 0, []), (34, 2, 0, 0, 9, []), (36, 4, 40, 3, 0, []), (39, 1, 0, 0, 0, []), (40, 3, 2, 1, 0, []), (43, 0, 2, 0, 0, []), (44, 5, 0, 0, 0, []), (45, 10, 38, 1, 0, []), (48, 1, 0, 0, 0, []), (49, 0, 2, 0, 0, []), (50, 1, 0, 0, 0, []), (51, 3, 2, 2, 0, []), (54, 1, 0, 0, 0, []), (55, 3, 2, 3, 0, []), (58, 12, 41, 3, 0, [2]), (61, 0, 1, 0, 0, []), (62, 4, 38, 1, 0, []), (65, 0, 2, 0, 0, []), (66, 14, 0, 0, 0, []), (67, 8, 2, 0, 1, []), (70, 9, 19, 0, 0, []), (73, 2, 0, 0, (-1), []), (74, 14, 0, 0, 0, [])]
def tX12_order : List PO := [(0, 1, 0, 0, 0, []), (1, 2, 0, 0, 0, []), (2, 19, 12, 0, 0, []), (5, 2, 0, 0, 0, []), (6, 7, 1, 0, 0, []), (7, 0, 1, 0, 0, []), (8, 2, 0, 0, 256, []), (11, 4, 63, 3, 0, []), (14, 0, 1, 0, 0, []), (15, 10, 12, 1, 0, []), (18, 2, 0, 0, 1, []), (19, 9, 13, 0, 0, []), (22, 2, 0, 0, 0, []), (23, 7, 2, 0, 0, []), (24, 2, 0, 0, 0, []), (25, 7, 3, 0, 0, []), (26, 0, 3, 0, 0, []), (27, 2, 0, 0, 8, []), (29, 4, 56, 3, 0, []), (32, 1, 0, 0, 0, []), (33, 0, 1, 0, 0, []), (34, 0, 3, 0, 0, []), (35, 12, 45, 2, 0, [12]), (38, 10, 54, 0, 0, []), (41, 1, 0, 0, 0, []), (42, 3, 12, 66, 0, []), (45, 0, 3, 0, 0, []), (46, 5, 0, 0, 0, []), (47, 0, 1, 0, 0, []), (48, 2, 0, 0, (-1), []), (49, 6, 5, 0, 0, []), (50, 6, 3, 0, 0, []), (51, 10, 54, 1, 0, []), (54, 1, 0, 0, 0, []), (55, 1, 0, 0, 0, []), (56, 3, 12, 66, 0, []), (59, 0, 3, 0, 0, []), (60, 5, 0, 0, 0, []), (61, 0, 3, 0, 0, []), (62, 12, 45, 2, 0, [12]), (65, 10, 54, 1, 0, []), (68, 0, 2, 0, 0, []), (69, 1, 0, 0, 0, []), (70, 3, 12, 67, 0, []), (73, 0, 1, 0, 0, []), (74, 2, 0, 0, 1, []), (75, 0, 3, 0, 0, []), (76, 6, 6, 0, 0, []), (77, 2, 0, 0, (-1), []), (78, 6, 5, 0, 0, []), (79, 6, 3, 0, 0, []), (80, 5, 0, 0, 0, []), (81, 6, 0, 0, 0, []), (82, 7, 2, 0, 0, []), (83, 8, 3, 0, 1, []), (86, 9, 16, 0, 0, []), (89, 1, 0, 0, 0, []), (90, 3, 12, 67, 0, []), (93, 0, 1, 0, 0, []), (94, 0, 2, 0, 0, []), (95, 11, 0, 0, 0, []), (96, 8, 1, 0, 1, []), (99, 9, 5, 0, 0, []), (102, 1, 0, 0, 0, []), (103, 3, 12, 67, 0, []), (106, 2, 0, 0, 255, []), (109, 5, 0, 0, 0, []), (110, 14, 0, 0, 0, [])]
def tX12_has : List PO := [(0, 0, 1, 0, 0, []), (1, 0, 2, 0, 0, []), (2, 6, 7, 0, 0, []), (3, 2, 0, 0, 1, []), (4, 6, 3, 0, 0, []), (5, 2, 0, 0, 1, []), (6, 4, 9, 1, 0, []), (9, 2, 0, 0, 1, []), (10, 9, 10, 0, 0, []), (13, 2, 0, 0, 0, []), (14, 15, 0, 0, 0, [])]
def tX12_wax : List PO := [(0, 1, 0, 0, 0, []), (1, 2, 0, 0, 0, []), (2, 19, 12, 0, 0, []), (5, 1, 0, 0, 0, []), (6, 0, 1, 0, 0, []), (7, 2, 0, 0, 0, []), (8, 2, 0, 0, 9, []), (10, 12, 47, 3, 0, [12]), (13, 10, 11, 1, 0, []), (16, 2, 0, 0, (-100000), []), (19, 14, 0, 0, 0, []), (20, 0, 1, 0, 0, []), (21, 10, 16, 1, 0, []), (24, 1, 0, 0, 0, []), (25, 12, 48, 0, 0, [12]), (28, 14, 0, 0, 0, []), (29, 0, 1, 0, 0, []), (30, 2, 0, 0, 1, []), (31, 4, 22, 1, 0, []), (34, 1, 0, 0, 0, []), (35, 12, 59, 0, 0, [12]), (38, 14, 0, 0, 0, []), (39, 0, 1, 0, 0, []), (40, 2, 0, 0, 5, []), (41, 4, 32, 1, 0, []), (44, 1, 0, 0, 0, []), (45, 12, 60, 0, 0, [12]), (48, 10, 30, 1, 0, []), (51, 2, 0, 0, 1, []), (52, 9, 31, 0, 0, []), (55, 2, 0, 0, 0, []), (56, 14, 0, 0, 0, []), (57, 0, 1, 0, 0, []), (58, 2, 0, 0, 6, []), (60, 4, 38, 1, 0, []), (63, 1, 0, 0, 0, []), (64, 12, 60, 0, 0, [12]), (67, 14, 0, 0, 0, []), (68, 0, 1, 0, 0, []), (69, 2, 0, 0, 6, []), (71, 4, 45, 5, 0, []), (74, 1, 0, 0, 0, []), (75, 0, 1, 0, 0, []), (76, 12, 61, 1, 0, [12]), (79, 14, 0, 0, 0, []), (80, 1, 0, 0, 0, []), (81, 12, 63, 0, 0, [12]), (84, 0, 1, 0, 0, []), (85, 2, 0, 0, 4, []), (86, 4, 53, 1, 0, []), (89, 1, 0, 0, 0, []), (90, 12, 64, 0, 0, [12]), (93, 9, 61, 0, 0, []), (96, 1, 0, 0, 0, []), (97, 0, 1, 0, 0, []), (98, 2, 0, 0, 3, []), (99, 4, 59, 1, 0, []), (102, 2, 0, 0, 1, []), (103, 9, 60, 0, 0, []), (106, 2, 0, 0, 0, []), (107, 12, 66, 1, 0, [12]), (110, 14, 0, 0, 0, [])]
def tX12_isIn : List PO := [(0, 0, 1, 0, 0, []), (1, 0, 2, 0, 0, []), (2, 4, 8, 2, 0, []), (5, 0, 1, 0, 0, []), (6, 0, 3, 0, 0, []), (7, 4, 8, 4, 0, []), (10, 2, 0, 0, 1, []), (11, 9, 9, 0, 0, []), (14, 2, 0, 0, 0, []), (15, 15, 0, 0, 0, [])]
def tX12_sumOf : List PO := [(0, 2, 0, 0, 0, []), (1, 7, 1, 0, 0, []), (2, 2, 0, 0, 0, []), (3, 7, 2, 0, 0, []), (4, 0, 2, 0, 0, []), (5, 2, 0, 0, 144, []), (8, 4, 26, 3, 0, []), (11, 1, 0, 0, 0, []), (12, 0, 2, 0, 0, []), (13, 12, 49, 1, 0, [12]), (16, 10, 24, 0, 0, []), (19, 0, 1, 0, 0, []), (20, 1, 0, 0, 0, []), (21, 3, 12, 1, 0, []), (24, 2, 0, 0, 211, []), (27, 0, 2, 0, 0, []), (28, 6, 0, 0, 0, []), (29, 5, 0, 0, 0, []), (30, 1, 0, 0, 0, []), (31, 0, 2, 0, 0, []), (32, 12, 50, 1, 0, [12]), (35, 6, 2, 0, 0, []), (36, 6, 0, 0, 0, []), (37, 7, 1, 0, 0, []), (38, 8, 2, 0, 1, []), (41, 9, 4, 0, 0, []), (44, 0, 1, 0, 0, []), (45, 14, 0, 0, 0, [])]
def tX12_isMarked : List PO := [(0, 1, 0, 0, 0, []), (1, 3, 12, 1, 0, []), (4, 2, 0, 0, 67, []), (6, 0, 1, 0, 0, []), (7, 6, 0, 0, 0, []), (8, 5, 0, 0, 0, []), (9, 10, 9, 5, 0, []), (12, 2, 0, 0, 1, []), (13, 9, 10, 0, 0, []), (16, 2, 0, 0, 0, []), (17, 15, 0, 0, 0, [])]
def tX12_weighsOf : List PO := [(0, 1, 0, 0, 0, []), (1, 0, 1, 0, 0, []), (2, 12, 51, 1, 0, [12]), (5, 1, 0, 0, 0, []), (6, 2, 0, 0, 2, []), (7, 1, 0, 0, 0, []), (8, 3, 12, 40, 0, []), (11, 2, 0, 0, 3, []), (12, 5, 0, 0, 0, []), (13, 2, 0, 0, 99, []), (15, 12, 54, 3, 0, [12]), (18, 14, 0, 0, 0, [])]
def tX12_asksOf : List PO := [(0, 1, 0, 0, 0, []), (1, 1, 0, 0, 0, []), (2, 3, 12, 1, 0, []), (5, 2, 0, 0, 67, []), (7, 0, 1, 0, 0, []), (8, 6, 0, 0, 0, []), (9, 5, 0, 0, 0, []), (10, 2, 0, 0, 1, []), (11, 6, 1, 0, 0, []), (12, 1, 0, 0, 0, []), (13, 3, 12, 1, 0, []), (16, 2, 0, 0, 211, []), (19, 0, 1, 0, 0, []), (20, 6, 0, 0, 0, []), (21, 5, 0, 0, 0, []), (22, 12, 52, 2, 0, [12]), (25, 1, 0, 0, 0, []), (26, 3, 12, 40, 0, []), (29, 2, 0, 0, 3, []), (30, 1, 0, 0, 0, []), (31, 3, 12, 1, 0, []), (34, 2, 0, 0, 355, []), (37, 0, 1, 0, 0, []), (38, 6, 0, 0, 0, []), (39, 5, 0, 0, 0, []), (40, 11, 0, 0, 0, []), (41, 1, 0, 0, 0, []), (42, 3, 12, 40, 0, []), (45, 2, 0, 0, 6, []), (47, 0, 1, 0, 0, []), (48, 2, 0, 0, 12, []), (50, 17, 0, 0, 0, []), (51, 11, 0, 0, 0, []), (52, 1, 0, 0, 0, []), (53, 3, 12, 40, 0, []), (56, 2, 0, 0, 7, []), (58, 1, 0, 0, 0, []), (59, 0, 1, 0, 0, []), (60, 12, 53, 1, 0, [12]), (63, 11, 0, 0, 0, []), (64, 16, 0, 0, 0, [])]
def tX12_asks : List PO := [(0, 1, 0, 0, 0, []), (1, 3, 12, 40, 0, []), (4, 2, 0, 0, 0, []), (5, 0, 2, 0, 0, []), (6, 11, 0, 0, 0, []), (7, 1, 0, 0, 0, []), (8, 3, 12, 40, 0, []), (11, 2, 0, 0, 1, []), (12, 1, 0, 0, 0, []), (13, 3, 12, 9, 0, []), (16, 0, 1, 0, 0, []), (17, 5, 0, 0, 0, []), (18, 11, 0, 0, 0, []), (19, 1, 0, 0, 0, []), (20, 3, 12, 40, 0, []), (23, 2, 0, 0, 2, []), (24, 1, 0, 0, 0, []), (25, 3, 12, 8, 0, []), (28, 0, 1, 0, 0, []), (29, 5, 0, 0, 0, []), (30, 11, 0, 0, 0, []), (31, 1, 0, 0, 0, []), (32, 3, 12, 40, 0, []), (35, 2, 0, 0, 3, []), (36, 2, 0, 0, 0, []), (37, 11, 0, 0, 0, []), (38, 1, 0, 0, 0, []), (39, 3, 12, 40, 0, []), (42, 2, 0, 0, 4, []), (43, 1, 0, 0, 0, []), (44, 3, 12, 1, 0, []), (47, 2, 0, 0, 4, []), (48, 5, 0, 0, 0, []), (49, 11, 0, 0, 0, []), (50, 1, 0, 0, 0, []), (51, 3, 12, 40, 0, []), (54, 2, 0, 0, 5, []), (55, 1, 0, 0, 0, []), (56, 3, 12, 1, 0, []), (59, 2, 0, 0, 1, []), (60, 5, 0, 0, 0, []), (61, 11, 0, 0, 0, []), (62, 1, 0, 0, 0, []), (63, 3, 12, 40, 0, []), (66, 2, 0, 0, 6, []), (68, 2, 0, 0, 0, []), (69, 11, 0, 0, 0, []), (70, 1, 0, 0, 0, []), (71, 3, 12, 40, 0, []), (74, 2, 0, 0, 7, []), (76, 2, 0, 0, 0, []), (77, 11, 0, 0, 0, []), (78, 1, 0, 0, 0, []), (79, 3, 12, 40, 0, []), (82, 2, 0, 0, 8, []), (84, 1, 0, 0, 0, []), (85, 3, 12, 1, 0, []), (88, 2, 0, 0, 47, []), (90, 0, 1, 0, 0, []), (91, 6, 0, 0, 0, []), (92, 5, 0, 0, 0, []), (93, 11, 0, 0, 0, []), (94, 1, 0, 0, 0, []), (95, 3, 12, 40, 0, []), (98, 2, 0, 0, 9, []), (100, 1, 0, 0, 0, []), (101, 3, 12, 1, 0, []), (104, 2, 0, 0, 0, []), (105, 5, 0, 0, 0, []), (106, 11, 0, 0, 0, []), (107, 16, 0, 0, 0, [])]
def tX12_besideOf : List PO := [(0, 2, 0, 0, 0, []), (1, 7, 2, 0, 0, []), (2, 0, 1, 0, 0, []), (3, 2, 0, 0, 12, []), (5, 4, 15, 2, 0, []), (8, 1, 0, 0, 0, []), (9, 0, 1, 0, 0, []), (10, 2, 0, 0, 12, []), (12, 6, 1, 0, 0, []), (13, 12, 49, 1, 0, [12]), (16, 10, 15, 0, 0, []), (19, 0, 2, 0, 0, []), (20, 2, 0, 0, 1, []), (21, 6, 0, 0, 0, []), (22, 7, 2, 0, 0, []), (23, 0, 1, 0, 0, []), (24, 2, 0, 0, 132, []), (27, 4, 28, 3, 0, []), (30, 1, 0, 0, 0, []), (31, 0, 1, 0, 0, []), (32, 2, 0, 0, 12, []), (34, 6, 0, 0, 0, []), (35, 12, 49, 1, 0, [12]), (38, 10, 28, 0, 0, []), (41, 0, 2, 0, 0, []), (42, 2, 0, 0, 1, []), (43, 6, 0, 0, 0, []), (44, 7, 2, 0, 0, []), (45, 0, 1, 0, 0, []), (46, 2, 0, 0, 12, []), (48, 18, 0, 0, 0, []), (49, 10, 42, 5, 0, []), (52, 1, 0, 0, 0, []), (53, 0, 1, 0, 0, []), (54, 2, 0, 0, 1, []), (55, 6, 1, 0, 0, []), (56, 12, 49, 1, 0, [12]), (59, 10, 42, 0, 0, []), (62, 0, 2, 0, 0, []), (63, 2, 0, 0, 1, []), (64, 6, 0, 0, 0, []), (65, 7, 2, 0, 0, []), (66, 0, 1, 0, 0, []), (67, 2, 0, 0, 12, []), (69, 18, 0, 0, 0, []), (70, 2, 0, 0, 11, []), (72, 4, 57, 3, 0, []), (75, 1, 0, 0, 0, []), (76, 0, 1, 0, 0, []), (77, 2, 0, 0, 1, []), (78, 6, 0, 0, 0, []), (79, 12, 49, 1, 0, [12]), (82, 10, 57, 0, 0, []), (85, 0, 2, 0, 0, []), (86, 2, 0, 0, 1, []), (87, 6, 0, 0, 0, []), (88, 7, 2, 0, 0, []), (89, 0, 2, 0, 0, []), (90, 14, 0, 0, 0, [])]
def tX12_lawTells : List PO := [(0, 1, 0, 0, 0, []), (1, 0, 1, 0, 0, []), (2, 12, 55, 1, 0, [12]), (5, 7, 4, 0, 0, []), (7, 1, 0, 0, 0, []), (8, 0, 4, 0, 0, []), (10, 2, 0, 0, (-1), []), (11, 4, 10, 1, 0, []), (14, 0, 2, 0, 0, []), (15, 9, 21, 0, 0, []), (18, 1, 0, 0, 0, []), (19, 2, 0, 0, 0, []), (20, 1, 0, 0, 0, []), (21, 3, 12, 20, 0, []), (24, 0, 4, 0, 0, []), (26, 5, 0, 0, 0, []), (27, 1, 0, 0, 0, []), (28, 3, 12, 21, 0, []), (31, 0, 4, 0, 0, []), (33, 5, 0, 0, 0, []), (34, 12, 56, 3, 0, [12]), (37, 2, 0, 0, 0, []), (38, 0, 3, 0, 0, []), (39, 12, 58, 3, 0, [12]), (42, 14, 0, 0, 0, [])]
def tX12_lineOf : List PO := [(0, 2, 0, 0, 0, []), (1, 7, 2, 0, 0, []), (2, 0, 2, 0, 0, []), (3, 1, 0, 0, 0, []), (4, 3, 12, 18, 0, []), (7, 2, 0, 0, 0, []), (8, 5, 0, 0, 0, []), (9, 4, 39, 3, 0, []), (12, 1, 0, 0, 0, []), (13, 3, 12, 19, 0, []), (16, 0, 2, 0, 0, []), (17, 5, 0, 0, 0, []), (18, 0, 1, 0, 0, []), (19, 4, 37, 1, 0, []), (22, 1, 0, 0, 0, []), (23, 3, 12, 21, 0, []), (26, 0, 2, 0, 0, []), (27, 5, 0, 0, 0, []), (28, 1, 0, 0, 0, []), (29, 3, 12, 22, 0, []), (32, 0, 2, 0, 0, []), (33, 5, 0, 0, 0, []), (34, 4, 35, 0, 0, []), (37, 1, 0, 0, 0, []), (38, 2, 0, 0, 0, []), (39, 1, 0, 0, 0, []), (40, 3, 12, 21, 0, []), (43, 0, 2, 0, 0, []), (44, 5, 0, 0, 0, []), (45, 1, 0, 0, 0, []), (46, 3, 12, 22, 0, []), (49, 0, 2, 0, 0, []), (50, 5, 0, 0, 0, []), (51, 12, 56, 3, 0, [12]), (54, 10, 37, 0, 0, []), (57, 0, 2, 0, 0, []), (58, 14, 0, 0, 0, []), (59, 8, 2, 0, 1, []), (62, 9, 2, 0, 0, []), (65, 2, 0, 0, (-1), []), (66, 14, 0, 0, 0, [])]
def tX12_runs : List PO := [(0, 2, 0, 0, 0, []), (1, 7, 4, 0, 0, []), (3, 2, 0, 0, 400, []), (6, 0, 1, 0, 0, []), (7, 6, 2, 0, 0, []), (8, 0, 2, 0, 0, []), (9, 6, 0, 0, 0, []), (10, 7, 5, 0, 0, []), (12, 0, 5, 0, 0, []), (14, 2, 0, 0, 400, []), (17, 0, 1, 0, 0, []), (18, 6, 2, 0, 0, []), (19, 0, 3, 0, 0, []), (20, 6, 0, 0, 0, []), (21, 4, 101, 3, 0, []), (24, 1, 0, 0, 0, []), (25, 3, 12, 23, 0, []), (28, 0, 5, 0, 0, []), (30, 5, 0, 0, 0, []), (31, 10, 26, 0, 0, []), (34, 1, 0, 0, 0, []), (35, 3, 12, 23, 0, []), (38, 0, 5, 0, 0, []), (40, 5, 0, 0, 0, []), (41, 2, 0, 0, 1, []), (42, 4, 52, 1, 0, []), (45, 1, 0, 0, 0, []), (46, 3, 12, 41, 0, []), (49, 0, 4, 0, 0, []), (51, 1, 0, 0, 0, []), (52, 3, 12, 23, 0, []), (55, 0, 5, 0, 0, []), (57, 5, 0, 0, 0, []), (58, 10, 39, 1, 0, []), (61, 1, 0, 0, 0, []), (62, 3, 12, 24, 0, []), (65, 0, 5, 0, 0, []), (67, 5, 0, 0, 0, []), (68, 9, 46, 0, 0, []), (71, 1, 0, 0, 0, []), (72, 3, 12, 40, 0, []), (75, 1, 0, 0, 0, []), (76, 3, 12, 24, 0, []), (79, 0, 5, 0, 0, []), (81, 5, 0, 0, 0, []), (82, 5, 0, 0, 0, []), (83, 11, 0, 0, 0, []), (84, 0, 4, 0, 0, []), (86, 2, 0, 0, 1, []), (87, 6, 0, 0, 0, []), (88, 7, 4, 0, 0, []), (90, 9, 99, 0, 0, []), (93, 1, 0, 0, 0, []), (94, 3, 12, 23, 0, []), (97, 0, 5, 0, 0, []), (99, 5, 0, 0, 0, []), (100, 2, 0, 0, 9, []), (102, 4, 73, 1, 0, []), (105, 1, 0, 0, 0, []), (106, 3, 12, 41, 0, []), (109, 0, 4, 0, 0, []), (111, 2, 0, 0, 1, []), (112, 6, 1, 0, 0, []), (113, 2, 0, 0, 1, []), (114, 1, 0, 0, 0, []), (115, 3, 12, 41, 0, []), (118, 0, 4, 0, 0, []), (120, 2, 0, 0, 1, []), (121, 6, 1, 0, 0, []), (122, 5, 0, 0, 0, []), (123, 6, 1, 0, 0, []), (124, 11, 0, 0, 0, []), (125, 9, 99, 0, 0, []), (128, 0, 4, 0, 0, []), (130, 2, 0, 0, 1, []), (131, 6, 1, 0, 0, []), (132, 7, 4, 0, 0, []), (134, 1, 0, 0, 0, []), (135, 3, 12, 41, 0, []), (138, 0, 4, 0, 0, []), (140, 2, 0, 0, 1, []), (141, 6, 1, 0, 0, []), (142, 1, 0, 0, 0, []), (143, 1, 0, 0, 0, []), (144, 3, 12, 23, 0, []), (147, 0, 5, 0, 0, []), (149, 5, 0, 0, 0, []), (150, 1, 0, 0, 0, []), (151, 3, 12, 41, 0, []), (154, 0, 4, 0, 0, []), (156, 2, 0, 0, 1, []), (157, 6, 1, 0, 0, []), (158, 5, 0, 0, 0, []), (159, 1, 0, 0, 0, []), (160, 3, 12, 41, 0, []), (163, 0, 4, 0, 0, []), (165, 5, 0, 0, 0, []), (166, 12, 57, 3, 0, [12]), (169, 11, 0, 0, 0, []), (170, 8, 5, 0, 1, []), (173, 9, 8, 0, 0, []), (176, 1, 0, 0, 0, []), (177, 3, 12, 41, 0, []), (180, 2, 0, 0, 0, []), (181, 5, 0, 0, 0, []), (182, 14, 0, 0, 0, [])]
def tX12_twoOf : List PO := [(0, 0, 1, 0, 0, []), (1, 2, 0, 0, 2, []), (2, 4, 7, 1, 0, []), (5, 0, 2, 0, 0, []), (6, 0, 3, 0, 0, []), (7, 6, 0, 0, 0, []), (8, 14, 0, 0, 0, []), (9, 0, 1, 0, 0, []), (10, 2, 0, 0, 3, []), (11, 4, 14, 1, 0, []), (14, 0, 2, 0, 0, []), (15, 0, 3, 0, 0, []), (16, 6, 1, 0, 0, []), (17, 14, 0, 0, 0, []), (18, 0, 1, 0, 0, []), (19, 2, 0, 0, 4, []), (20, 4, 21, 1, 0, []), (23, 0, 2, 0, 0, []), (24, 0, 3, 0, 0, []), (25, 6, 2, 0, 0, []), (26, 14, 0, 0, 0, []), (27, 0, 1, 0, 0, []), (28, 2, 0, 0, 5, []), (29, 4, 28, 1, 0, []), (32, 0, 2, 0, 0, []), (33, 0, 3, 0, 0, []), (34, 17, 0, 0, 0, []), (35, 14, 0, 0, 0, []), (36, 0, 1, 0, 0, []), (37, 2, 0, 0, 6, []), (39, 4, 38, 1, 0, []), (42, 0, 2, 0, 0, []), (43, 0, 3, 0, 0, []), (44, 4, 36, 3, 0, []), (47, 2, 0, 0, 1, []), (48, 9, 37, 0, 0, []), (51, 2, 0, 0, 0, []), (52, 14, 0, 0, 0, []), (53, 0, 1, 0, 0, []), (54, 2, 0, 0, 7, []), (56, 4, 48, 1, 0, []), (59, 0, 2, 0, 0, []), (60, 0, 3, 0, 0, []), (61, 4, 46, 1, 0, []), (64, 2, 0, 0, 1, []), (65, 9, 47, 0, 0, []), (68, 2, 0, 0, 0, []), (69, 14, 0, 0, 0, []), (70, 0, 1, 0, 0, []), (71, 2, 0, 0, 8, []), (73, 4, 58, 1, 0, []), (76, 0, 2, 0, 0, []), (77, 0, 3, 0, 0, []), (78, 4, 56, 5, 0, []), (81, 2, 0, 0, 1, []), (82, 9, 57, 0, 0, []), (85, 2, 0, 0, 0, []), (86, 14, 0, 0, 0, []), (87, 0, 1, 0, 0, []), (88, 2, 0, 0, 10, []), (90, 4, 65, 1, 0, []), (93, 0, 2, 0, 0, []), (94, 0, 3, 0, 0, []), (95, 6, 2, 0, 0, []), (96, 9, 72, 0, 0, []), (99, 0, 2, 0, 0, []), (100, 0, 3, 0, 0, []), (101, 6, 0, 0, 0, []), (102, 10, 71, 5, 0, []), (105, 2, 0, 0, 1, []), (106, 9, 72, 0, 0, []), (109, 2, 0, 0, 0, []), (110, 14, 0, 0, 0, [])]
def tX12_held : List PO := [(0, 0, 1, 0, 0, []), (1, 0, 2, 0, 0, []), (2, 4, 5, 3, 0, []), (5, 0, 2, 0, 0, []), (6, 9, 11, 0, 0, []), (9, 0, 1, 0, 0, []), (10, 0, 3, 0, 0, []), (11, 4, 10, 5, 0, []), (14, 0, 3, 0, 0, []), (15, 9, 11, 0, 0, []), (18, 0, 1, 0, 0, []), (19, 14, 0, 0, 0, [])]
def tX12_turned : List PO := [(0, 1, 0, 0, 0, []), (1, 12, 48, 0, 0, [12]), (4, 7, 1, 0, 0, []), (5, 2, 0, 0, 0, []), (6, 7, 2, 0, 0, []), (7, 2, 0, 0, 0, []), (8, 7, 3, 0, 0, []), (9, 0, 3, 0, 0, []), (10, 2, 0, 0, 144, []), (13, 4, 29, 3, 0, []), (16, 1, 0, 0, 0, []), (17, 3, 12, 42, 0, []), (20, 0, 3, 0, 0, []), (21, 1, 0, 0, 0, []), (22, 3, 12, 1, 0, []), (25, 2, 0, 0, 211, []), (28, 0, 3, 0, 0, []), (29, 6, 0, 0, 0, []), (30, 5, 0, 0, 0, []), (31, 2, 0, 0, (-1), []), (32, 4, 25, 1, 0, []), (35, 1, 0, 0, 0, []), (36, 0, 3, 0, 0, []), (37, 12, 50, 1, 0, [12]), (40, 9, 26, 0, 0, []), (43, 2, 0, 0, 0, []), (44, 11, 0, 0, 0, []), (45, 8, 3, 0, 1, []), (48, 9, 7, 0, 0, []), (51, 0, 1, 0, 0, []), (52, 10, 75, 4, 0, []), (55, 2, 0, 0, 0, []), (56, 7, 3, 0, 0, []), (57, 2, 0, 0, 1, []), (58, 7, 4, 0, 0, []), (60, 0, 4, 0, 0, []), (62, 2, 0, 0, 144, []), (65, 4, 51, 3, 0, []), (68, 1, 0, 0, 0, []), (69, 3, 12, 42, 0, []), (72, 0, 4, 0, 0, []), (74, 5, 0, 0, 0, []), (75, 1, 0, 0, 0, []), (76, 3, 12, 42, 0, []), (79, 0, 3, 0, 0, []), (80, 5, 0, 0, 0, []), (81, 4, 49, 5, 0, []), (84, 0, 4, 0, 0, []), (86, 7, 3, 0, 0, []), (87, 8, 4, 0, 1, []), (90, 9, 35, 0, 0, []), (93, 1, 0, 0, 0, []), (94, 3, 12, 42, 0, []), (97, 0, 3, 0, 0, []), (98, 5, 0, 0, 0, []), (99, 10, 58, 1, 0, []), (102, 2, 0, 0, (-1), []), (103, 14, 0, 0, 0, []), (104, 0, 1, 0, 0, []), (105, 1, 0, 0, 0, []), (106, 3, 12, 42, 0, []), (109, 0, 3, 0, 0, []), (110, 5, 0, 0, 0, []), (111, 6, 0, 0, 0, []), (112, 7, 1, 0, 0, []), (113, 1, 0, 0, 0, []), (114, 3, 12, 42, 0, []), (117, 0, 3, 0, 0, []), (118, 2, 0, 0, 0, []), (119, 11, 0, 0, 0, []), (120, 0, 2, 0, 0, []), (121, 2, 0, 0, 1, []), (122, 6, 0, 0, 0, []), (123, 7, 2, 0, 0, []), (124, 9, 29, 0, 0, []), (127, 0, 2, 0, 0, []), (128, 14, 0, 0, 0, [])]
def tX12_notFace : List PO := [(0, 2, 0, 0, 0, []), (1, 7, 1, 0, 0, []), (2, 2, 0, 0, 0, []), (3, 7, 2, 0, 0, []), (4, 0, 2, 0, 0, []), (5, 2, 0, 0, 12, []), (7, 4, 45, 3, 0, []), (10, 2, 0, 0, 0, []), (11, 7, 3, 0, 0, []), (12, 0, 3, 0, 0, []), (13, 2, 0, 0, 6, []), (15, 4, 43, 3, 0, []), (18, 1, 0, 0, 0, []), (19, 3, 12, 1, 0, []), (22, 2, 0, 0, 211, []), (25, 2, 0, 0, 12, []), (27, 0, 2, 0, 0, []), (28, 6, 2, 0, 0, []), (29, 6, 0, 0, 0, []), (30, 0, 3, 0, 0, []), (31, 6, 0, 0, 0, []), (32, 5, 0, 0, 0, []), (33, 1, 0, 0, 0, []), (34, 3, 12, 1, 0, []), (37, 2, 0, 0, 211, []), (40, 2, 0, 0, 12, []), (42, 0, 2, 0, 0, []), (43, 6, 2, 0, 0, []), (44, 6, 0, 0, 0, []), (45, 2, 0, 0, 12, []), (47, 6, 0, 0, 0, []), (48, 2, 0, 0, 1, []), (49, 6, 1, 0, 0, []), (50, 0, 3, 0, 0, []), (51, 6, 1, 0, 0, []), (52, 5, 0, 0, 0, []), (53, 4, 41, 0, 0, []), (56, 0, 1, 0, 0, []), (57, 2, 0, 0, 1, []), (58, 6, 0, 0, 0, []), (59, 7, 1, 0, 0, []), (60, 8, 3, 0, 1, []), (63, 9, 9, 0, 0, []), (66, 8, 2, 0, 1, []), (69, 9, 4, 0, 0, []), (72, 0, 1, 0, 0, []), (73, 14, 0, 0, 0, [])]
def tX12_bareSquare : List PO := [(0, 2, 0, 0, (-1), []), (1, 7, 2, 0, 0, []), (2, 2, 0, 0, 143, []), (5, 7, 3, 0, 0, []), (6, 0, 3, 0, 0, []), (7, 10, 80, 2, 0, []), (10, 1, 0, 0, 0, []), (11, 3, 12, 42, 0, []), (14, 0, 3, 0, 0, []), (15, 1, 0, 0, 0, []), (16, 0, 3, 0, 0, []), (17, 12, 49, 1, 0, [12]), (20, 10, 15, 0, 0, []), (23, 2, 0, 0, 0, []), (24, 9, 16, 0, 0, []), (27, 2, 0, 0, 1, []), (28, 11, 0, 0, 0, []), (29, 0, 3, 0, 0, []), (30, 2, 0, 0, 132, []), (33, 4, 59, 3, 0, []), (36, 0, 3, 0, 0, []), (37, 2, 0, 0, 12, []), (39, 18, 0, 0, 0, []), (40, 2, 0, 0, 11, []), (42, 4, 59, 3, 0, []), (45, 1, 0, 0, 0, []), (46, 0, 3, 0, 0, []), (47, 12, 49, 1, 0, [12]), (50, 10, 59, 1, 0, []), (53, 1, 0, 0, 0, []), (54, 3, 12, 42, 0, []), (57, 0, 3, 0, 0, []), (58, 2, 0, 0, 1, []), (59, 1, 0, 0, 0, []), (60, 1, 0, 0, 0, []), (61, 3, 12, 42, 0, []), (64, 0, 3, 0, 0, []), (65, 2, 0, 0, 1, []), (66, 6, 0, 0, 0, []), (67, 5, 0, 0, 0, []), (68, 1, 0, 0, 0, []), (69, 1, 0, 0, 0, []), (70, 3, 12, 42, 0, []), (73, 0, 3, 0, 0, []), (74, 2, 0, 0, 12, []), (76, 6, 0, 0, 0, []), (77, 5, 0, 0, 0, []), (78, 1, 0, 0, 0, []), (79, 3, 12, 42, 0, []), (82, 0, 3, 0, 0, []), (83, 2, 0, 0, 12, []), (85, 6, 0, 0, 0, []), (86, 2, 0, 0, 1, []), (87, 6, 0, 0, 0, []), (88, 5, 0, 0, 0, []), (89, 12, 62, 2, 0, [12]), (92, 12, 62, 2, 0, [12]), (95, 6, 0, 0, 0, []), (96, 11, 0, 0, 0, []), (97, 1, 0, 0, 0, []), (98, 3, 12, 42, 0, []), (101, 0, 3, 0, 0, []), (102, 5, 0, 0, 0, []), (103, 10, 78, 5, 0, []), (106, 0, 2, 0, 0, []), (107, 2, 0, 0, (-1), []), (108, 4, 76, 0, 0, []), (111, 1, 0, 0, 0, []), (112, 3, 12, 42, 0, []), (115, 0, 3, 0, 0, []), (116, 5, 0, 0, 0, []), (117, 1, 0, 0, 0, []), (118, 3, 12, 42, 0, []), (121, 0, 2, 0, 0, []), (122, 5, 0, 0, 0, []), (123, 4, 78, 2, 0, []), (126, 0, 3, 0, 0, []), (127, 7, 2, 0, 0, []), (128, 8, 3, 0, (-1), []), (131, 9, 4, 0, 0, []), (134, 0, 1, 0, 0, []), (135, 2, 0, 0, 7, []), (137, 4, 93, 1, 0, []), (140, 0, 2, 0, 0, []), (141, 2, 0, 0, (-1), []), (142, 4, 88, 1, 0, []), (145, 2, 0, 0, 0, []), (146, 9, 92, 0, 0, []), (149, 1, 0, 0, 0, []), (150, 3, 12, 42, 0, []), (153, 0, 2, 0, 0, []), (154, 5, 0, 0, 0, []), (155, 14, 0, 0, 0, []), (156, 0, 2, 0, 0, []), (157, 2, 0, 0, (-1), []), (158, 4, 98, 1, 0, []), (161, 2, 0, 0, (-1), []), (162, 9, 108, 0, 0, []), (165, 0, 1, 0, 0, []), (166, 2, 0, 0, 8, []), (168, 4, 105, 1, 0, []), (171, 0, 2, 0, 0, []), (172, 2, 0, 0, 12, []), (174, 17, 0, 0, 0, []), (175, 9, 108, 0, 0, []), (178, 0, 2, 0, 0, []), (179, 2, 0, 0, 12, []), (181, 18, 0, 0, 0, []), (182, 14, 0, 0, 0, [])]
def tX12_lesser : List PO := [(0, 0, 1, 0, 0, []), (1, 0, 2, 0, 0, []), (2, 4, 5, 3, 0, []), (5, 0, 1, 0, 0, []), (6, 9, 6, 0, 0, []), (9, 0, 2, 0, 0, []), (10, 14, 0, 0, 0, [])]
def tX12_findsParts : List PO := [(0, 2, 0, 0, 0, []), (1, 7, 1, 0, 0, []), (2, 0, 1, 0, 0, []), (3, 2, 0, 0, 144, []), (6, 4, 12, 3, 0, []), (9, 1, 0, 0, 0, []), (10, 3, 12, 42, 0, []), (13, 0, 1, 0, 0, []), (14, 0, 1, 0, 0, []), (15, 11, 0, 0, 0, []), (16, 8, 1, 0, 1, []), (19, 9, 2, 0, 0, []), (22, 2, 0, 0, 1, []), (23, 7, 1, 0, 0, []), (24, 0, 1, 0, 0, []), (25, 10, 136, 0, 0, []), (28, 2, 0, 0, 0, []), (29, 7, 1, 0, 0, []), (30, 2, 0, 0, 0, []), (31, 7, 2, 0, 0, []), (32, 0, 2, 0, 0, []), (33, 2, 0, 0, 144, []), (36, 4, 135, 3, 0, []), (39, 1, 0, 0, 0, []), (40, 3, 12, 42, 0, []), (43, 0, 2, 0, 0, []), (44, 5, 0, 0, 0, []), (45, 7, 3, 0, 0, []), (46, 0, 2, 0, 0, []), (47, 2, 0, 0, 12, []), (49, 4, 50, 2, 0, []), (52, 1, 0, 0, 0, []), (53, 0, 2, 0, 0, []), (54, 12, 49, 1, 0, [12]), (57, 1, 0, 0, 0, []), (58, 0, 2, 0, 0, []), (59, 2, 0, 0, 12, []), (61, 6, 1, 0, 0, []), (62, 12, 49, 1, 0, [12]), (65, 4, 50, 1, 0, []), (68, 1, 0, 0, 0, []), (69, 0, 3, 0, 0, []), (70, 1, 0, 0, 0, []), (71, 3, 12, 42, 0, []), (74, 0, 2, 0, 0, []), (75, 2, 0, 0, 12, []), (77, 6, 1, 0, 0, []), (78, 5, 0, 0, 0, []), (79, 12, 62, 2, 0, [12]), (82, 7, 3, 0, 0, []), (83, 0, 2, 0, 0, []), (84, 2, 0, 0, 132, []), (87, 4, 72, 3, 0, []), (90, 1, 0, 0, 0, []), (91, 0, 2, 0, 0, []), (92, 12, 49, 1, 0, [12]), (95, 1, 0, 0, 0, []), (96, 0, 2, 0, 0, []), (97, 2, 0, 0, 12, []), (99, 6, 0, 0, 0, []), (100, 12, 49, 1, 0, [12]), (103, 4, 72, 1, 0, []), (106, 1, 0, 0, 0, []), (107, 0, 3, 0, 0, []), (108, 1, 0, 0, 0, []), (109, 3, 12, 42, 0, []), (112, 0, 2, 0, 0, []), (113, 2, 0, 0, 12, []), (115, 6, 0, 0, 0, []), (116, 5, 0, 0, 0, []), (117, 12, 62, 2, 0, [12]), (120, 7, 3, 0, 0, []), (121, 0, 2, 0, 0, []), (122, 2, 0, 0, 12, []), (124, 18, 0, 0, 0, []), (125, 10, 95, 5, 0, []), (128, 1, 0, 0, 0, []), (129, 0, 2, 0, 0, []), (130, 12, 49, 1, 0, [12]), (133, 1, 0, 0, 0, []), (134, 0, 2, 0, 0, []), (135, 2, 0, 0, 1, []), (136, 6, 1, 0, 0, []), (137, 12, 49, 1, 0, [12]), (140, 4, 95, 1, 0, []), (143, 1, 0, 0, 0, []), (144, 0, 3, 0, 0, []), (145, 1, 0, 0, 0, []), (146, 3, 12, 42, 0, []), (149, 0, 2, 0, 0, []), (150, 2, 0, 0, 1, []), (151, 6, 1, 0, 0, []), (152, 5, 0, 0, 0, []), (153, 12, 62, 2, 0, [12]), (156, 7, 3, 0, 0, []), (157, 0, 2, 0, 0, []), (158, 2, 0, 0, 12, []), (160, 18, 0, 0, 0, []), (161, 2, 0, 0, 11, []), (163, 4, 119, 3, 0, []), (166, 1, 0, 0, 0, []), (167, 0, 2, 0, 0, []), (168, 12, 49, 1, 0, [12]), (171, 1, 0, 0, 0, []), (172, 0, 2, 0, 0, []), (173, 2, 0, 0, 1, []), (174, 6, 0, 0, 0, []), (175, 12, 49, 1, 0, [12]), (178, 4, 119, 1, 0, []), (181, 1, 0, 0, 0, []), (182, 0, 3, 0, 0, []), (183, 1, 0, 0, 0, []), (184, 3, 12, 42, 0, []), (187, 0, 2, 0, 0, []), (188, 2, 0, 0, 1, []), (189, 6, 0, 0, 0, []), (190, 5, 0, 0, 0, []), (191, 12, 62, 2, 0, [12]), (194, 7, 3, 0, 0, []), (195, 0, 3, 0, 0, []), (196, 1, 0, 0, 0, []), (197, 3, 12, 42, 0, []), (200, 0, 2, 0, 0, []), (201, 5, 0, 0, 0, []), (202, 4, 126, 1, 0, []), (205, 9, 133, 0, 0, []), (208, 1, 0, 0, 0, []), (209, 3, 12, 42, 0, []), (212, 0, 2, 0, 0, []), (213, 0, 3, 0, 0, []), (214, 11, 0, 0, 0, []), (215, 2, 0, 0, 1, []), (216, 7, 1, 0, 0, []), (217, 8, 2, 0, 1, []), (220, 9, 20, 0, 0, []), (223, 9, 14, 0, 0, []), (226, 16, 0, 0, 0, [])]
def tX12_holes : List PO := [(0, 2, 0, 0, 0, []), (1, 7, 1, 0, 0, []), (2, 2, 0, 0, 0, []), (3, 7, 2, 0, 0, []), (4, 0, 2, 0, 0, []), (5, 2, 0, 0, 144, []), (8, 4, 47, 3, 0, []), (11, 1, 0, 0, 0, []), (12, 3, 12, 42, 0, []), (15, 0, 2, 0, 0, []), (16, 5, 0, 0, 0, []), (17, 0, 2, 0, 0, []), (18, 4, 45, 1, 0, []), (21, 1, 0, 0, 0, []), (22, 0, 2, 0, 0, []), (23, 12, 49, 1, 0, [12]), (26, 10, 18, 0, 0, []), (29, 9, 45, 0, 0, []), (32, 2, 0, 0, 1, []), (33, 7, 3, 0, 0, []), (34, 2, 0, 0, 0, []), (35, 7, 4, 0, 0, []), (37, 0, 4, 0, 0, []), (39, 2, 0, 0, 144, []), (42, 4, 39, 3, 0, []), (45, 1, 0, 0, 0, []), (46, 3, 12, 42, 0, []), (49, 0, 4, 0, 0, []), (51, 5, 0, 0, 0, []), (52, 0, 2, 0, 0, []), (53, 4, 37, 1, 0, []), (56, 1, 0, 0, 0, []), (57, 0, 4, 0, 0, []), (59, 12, 65, 1, 0, [12]), (62, 10, 37, 0, 0, []), (65, 2, 0, 0, 0, []), (66, 7, 3, 0, 0, []), (67, 8, 4, 0, 1, []), (70, 9, 22, 0, 0, []), (73, 0, 3, 0, 0, []), (74, 10, 45, 0, 0, []), (77, 0, 1, 0, 0, []), (78, 2, 0, 0, 1, []), (79, 6, 0, 0, 0, []), (80, 7, 1, 0, 0, []), (81, 8, 2, 0, 1, []), (84, 9, 4, 0, 0, []), (87, 0, 1, 0, 0, []), (88, 14, 0, 0, 0, [])]
def tX12_isAtEdge : List PO := [(0, 0, 1, 0, 0, []), (1, 2, 0, 0, 12, []), (3, 4, 15, 2, 0, []), (6, 0, 1, 0, 0, []), (7, 2, 0, 0, 132, []), (10, 4, 15, 3, 0, []), (13, 0, 1, 0, 0, []), (14, 2, 0, 0, 12, []), (16, 18, 0, 0, 0, []), (17, 10, 15, 0, 0, []), (20, 0, 1, 0, 0, []), (21, 2, 0, 0, 12, []), (23, 18, 0, 0, 0, []), (24, 2, 0, 0, 11, []), (26, 4, 17, 1, 0, []), (29, 2, 0, 0, 1, []), (30, 9, 18, 0, 0, []), (33, 2, 0, 0, 0, []), (34, 15, 0, 0, 0, [])]
def tX12_blobs : List PO := [(0, 2, 0, 0, 0, []), (1, 7, 2, 0, 0, []), (2, 2, 0, 0, 0, []), (3, 7, 3, 0, 0, []), (4, 2, 0, 0, 0, []), (5, 7, 4, 0, 0, []), (7, 0, 4, 0, 0, []), (9, 2, 0, 0, 144, []), (12, 4, 33, 3, 0, []), (15, 1, 0, 0, 0, []), (16, 3, 12, 42, 0, []), (19, 0, 4, 0, 0, []), (21, 5, 0, 0, 0, []), (22, 0, 4, 0, 0, []), (24, 4, 31, 1, 0, []), (27, 1, 0, 0, 0, []), (28, 0, 4, 0, 0, []), (30, 12, 49, 1, 0, [12]), (33, 10, 20, 1, 0, []), (36, 9, 31, 0, 0, []), (39, 0, 2, 0, 0, []), (40, 2, 0, 0, 1, []), (41, 6, 0, 0, 0, []), (42, 7, 2, 0, 0, []), (43, 1, 0, 0, 0, []), (44, 0, 3, 0, 0, []), (45, 1, 0, 0, 0, []), (46, 0, 4, 0, 0, []), (48, 12, 67, 1, 0, [12]), (51, 12, 68, 2, 0, [12]), (54, 7, 3, 0, 0, []), (55, 8, 4, 0, 1, []), (58, 9, 6, 0, 0, []), (61, 0, 1, 0, 0, []), (62, 10, 37, 0, 0, []), (65, 0, 3, 0, 0, []), (66, 9, 38, 0, 0, []), (69, 0, 2, 0, 0, []), (70, 14, 0, 0, 0, [])]
def tX12_partOf : List PO := [(0, 2, 0, 0, 0, []), (1, 7, 2, 0, 0, []), (2, 2, 0, 0, 0, []), (3, 7, 3, 0, 0, []), (4, 0, 3, 0, 0, []), (5, 2, 0, 0, 144, []), (8, 4, 19, 3, 0, []), (11, 1, 0, 0, 0, []), (12, 3, 12, 42, 0, []), (15, 0, 3, 0, 0, []), (16, 5, 0, 0, 0, []), (17, 0, 1, 0, 0, []), (18, 4, 17, 1, 0, []), (21, 0, 2, 0, 0, []), (22, 2, 0, 0, 1, []), (23, 6, 0, 0, 0, []), (24, 7, 2, 0, 0, []), (25, 8, 3, 0, 1, []), (28, 9, 4, 0, 0, []), (31, 0, 2, 0, 0, []), (32, 14, 0, 0, 0, [])]
def tX12_greater : List PO := [(0, 0, 1, 0, 0, []), (1, 0, 2, 0, 0, []), (2, 4, 5, 5, 0, []), (5, 0, 1, 0, 0, []), (6, 9, 6, 0, 0, []), (9, 0, 2, 0, 0, []), (10, 14, 0, 0, 0, [])]
def tX12_game : List PO := [(0, 1, 0, 0, 0, []), (1, 2, 0, 0, 0, []), (2, 19, 12, 0, 0, []), (5, 1, 0, 0, 0, []), (6, 0, 2, 0, 0, []), (7, 2, 0, 0, 0, []), (8, 2, 0, 0, 1, []), (9, 12, 47, 3, 0, [12]), (12, 10, 13, 0, 0, []), (15, 1, 0, 0, 0, []), (16, 0, 1, 0, 0, []), (17, 12, 70, 1, 0, [12]), (20, 10, 15, 1, 0, []), (23, 2, 0, 0, (-10), []), (25, 14, 0, 0, 0, []), (26, 2, 0, 0, 0, []), (27, 7, 3, 0, 0, []), (28, 2, 0, 0, 0, []), (29, 7, 4, 0, 0, []), (31, 0, 4, 0, 0, []), (33, 2, 0, 0, 9, []), (35, 4, 33, 3, 0, []), (38, 2, 0, 0, 3, []), (39, 0, 3, 0, 0, []), (40, 6, 2, 0, 0, []), (41, 1, 0, 0, 0, []), (42, 3, 12, 69, 0, []), (45, 0, 4, 0, 0, []), (47, 5, 0, 0, 0, []), (48, 6, 0, 0, 0, []), (49, 7, 3, 0, 0, []), (50, 8, 4, 0, 1, []), (53, 9, 19, 0, 0, []), (56, 1, 0, 0, 0, []), (57, 0, 3, 0, 0, []), (58, 12, 74, 1, 0, [12]), (61, 1, 0, 0, 0, []), (62, 0, 3, 0, 0, []), (63, 2, 0, 0, 3, []), (64, 12, 71, 2, 0, [12]), (67, 0, 2, 0, 0, []), (68, 10, 47, 1, 0, []), (71, 1, 0, 0, 0, []), (72, 3, 12, 68, 0, []), (75, 0, 3, 0, 0, []), (76, 5, 0, 0, 0, []), (77, 14, 0, 0, 0, []), (78, 1, 0, 0, 0, []), (79, 12, 78, 0, 0, [12]), (82, 10, 52, 0, 0, []), (85, 2, 0, 0, (-1), []), (86, 14, 0, 0, 0, []), (87, 2, 0, 0, 0, []), (88, 7, 4, 0, 0, []), (90, 0, 4, 0, 0, []), (92, 2, 0, 0, 9, []), (94, 4, 83, 3, 0, []), (97, 1, 0, 0, 0, []), (98, 3, 12, 69, 0, []), (101, 0, 4, 0, 0, []), (103, 5, 0, 0, 0, []), (104, 10, 81, 1, 0, []), (107, 1, 0, 0, 0, []), (108, 3, 12, 68, 0, []), (111, 0, 3, 0, 0, []), (112, 1, 0, 0, 0, []), (113, 12, 76, 0, 0, [12]), (116, 1, 0, 0, 0, []), (117, 0, 4, 0, 0, []), (119, 12, 77, 1, 0, [12]), (122, 6, 2, 0, 0, []), (123, 6, 0, 0, 0, []), (124, 5, 0, 0, 0, []), (125, 20, 0, 0, 0, []), (126, 1, 0, 0, 0, []), (127, 3, 12, 68, 0, []), (130, 0, 3, 0, 0, []), (131, 5, 0, 0, 0, []), (132, 4, 81, 1, 0, []), (135, 0, 4, 0, 0, []), (137, 14, 0, 0, 0, []), (138, 8, 4, 0, 1, []), (141, 9, 54, 0, 0, []), (144, 2, 0, 0, (-1), []), (145, 14, 0, 0, 0, [])]
def tX12_isGame : List PO := [(0, 1, 0, 0, 0, []), (1, 0, 1, 0, 0, []), (2, 2, 0, 0, 0, []), (3, 2, 0, 0, 222222222, []), (6, 12, 47, 3, 0, [12]), (9, 10, 8, 1, 0, []), (12, 2, 0, 0, 0, []), (13, 15, 0, 0, 0, []), (14, 1, 0, 0, 0, []), (15, 0, 1, 0, 0, []), (16, 2, 0, 0, 10, []), (18, 12, 71, 2, 0, [12]), (21, 2, 0, 0, 0, []), (22, 7, 2, 0, 0, []), (23, 0, 2, 0, 0, []), (24, 2, 0, 0, 9, []), (26, 4, 27, 3, 0, []), (29, 1, 0, 0, 0, []), (30, 3, 12, 69, 0, []), (33, 0, 2, 0, 0, []), (34, 5, 0, 0, 0, []), (35, 2, 0, 0, 2, []), (36, 4, 25, 5, 0, []), (39, 2, 0, 0, 0, []), (40, 15, 0, 0, 0, []), (41, 8, 2, 0, 1, []), (44, 9, 14, 0, 0, []), (47, 1, 0, 0, 0, []), (48, 3, 12, 70, 0, []), (51, 1, 0, 0, 0, []), (52, 3, 12, 71, 0, []), (55, 4, 39, 0, 0, []), (58, 1, 0, 0, 0, []), (59, 3, 12, 70, 0, []), (62, 1, 0, 0, 0, []), (63, 3, 12, 71, 0, []), (66, 2, 0, 0, 1, []), (67, 6, 0, 0, 0, []), (68, 4, 49, 1, 0, []), (71, 1, 0, 0, 0, []), (72, 2, 0, 0, 1, []), (73, 12, 72, 1, 0, [12]), (76, 10, 47, 0, 0, []), (79, 1, 0, 0, 0, []), (80, 2, 0, 0, 2, []), (81, 12, 72, 1, 0, [12]), (84, 10, 49, 1, 0, []), (87, 2, 0, 0, 1, []), (88, 9, 50, 0, 0, []), (91, 2, 0, 0, 0, []), (92, 15, 0, 0, 0, [])]
def tX12_takesNine : List PO := [(0, 0, 1, 0, 0, []), (1, 7, 3, 0, 0, []), (2, 1, 0, 0, 0, []), (3, 2, 0, 0, 0, []), (4, 19, 12, 70, 0, []), (7, 1, 0, 0, 0, []), (8, 2, 0, 0, 0, []), (9, 19, 12, 71, 0, []), (12, 2, 0, 0, 8, []), (14, 7, 4, 0, 0, []), (16, 0, 4, 0, 0, []), (18, 10, 49, 2, 0, []), (21, 1, 0, 0, 0, []), (22, 3, 12, 69, 0, []), (25, 0, 4, 0, 0, []), (27, 0, 3, 0, 0, []), (28, 0, 2, 0, 0, []), (29, 18, 0, 0, 0, []), (30, 11, 0, 0, 0, []), (31, 0, 3, 0, 0, []), (32, 0, 2, 0, 0, []), (33, 17, 0, 0, 0, []), (34, 7, 3, 0, 0, []), (35, 1, 0, 0, 0, []), (36, 3, 12, 69, 0, []), (39, 0, 4, 0, 0, []), (41, 5, 0, 0, 0, []), (42, 2, 0, 0, 1, []), (43, 4, 35, 1, 0, []), (46, 1, 0, 0, 0, []), (47, 1, 0, 0, 0, []), (48, 3, 12, 70, 0, []), (51, 2, 0, 0, 1, []), (52, 6, 0, 0, 0, []), (53, 19, 12, 70, 0, []), (56, 1, 0, 0, 0, []), (57, 3, 12, 69, 0, []), (60, 0, 4, 0, 0, []), (62, 5, 0, 0, 0, []), (63, 2, 0, 0, 2, []), (64, 4, 47, 1, 0, []), (67, 1, 0, 0, 0, []), (68, 1, 0, 0, 0, []), (69, 3, 12, 71, 0, []), (72, 2, 0, 0, 1, []), (73, 6, 0, 0, 0, []), (74, 19, 12, 71, 0, []), (77, 8, 4, 0, (-1), []), (80, 9, 10, 0, 0, []), (83, 16, 0, 0, 0, [])]
def tX12_hasThree : List PO := [(0, 2, 0, 0, 0, []), (1, 7, 2, 0, 0, []), (2, 0, 2, 0, 0, []), (3, 2, 0, 0, 3, []), (4, 4, 37, 3, 0, []), (7, 1, 0, 0, 0, []), (8, 2, 0, 0, 3, []), (9, 0, 2, 0, 0, []), (10, 6, 2, 0, 0, []), (11, 2, 0, 0, 3, []), (12, 0, 2, 0, 0, []), (13, 6, 2, 0, 0, []), (14, 2, 0, 0, 1, []), (15, 6, 0, 0, 0, []), (16, 2, 0, 0, 3, []), (17, 0, 2, 0, 0, []), (18, 6, 2, 0, 0, []), (19, 2, 0, 0, 2, []), (20, 6, 0, 0, 0, []), (21, 0, 1, 0, 0, []), (22, 12, 73, 4, 0, [12]), (25, 10, 33, 1, 0, []), (28, 1, 0, 0, 0, []), (29, 0, 2, 0, 0, []), (30, 0, 2, 0, 0, []), (31, 2, 0, 0, 3, []), (32, 6, 0, 0, 0, []), (33, 0, 2, 0, 0, []), (34, 2, 0, 0, 6, []), (36, 6, 0, 0, 0, []), (37, 0, 1, 0, 0, []), (38, 12, 73, 4, 0, [12]), (41, 10, 35, 0, 0, []), (44, 2, 0, 0, 1, []), (45, 15, 0, 0, 0, []), (46, 8, 2, 0, 1, []), (49, 9, 2, 0, 0, []), (52, 1, 0, 0, 0, []), (53, 2, 0, 0, 0, []), (54, 2, 0, 0, 4, []), (55, 2, 0, 0, 8, []), (57, 0, 1, 0, 0, []), (58, 12, 73, 4, 0, [12]), (61, 10, 51, 1, 0, []), (64, 1, 0, 0, 0, []), (65, 2, 0, 0, 2, []), (66, 2, 0, 0, 4, []), (67, 2, 0, 0, 6, []), (69, 0, 1, 0, 0, []), (70, 12, 73, 4, 0, [12]), (73, 10, 53, 0, 0, []), (76, 2, 0, 0, 1, []), (77, 9, 54, 0, 0, []), (80, 2, 0, 0, 0, []), (81, 15, 0, 0, 0, [])]
def tX12_areThree : List PO := [(0, 1, 0, 0, 0, []), (1, 3, 12, 69, 0, []), (4, 0, 1, 0, 0, []), (5, 5, 0, 0, 0, []), (6, 0, 4, 0, 0, []), (8, 4, 20, 1, 0, []), (11, 1, 0, 0, 0, []), (12, 3, 12, 69, 0, []), (15, 0, 2, 0, 0, []), (16, 5, 0, 0, 0, []), (17, 0, 4, 0, 0, []), (19, 4, 20, 1, 0, []), (22, 1, 0, 0, 0, []), (23, 3, 12, 69, 0, []), (26, 0, 3, 0, 0, []), (27, 5, 0, 0, 0, []), (28, 0, 4, 0, 0, []), (30, 4, 20, 1, 0, []), (33, 2, 0, 0, 1, []), (34, 9, 21, 0, 0, []), (37, 2, 0, 0, 0, []), (38, 15, 0, 0, 0, [])]
def tX12_findsWorth : List PO := [(0, 2, 0, 0, 19682, []), (3, 7, 2, 0, 0, []), (4, 0, 2, 0, 0, []), (5, 0, 1, 0, 0, []), (6, 4, 32, 2, 0, []), (9, 1, 0, 0, 0, []), (10, 0, 2, 0, 0, []), (11, 2, 0, 0, 3, []), (12, 12, 71, 2, 0, [12]), (15, 1, 0, 0, 0, []), (16, 3, 12, 68, 0, []), (19, 0, 2, 0, 0, []), (20, 1, 0, 0, 0, []), (21, 3, 12, 70, 0, []), (24, 1, 0, 0, 0, []), (25, 3, 12, 71, 0, []), (28, 4, 24, 0, 0, []), (31, 1, 0, 0, 0, []), (32, 3, 12, 70, 0, []), (35, 1, 0, 0, 0, []), (36, 3, 12, 71, 0, []), (39, 2, 0, 0, 1, []), (40, 6, 0, 0, 0, []), (41, 4, 28, 1, 0, []), (44, 1, 0, 0, 0, []), (45, 0, 2, 0, 0, []), (46, 12, 75, 1, 0, [12]), (49, 9, 29, 0, 0, []), (52, 2, 0, 0, 0, []), (53, 11, 0, 0, 0, []), (54, 8, 2, 0, (-1), []), (57, 9, 2, 0, 0, []), (60, 16, 0, 0, 0, [])]
def tX12_worthNow : List PO := [(0, 1, 0, 0, 0, []), (1, 12, 76, 0, 0, [12]), (4, 7, 2, 0, 0, []), (5, 1, 0, 0, 0, []), (6, 0, 2, 0, 0, []), (7, 12, 72, 1, 0, [12]), (10, 10, 9, 0, 0, []), (13, 2, 0, 0, 1, []), (14, 14, 0, 0, 0, []), (15, 1, 0, 0, 0, []), (16, 2, 0, 0, 3, []), (17, 0, 2, 0, 0, []), (18, 6, 1, 0, 0, []), (19, 12, 72, 1, 0, [12]), (22, 10, 17, 0, 0, []), (25, 2, 0, 0, (-1), []), (26, 14, 0, 0, 0, []), (27, 1, 0, 0, 0, []), (28, 3, 12, 70, 0, []), (31, 1, 0, 0, 0, []), (32, 3, 12, 71, 0, []), (35, 6, 0, 0, 0, []), (36, 2, 0, 0, 9, []), (38, 4, 26, 1, 0, []), (41, 2, 0, 0, 0, []), (42, 14, 0, 0, 0, []), (43, 2, 0, 0, (-1), []), (44, 7, 3, 0, 0, []), (45, 2, 0, 0, 0, []), (46, 7, 4, 0, 0, []), (48, 0, 4, 0, 0, []), (50, 2, 0, 0, 9, []), (52, 4, 55, 3, 0, []), (55, 1, 0, 0, 0, []), (56, 3, 12, 69, 0, []), (59, 0, 4, 0, 0, []), (61, 5, 0, 0, 0, []), (62, 10, 53, 1, 0, []), (65, 1, 0, 0, 0, []), (66, 0, 3, 0, 0, []), (67, 1, 0, 0, 0, []), (68, 3, 12, 68, 0, []), (71, 0, 1, 0, 0, []), (72, 0, 2, 0, 0, []), (73, 1, 0, 0, 0, []), (74, 0, 4, 0, 0, []), (76, 12, 77, 1, 0, [12]), (79, 6, 2, 0, 0, []), (80, 6, 0, 0, 0, []), (81, 5, 0, 0, 0, []), (82, 20, 0, 0, 0, []), (83, 12, 68, 2, 0, [12]), (86, 7, 3, 0, 0, []), (87, 8, 4, 0, 1, []), (90, 9, 30, 0, 0, []), (93, 0, 3, 0, 0, []), (94, 14, 0, 0, 0, [])]
def tX12_nextUp : List PO := [(0, 1, 0, 0, 0, []), (1, 3, 12, 70, 0, []), (4, 1, 0, 0, 0, []), (5, 3, 12, 71, 0, []), (8, 4, 7, 1, 0, []), (11, 2, 0, 0, 1, []), (12, 9, 8, 0, 0, []), (15, 2, 0, 0, 2, []), (16, 14, 0, 0, 0, [])]
def tX12_powerOf : List PO := [(0, 2, 0, 0, 1, []), (1, 7, 2, 0, 0, []), (2, 2, 0, 0, 8, []), (4, 7, 3, 0, 0, []), (5, 0, 3, 0, 0, []), (6, 0, 1, 0, 0, []), (7, 4, 13, 5, 0, []), (10, 0, 2, 0, 0, []), (11, 2, 0, 0, 3, []), (12, 6, 2, 0, 0, []), (13, 7, 2, 0, 0, []), (14, 8, 3, 0, (-1), []), (17, 9, 4, 0, 0, []), (20, 0, 2, 0, 0, []), (21, 14, 0, 0, 0, [])]
def tX12_isOver : List PO := [(0, 1, 0, 0, 0, []), (1, 2, 0, 0, 1, []), (2, 12, 72, 1, 0, [12]), (5, 10, 15, 1, 0, []), (8, 1, 0, 0, 0, []), (9, 2, 0, 0, 2, []), (10, 12, 72, 1, 0, [12]), (13, 10, 15, 1, 0, []), (16, 1, 0, 0, 0, []), (17, 3, 12, 70, 0, []), (20, 1, 0, 0, 0, []), (21, 3, 12, 71, 0, []), (24, 6, 0, 0, 0, []), (25, 2, 0, 0, 9, []), (27, 4, 17, 1, 0, []), (30, 2, 0, 0, 1, []), (31, 9, 18, 0, 0, []), (34, 2, 0, 0, 0, []), (35, 15, 0, 0, 0, [])]
def mY (k : Nat) : MethodName := match k with
  | 0 => yX11_order
  | 1 => yX4_rowsOfAll
  | 2 => yJ7_fill_53178
  | 3 => yX9_item
  | 4 => yX11_wax
  | 5 => yX1_sum
  | 6 => yX0_marked
  | 7 => yX0_way
  | 8 => yX0_mark
  | 9 => yJ6_compare_7cf53
  | 10 => yX1_weighs
  | 11 => yX0_owner
  | 12 => yX1_layValues
  | 13 => yX0_trait
  | 14 => yX0_has
  | 15 => yX0_depth
  | 16 => yX0_besides
  | 17 => yX8_tells
  | 18 => yX8_number
  | 19 => yX8_run
  | 20 => yX8_part
  | 21 => yX8_join
  | 22 => yX1_held
  | 23 => yX1_turned
  | 24 => yX6_blobs
  | 25 => yX6_pieces
  | 26 => yX6_spread
  | 27 => yX6_reach
  | 28 => yX11_cellAt
  | 29 => yX6_greatestBlob
  | 30 => yX6_holes
  | 31 => yX6_unlike
  | 32 => yX6_bareSquare
  | 33 => yX6_squareBehind
  | 34 => yX11_game
  | 35 => yX2_lay
  | 36 => yX2_hasThree
  | 37 => yX2_valueForNext
  | 38 => yX2_value
  | 39 => yX2_recall
  | 40 => yX2_whoIsNext
  | 41 => yX2_valueOfMove
  | 42 => yX2_keepValue
  | 43 => yX2_firstThatKeeps
  | 44 => yX12_order
  | 45 => yX12_has
  | 46 => yX12_wax
  | 47 => yX12_isIn
  | 48 => yX12_sumOf
  | 49 => yX12_isMarked
  | 50 => yX12_weighsOf
  | 51 => yX12_asksOf
  | 52 => yX12_asks
  | 53 => yX12_besideOf
  | 54 => yX12_lawTells
  | 55 => yX12_lineOf
  | 56 => yX12_runs
  | 57 => yX12_twoOf
  | 58 => yX12_held
  | 59 => yX12_turned
  | 60 => yX12_notFace
  | 61 => yX12_bareSquare
  | 62 => yX12_lesser
  | 63 => yX12_findsParts
  | 64 => yX12_holes
  | 65 => yX12_isAtEdge
  | 66 => yX12_blobs
  | 67 => yX12_partOf
  | 68 => yX12_greater
  | 69 => yX12_game
  | 70 => yX12_isGame
  | 71 => yX12_takesNine
  | 72 => yX12_hasThree
  | 73 => yX12_areThree
  | 74 => yX12_findsWorth
  | 75 => yX12_worthNow
  | 76 => yX12_nextUp
  | 77 => yX12_powerOf
  | 78 => yX12_isOver
  | _ => yX11_order

def mC (k : Nat) : ByteArray := match k with
  | 0 => cX11_order
  | 1 => cX4_rowsOfAll
  | 2 => cJ7_fill_53178
  | 3 => cX9_item
  | 4 => cX11_wax
  | 5 => cX1_sum
  | 6 => cX0_marked
  | 7 => cX0_way
  | 8 => cX0_mark
  | 9 => cJ6_compare_7cf53
  | 10 => cX1_weighs
  | 11 => cX0_owner
  | 12 => cX1_layValues
  | 13 => cX0_trait
  | 14 => cX0_has
  | 15 => cX0_depth
  | 16 => cX0_besides
  | 17 => cX8_tells
  | 18 => cX8_number
  | 19 => cX8_run
  | 20 => cX8_part
  | 21 => cX8_join
  | 22 => cX1_held
  | 23 => cX1_turned
  | 24 => cX6_blobs
  | 25 => cX6_pieces
  | 26 => cX6_spread
  | 27 => cX6_reach
  | 28 => cX11_cellAt
  | 29 => cX6_greatestBlob
  | 30 => cX6_holes
  | 31 => cX6_unlike
  | 32 => cX6_bareSquare
  | 33 => cX6_squareBehind
  | 34 => cX11_game
  | 35 => cX2_lay
  | 36 => cX2_hasThree
  | 37 => cX2_valueForNext
  | 38 => cX2_value
  | 39 => cX2_recall
  | 40 => cX2_whoIsNext
  | 41 => cX2_valueOfMove
  | 42 => cX2_keepValue
  | 43 => cX2_firstThatKeeps
  | 44 => cX12_order
  | 45 => cX12_has
  | 46 => cX12_wax
  | 47 => cX12_isIn
  | 48 => cX12_sumOf
  | 49 => cX12_isMarked
  | 50 => cX12_weighsOf
  | 51 => cX12_asksOf
  | 52 => cX12_asks
  | 53 => cX12_besideOf
  | 54 => cX12_lawTells
  | 55 => cX12_lineOf
  | 56 => cX12_runs
  | 57 => cX12_twoOf
  | 58 => cX12_held
  | 59 => cX12_turned
  | 60 => cX12_notFace
  | 61 => cX12_bareSquare
  | 62 => cX12_lesser
  | 63 => cX12_findsParts
  | 64 => cX12_holes
  | 65 => cX12_isAtEdge
  | 66 => cX12_blobs
  | 67 => cX12_partOf
  | 68 => cX12_greater
  | 69 => cX12_game
  | 70 => cX12_isGame
  | 71 => cX12_takesNine
  | 72 => cX12_hasThree
  | 73 => cX12_areThree
  | 74 => cX12_findsWorth
  | 75 => cX12_worthNow
  | 76 => cX12_nextUp
  | 77 => cX12_powerOf
  | 78 => cX12_isOver
  | _ => cX11_order

def mN (k : Nat) : Nat := match k with
  | 0 => 1
  | 1 => 5
  | 2 => 4
  | 3 => 2
  | 4 => 2
  | 5 => 3
  | 6 => 2
  | 7 => 2
  | 8 => 2
  | 9 => 2
  | 10 => 2
  | 11 => 3
  | 12 => 4
  | 13 => 4
  | 14 => 2
  | 15 => 2
  | 16 => 4
  | 17 => 9
  | 18 => 4
  | 19 => 9
  | 20 => 2
  | 21 => 3
  | 22 => 2
  | 23 => 5
  | 24 => 2
  | 25 => 8
  | 26 => 5
  | 27 => 4
  | 28 => 3
  | 29 => 2
  | 30 => 2
  | 31 => 7
  | 32 => 6
  | 33 => 2
  | 34 => 3
  | 35 => 7
  | 36 => 3
  | 37 => 1
  | 38 => 6
  | 39 => 3
  | 40 => 1
  | 41 => 6
  | 42 => 4
  | 43 => 3
  | 44 => 4
  | 45 => 3
  | 46 => 2
  | 47 => 4
  | 48 => 3
  | 49 => 2
  | 50 => 2
  | 51 => 2
  | 52 => 3
  | 53 => 3
  | 54 => 5
  | 55 => 3
  | 56 => 6
  | 57 => 4
  | 58 => 4
  | 59 => 5
  | 60 => 4
  | 61 => 4
  | 62 => 3
  | 63 => 4
  | 64 => 5
  | 65 => 2
  | 66 => 5
  | 67 => 4
  | 68 => 3
  | 69 => 5
  | 70 => 3
  | 71 => 5
  | 72 => 3
  | 73 => 5
  | 74 => 3
  | 75 => 5
  | 76 => 1
  | 77 => 4
  | 78 => 1
  | _ => 0

def mR (k : Nat) : Option FieldType := match k with
  | 0 => (some .int)
  | 1 => (some .int)
  | 2 => none
  | 3 => (some .int)
  | 4 => (some .int)
  | 5 => (some .int)
  | 6 => (some .boolean)
  | 7 => (some .int)
  | 8 => (some .int)
  | 9 => (some .int)
  | 10 => (some .int)
  | 11 => (some .int)
  | 12 => none
  | 13 => (some .int)
  | 14 => (some .boolean)
  | 15 => (some .int)
  | 16 => (some .int)
  | 17 => (some .int)
  | 18 => (some .int)
  | 19 => (some .int)
  | 20 => (some .int)
  | 21 => (some .int)
  | 22 => (some .int)
  | 23 => (some .int)
  | 24 => (some .int)
  | 25 => (some .int)
  | 26 => none
  | 27 => none
  | 28 => (some .int)
  | 29 => (some .int)
  | 30 => (some .int)
  | 31 => (some .int)
  | 32 => (some .int)
  | 33 => (some .int)
  | 34 => (some .int)
  | 35 => (some .boolean)
  | 36 => (some .boolean)
  | 37 => (some .int)
  | 38 => (some .int)
  | 39 => (some .int)
  | 40 => (some .int)
  | 41 => (some .int)
  | 42 => none
  | 43 => (some .int)
  | 44 => (some .int)
  | 45 => (some .boolean)
  | 46 => (some .int)
  | 47 => (some .boolean)
  | 48 => (some .int)
  | 49 => (some .boolean)
  | 50 => (some .int)
  | 51 => none
  | 52 => none
  | 53 => (some .int)
  | 54 => (some .int)
  | 55 => (some .int)
  | 56 => (some .int)
  | 57 => (some .int)
  | 58 => (some .int)
  | 59 => (some .int)
  | 60 => (some .int)
  | 61 => (some .int)
  | 62 => (some .int)
  | 63 => none
  | 64 => (some .int)
  | 65 => (some .boolean)
  | 66 => (some .int)
  | 67 => (some .int)
  | 68 => (some .int)
  | 69 => (some .int)
  | 70 => (some .boolean)
  | 71 => none
  | 72 => (some .boolean)
  | 73 => (some .boolean)
  | 74 => none
  | 75 => (some .int)
  | 76 => (some .int)
  | 77 => (some .int)
  | 78 => (some .boolean)
  | _ => none

def mP (k : Nat) : List PO := match k with
  | 0 => tX11_order
  | 1 => tX4_rowsOfAll
  | 2 => tJ7_fill_53178
  | 3 => tX9_item
  | 4 => tX11_wax
  | 5 => tX1_sum
  | 6 => tX0_marked
  | 7 => tX0_way
  | 8 => tX0_mark
  | 9 => tJ6_compare_7cf53
  | 10 => tX1_weighs
  | 11 => tX0_owner
  | 12 => tX1_layValues
  | 13 => tX0_trait
  | 14 => tX0_has
  | 15 => tX0_depth
  | 16 => tX0_besides
  | 17 => tX8_tells
  | 18 => tX8_number
  | 19 => tX8_run
  | 20 => tX8_part
  | 21 => tX8_join
  | 22 => tX1_held
  | 23 => tX1_turned
  | 24 => tX6_blobs
  | 25 => tX6_pieces
  | 26 => tX6_spread
  | 27 => tX6_reach
  | 28 => tX11_cellAt
  | 29 => tX6_greatestBlob
  | 30 => tX6_holes
  | 31 => tX6_unlike
  | 32 => tX6_bareSquare
  | 33 => tX6_squareBehind
  | 34 => tX11_game
  | 35 => tX2_lay
  | 36 => tX2_hasThree
  | 37 => tX2_valueForNext
  | 38 => tX2_value
  | 39 => tX2_recall
  | 40 => tX2_whoIsNext
  | 41 => tX2_valueOfMove
  | 42 => tX2_keepValue
  | 43 => tX2_firstThatKeeps
  | 44 => tX12_order
  | 45 => tX12_has
  | 46 => tX12_wax
  | 47 => tX12_isIn
  | 48 => tX12_sumOf
  | 49 => tX12_isMarked
  | 50 => tX12_weighsOf
  | 51 => tX12_asksOf
  | 52 => tX12_asks
  | 53 => tX12_besideOf
  | 54 => tX12_lawTells
  | 55 => tX12_lineOf
  | 56 => tX12_runs
  | 57 => tX12_twoOf
  | 58 => tX12_held
  | 59 => tX12_turned
  | 60 => tX12_notFace
  | 61 => tX12_bareSquare
  | 62 => tX12_lesser
  | 63 => tX12_findsParts
  | 64 => tX12_holes
  | 65 => tX12_isAtEdge
  | 66 => tX12_blobs
  | 67 => tX12_partOf
  | 68 => tX12_greater
  | 69 => tX12_game
  | 70 => tX12_isGame
  | 71 => tX12_takesNine
  | 72 => tX12_hasThree
  | 73 => tX12_areThree
  | 74 => tX12_findsWorth
  | 75 => tX12_worthNow
  | 76 => tX12_nextUp
  | 77 => tX12_powerOf
  | 78 => tX12_isOver
  | _ => []

def hpc (s : List PO) : Nat := match s with
  | [] => 0
  | e :: _ => e.1
theorem hpc_drp {c : List PO} {k : Nat} {e : PO} (h : nth c k = some e) : hpc (drp k c) = e.1 := by
  induction k generalizing c with
  | zero =>
    cases c with
    | nil => cases h
    | cons x t => cases h; rfl
  | succ k ih =>
    cases c with
    | nil => cases h
    | cons x t => exact ih h
def OKs (E : PO → Nat → Prop) (s : List PO) : Prop := match s with
  | [] => True
  | e :: t => E e (hpc t) ∧ OKs E t
theorem okn {E : PO → Nat → Prop} : OKs E [] := trivial
theorem okc {E : PO → Nat → Prop} {e : PO} {np : Nat} {t : List PO} (h1 : E e np) (h2 : OKs E t) (hp : hpc t = np) : OKs E (e :: t) := ⟨by rw [hp]; exact h1, h2⟩
theorem OKs_nth {E : PO → Nat → Prop} : ∀ (k : Nat) (c : List PO) (e : PO), OKs E c → nth c k = some e → E e (hpc (drp (k + 1) c)) := by
  intro k
  induction k with
  | zero =>
    intro c e h hk
    cases c with
    | nil => cases hk
    | cons x t => cases hk; exact h.1
  | succ k ih =>
    intro c e h hk
    cases c with
    | nil => cases hk
    | cons x t => exact ih t e h.2 hk
theorem OKs_drp {E : PO → Nat → Prop} : ∀ (k : Nat) (s : List PO), OKs E s → OKs E (drp k s) := by
  intro k
  induction k with
  | zero => intro s h; exact h
  | succ k ih =>
    intro s h
    cases s with
    | nil => exact trivial
    | cons e t => exact ih t h.2
def Tr (l : Launch) (G : PG) (d : Nat) (own : String) (cc : ByteArray) (nL pc np : Nat) (h h' : PH) (ls ls' : List (Option PV)) (st st' : List PV) : Prop :=
  ∀ (p : Program) (e : Env) (s : State) (m : MethodId) (args : Array Value) (below : List Frame) (meth : Method) (c : Code) (Q : State → Prop), pX p s m args c G nL cc own → PW p l e (rmD (d + 1) 0 0) s m args below meth c G nL Q 0 0 h' np ls' st' → PW p l e (rmD (d + 1) 0 0) s m args below meth c G nL Q 0 0 h pc ls st
def TC (l : Launch) (G : PG) (d : Nat) (own : String) (cc : ByteArray) (nL pc np : Nat) (h : PH) (ls : List (Option PV)) (st st' : List PV) (Φ : Option PV → PH → Prop) : Prop :=
  ∀ (p : Program) (e : Env) (s : State) (m : MethodId) (args : Array Value) (below : List Frame) (meth : Method) (c : Code) (Q : State → Prop), pX p s m args c G nL cc own → (∀ r h', Φ r h' → PW p l e (rmD (d + 1) 0 0) s m args below meth c G nL Q 0 0 h' np ls (r.toList ++ st')) → PW p l e (rmD (d + 1) 0 0) s m args below meth c G nL Q 0 0 h pc ls st
def TR (l : Launch) (G : PG) (d : Nat) (own : String) (cc : ByteArray) (nL : Nat) (ret : Option FieldType) (pc : Nat) (h : PH) (ls : List (Option PV)) (st : List PV) (r : Option PV) : Prop :=
  ∀ (p : Program) (e : Env) (s : State) (m : MethodId) (args : Array Value) (below : List Frame) (meth : Method) (c : Code) (Φ : Option PV → PH → Prop), pX p s m args c G nL cc own → meth.sig.returnType = ret → meth.locks = false → Φ r h → PW p l e (rmD (d + 1) 0 0) s m args below meth c G nL (MQ below (pQ G Φ) args s 0 0 (pF G)) 0 0 h pc ls st
def eOK (own : String) (cc : ByteArray) (nL : Nat) (ret : Option FieldType) (code : List PO) (x : PO) (np : Nat) : Prop := match x with
  | (pc, op, a, b, v, tg) => ∀ (l : Launch) (G : PG) (d : Nat) (h : PH) (ls : List (Option PV)) (st : List PV), match op with
    | 0 => ∀ x : Int32, ls[a]? = some (some (vI x)) → Tr l G d own cc nL pc np h h ls ls st (vI x :: st)
    | 1 => ∀ x : Option Nat, ls[a]? = some (some (.inr (.inl x))) → Tr l G d own cc nL pc np h h ls ls st (.inr (.inl x) :: st)
    | 2 => Tr l G d own cc nL pc np h h ls ls st (vI v :: st)
    | 3 => ∀ (x : Nat) (fs : List PV) (z : PV), h[x]? = some (eO a fs) → fs[b]? = some z → Tr l G d own cc nL pc np h h ls ls (vR x :: st) (z :: st)
    | 4 => ∀ x y : Int32, (pcmp b x y = true → Tr l G d own cc nL pc (hpc (drp a code)) h h ls ls (vI y :: vI x :: st) st) ∧ (pcmp b x y = false → Tr l G d own cc nL pc np h h ls ls (vI y :: vI x :: st) st)
    | 5 => (∀ (x N : Nat) (f : Nat → Int32) (i : Int32), h[x]? = some (eI N f) → vp_in i N → Tr l G d own cc nL pc np h h ls ls (vI i :: vR x :: st) (vI (f i.toNatClampNeg) :: st)) ∧ (∀ (j : Nat) (i : Int32), j < 3 → vp_in i (sN j) → Tr l G d own cc nL pc np h h ls ls (vI i :: vS j :: st) (vI (sF j i.toNatClampNeg) :: st))
    | 6 => ∀ x y : Int32, Tr l G d own cc nL pc np h h ls ls (vI y :: vI x :: st) (vI (pbin a x y) :: st)
    | 7 => ∀ x : Int32, Tr l G d own cc nL pc np h h ls (ls.set a (some (vI x))) (vI x :: st) st
    | 8 => ∀ x : Int32, ls[a]? = some (some (vI x)) → Tr l G d own cc nL pc np h h ls (ls.set a (some (vI (x + v)))) st st
    | 9 => Tr l G d own cc nL pc (hpc (drp a code)) h h ls ls st st
    | 10 => ∀ x : Int32, (pcmp b x 0 = true → Tr l G d own cc nL pc (hpc (drp a code)) h h ls ls (vI x :: st) st) ∧ (pcmp b x 0 = false → Tr l G d own cc nL pc np h h ls ls (vI x :: st) st)
    | 11 => ∀ (x N : Nat) (f : Nat → Int32) (i z : Int32), h[x]? = some (eI N f) → vp_in i N → Tr l G d own cc nL pc np h (h.set x (eI N (upd f i.toNatClampNeg z))) ls ls (vI z :: vI i :: vR x :: st) st
    | 12 => ∀ (As : List PV) (x : Nat) (fs : List PV) (Φ : Option PV → PH → Prop), As.length = b → h[x]? = some (eO (hd0 tg) fs) → st.length ≤ 8 → PMet l G (mY a) (mC a) (mN a) (mR a) d 0 0 (vR x :: As) h Φ → TC l G d own cc nL pc np h ls (As.reverse ++ vR x :: st) st Φ
    | 13 => ∀ (As : List PV) (Φ : Option PV → PH → Prop), As.length = b → st.length ≤ 8 → PMet l G (mY a) (mC a) (mN a) (mR a) d 0 0 As h Φ → TC l G d own cc nL pc np h ls (As.reverse ++ st) st Φ
    | 14 => ∀ z : Int32, TR l G d own cc nL ret pc h ls [vI z] (some (vI z))
    | 15 => ∀ z : Int32, (z = 0 ∨ z = 1) → TR l G d own cc nL ret pc h ls [vI z] (some (vI z))
    | 16 => TR l G d own cc nL ret pc h ls [] none
    | 17 => ∀ x y : Int32, ¬ y = 0 → Tr l G d own cc nL pc np h h ls ls (vI y :: vI x :: st) (vI (x / y) :: st)
    | 18 => ∀ x y : Int32, ¬ y = 0 → Tr l G d own cc nL pc np h h ls ls (vI y :: vI x :: st) (vI (x - x / y * y) :: st)
    | 19 => ∀ (x : Nat) (fs : List PV) (z : Int32), h[x]? = some (eO a fs) → b < fs.length → (v = 0 ∨ z = 0 ∨ z = 1) → Tr l G d own cc nL pc np h (h.set x (eO a (fs.set b (vI z)))) ls ls (vI z :: vR x :: st) st
    | 20 => ∀ x : Int32, Tr l G d own cc nL pc np h h ls ls (vI x :: st) (vI (-x) :: st)
    | 21 => ∀ z : PV, Tr l G d own cc nL pc np h h ls ls (z :: st) (z :: z :: st)
    | 22 => ∀ z w : PV, Tr l G d own cc nL pc np h h ls ls (z :: w :: st) (z :: w :: z :: w :: st)
    | 23 => ∀ z : PV, Tr l G d own cc nL pc np h h ls ls (z :: st) st
    | 24 => (∀ (x N : Nat) (f : Nat → Int32), h[x]? = some (eI N f) → Tr l G d own cc nL pc np h h ls ls (vR x :: st) (vI (Int32.ofNat N) :: st)) ∧ (∀ j : Nat, j < 3 → Tr l G d own cc nL pc np h h ls ls (vS j :: st) (vI (Int32.ofNat (sN j)) :: st))
    | 25 => ∀ (x q N : Nat) (f : Nat → Option Nat) (i : Int32), (q = 1 ∨ q = 2 ∨ q = 3) → h[x]? = some (eR q N f) → vp_in i N → Tr l G d own cc nL pc np h h ls ls (vI i :: vR x :: st) (.inr (.inl (f i.toNatClampNeg)) :: st)
    | 26 => Tr l G d own cc nL pc np h h ls ls st (vS a :: st)
    | 27 => ∀ x y : Int32, st.length ≤ 8 → Tr l G d own cc nL pc np h h ls ls (vI y :: vI x :: st) (vI (if x < y then y else x) :: st)
    | 28 => ∀ x y : Int32, st.length ≤ 8 → Tr l G d own cc nL pc np h h ls ls (vI y :: vI x :: st) (vI (if y < x then y else x) :: st)
    | 29 => ∀ x : Int32, st.length ≤ 8 → Tr l G d own cc nL pc np h h ls ls (vI x :: st) (vI (if 0 ≤ x then x else 0 - x) :: st)
    | 30 => ∀ x : Int32, ((x.toInt < (a : Int) ∨ (b : Int) < x.toInt) → ∀ k, nth tg 0 = some k → Tr l G d own cc nL pc (hpc (drp k code)) h h ls ls (vI x :: st) st) ∧ (¬ (x.toInt < (a : Int) ∨ (b : Int) < x.toInt) → ∀ k, nth tg ((x.toInt - (a : Int)).toNat + 1) = some k → Tr l G d own cc nL pc (hpc (drp k code)) h h ls ls (vI x :: st) st)
    | 31 => ∀ x : Option Nat, Tr l G d own cc nL pc np h h ls (ls.set a (some (.inr (.inl x)))) (.inr (.inl x) :: st) st
    | _ => True
/-! rows: an instruction is an entry -/
section PRows
variable {own : String} {cc : ByteArray} {nL : Nat} {ret : Option FieldType} {code : List PO} {pc a b : Nat} {v : Int32} {tg : List Nat}
theorem tq_iload_n {i : Fin 4} (hd : decode cc pc = .ok (.iload_n i, 1)) : eOK own cc nL ret code (pc, 0, (i : Nat), b, v, tg) (pc + 1) :=
  fun _ _ _ _ _ _ _ hx _ _ _ _ _ _ _ _ _ X k => r_iload_n X hd hx k
theorem tq_iload {i : Nat} (hd : decode cc pc = .ok (.iload i, 2)) : eOK own cc nL ret code (pc, 0, i, b, v, tg) (pc + 2) :=
  fun _ _ _ _ _ _ _ hx _ _ _ _ _ _ _ _ _ X k => r_iload X hd hx k
theorem tq_aload_n {i : Fin 4} (hd : decode cc pc = .ok (.aload_n i, 1)) : eOK own cc nL ret code (pc, 1, (i : Nat), b, v, tg) (pc + 1) := by
  intro l G d h ls st x hx p e s m args below meth c Q X k
  cases x with
  | none => exact r_aload_nN X hd hx k
  | some x => exact r_aload_n X hd hx k
theorem tq_aload {i : Nat} (hd : decode cc pc = .ok (.aload i, 2)) : eOK own cc nL ret code (pc, 1, i, b, v, tg) (pc + 2) := by
  intro l G d h ls st x hx p e s m args below meth c Q X k
  cases x with
  | none => exact r_aloadN X hd hx k
  | some x => exact r_aload X hd hx k
theorem tq_iconst {n : Int} (hd : decode cc pc = .ok (.iconst n, 1)) (hv : Int32.ofInt n = v) : eOK own cc nL ret code (pc, 2, a, b, v, tg) (pc + 1) :=
  fun _ _ _ _ _ _ _ _ _ _ _ _ _ _ _ X k => r_iconst X hd hv k
theorem tq_bipush {n : Int} (hd : decode cc pc = .ok (.bipush n, 2)) (hv : (Int8.ofInt n).toInt32 = v) : eOK own cc nL ret code (pc, 2, a, b, v, tg) (pc + 2) :=
  fun _ _ _ _ _ _ _ _ _ _ _ _ _ _ _ X k => r_bipush X hd hv k
theorem tq_sipush {n : Int} (hd : decode cc pc = .ok (.sipush n, 3)) (hv : (Int16.ofInt n).toInt32 = v) : eOK own cc nL ret code (pc, 2, a, b, v, tg) (pc + 3) :=
  fun _ _ _ _ _ _ _ _ _ _ _ _ _ _ _ X k => r_sipush X hd hv k
theorem tq_ldc {i : Nat} (hw : Cond.constant own i v ∈ lw_ok) (hd : decode cc pc = .ok (.ldc i, 2)) : eOK own cc nL ret code (pc, 2, a, b, v, tg) (pc + 2) :=
  fun _ _ _ _ _ _ _ _ _ _ _ _ _ _ _ X k => r_ldc X hw hd k
theorem tq_ldc_w {i : Nat} (hw : Cond.constant own i v ∈ lw_ok) (hd : decode cc pc = .ok (.ldc_w i, 3)) : eOK own cc nL ret code (pc, 2, a, b, v, tg) (pc + 3) :=
  fun _ _ _ _ _ _ _ _ _ _ _ _ _ _ _ X k => r_ldc_w X hw hd k
theorem tq_get {i : Nat} (F : fkG own i a b) (hd : decode cc pc = .ok (.getfield i, 3)) : eOK own cc nL ret code (pc, 3, a, b, v, tg) (pc + 3) :=
  fun _ _ _ _ _ _ _ _ _ hx hz _ _ _ _ _ _ _ _ _ X k => r_get X F hd hx hz k
theorem tq_iald (hd : decode cc pc = .ok (.iaload, 1)) : eOK own cc nL ret code (pc, 5, a, b, v, tg) (pc + 1) :=
  fun _ _ _ _ _ _ => ⟨fun _ _ _ _ hx hi _ _ _ _ _ _ _ _ _ X k => r_iald X hd hx hi k, fun _ _ hj hi _ _ _ _ _ _ _ _ _ X k => r_sald X hj hd hi k⟩
theorem tq_iadd (hd : decode cc pc = .ok (.iadd, 1)) : eOK own cc nL ret code (pc, 6, 0, b, v, tg) (pc + 1) :=
  fun _ _ _ _ _ _ _ _ _ _ _ _ _ _ _ _ _ X k => r_iadd X hd k
theorem tq_isub (hd : decode cc pc = .ok (.isub, 1)) : eOK own cc nL ret code (pc, 6, 1, b, v, tg) (pc + 1) :=
  fun _ _ _ _ _ _ _ _ _ _ _ _ _ _ _ _ _ X k => r_isub X hd k
theorem tq_imul (hd : decode cc pc = .ok (.imul, 1)) : eOK own cc nL ret code (pc, 6, 2, b, v, tg) (pc + 1) :=
  fun _ _ _ _ _ _ _ _ _ _ _ _ _ _ _ _ _ X k => r_imul X hd k
theorem tq_iand (hd : decode cc pc = .ok (.iand, 1)) : eOK own cc nL ret code (pc, 6, 3, b, v, tg) (pc + 1) :=
  fun _ _ _ _ _ _ _ _ _ _ _ _ _ _ _ _ _ X k => r_iand X hd k
theorem tq_ior (hd : decode cc pc = .ok (.ior, 1)) : eOK own cc nL ret code (pc, 6, 4, b, v, tg) (pc + 1) :=
  fun _ _ _ _ _ _ _ _ _ _ _ _ _ _ _ _ _ X k => r_ior X hd k
theorem tq_ixor (hd : decode cc pc = .ok (.ixor, 1)) : eOK own cc nL ret code (pc, 6, 5, b, v, tg) (pc + 1) :=
  fun _ _ _ _ _ _ _ _ _ _ _ _ _ _ _ _ _ X k => r_ixor X hd k
theorem tq_ishl (hd : decode cc pc = .ok (.ishl, 1)) : eOK own cc nL ret code (pc, 6, 6, b, v, tg) (pc + 1) :=
  fun _ _ _ _ _ _ _ _ _ _ _ _ _ _ _ _ _ X k => r_ishl X hd k
theorem tq_ishr (hd : decode cc pc = .ok (.ishr, 1)) : eOK own cc nL ret code (pc, 6, 7, b, v, tg) (pc + 1) :=
  fun _ _ _ _ _ _ _ _ _ _ _ _ _ _ _ _ _ X k => r_ishr X hd k
theorem tq_iushr (hd : decode cc pc = .ok (.iushr, 1)) : eOK own cc nL ret code (pc, 6, 8, b, v, tg) (pc + 1) :=
  fun _ _ _ _ _ _ _ _ _ _ _ _ _ _ _ _ _ X k => r_iushr X hd rfl k
theorem tq_idiv (hd : decode cc pc = .ok (.idiv, 1)) : eOK own cc nL ret code (pc, 17, a, b, v, tg) (pc + 1) :=
  fun _ _ _ _ _ _ _ _ hy _ _ _ _ _ _ _ _ _ X k => r_idiv X hd hy k
theorem tq_irem (hd : decode cc pc = .ok (.irem, 1)) : eOK own cc nL ret code (pc, 18, a, b, v, tg) (pc + 1) :=
  fun _ _ _ _ _ _ _ _ hy _ _ _ _ _ _ _ _ _ X k => r_irem X hd hy k
theorem tq_ineg (hd : decode cc pc = .ok (.ineg, 1)) : eOK own cc nL ret code (pc, 20, a, b, v, tg) (pc + 1) :=
  fun _ _ _ _ _ _ _ _ _ _ _ _ _ _ _ _ X k => r_ineg X hd k
theorem tq_dup (hd : decode cc pc = .ok (.dup, 1)) : eOK own cc nL ret code (pc, 21, a, b, v, tg) (pc + 1) :=
  fun _ _ _ _ _ _ _ _ _ _ _ _ _ _ _ _ X k => r_dup X hd k
theorem tq_dup2 (hd : decode cc pc = .ok (.dup2, 1)) : eOK own cc nL ret code (pc, 22, a, b, v, tg) (pc + 1) :=
  fun _ _ _ _ _ _ _ _ _ _ _ _ _ _ _ _ _ X k => r_dup2 X hd k
theorem tq_pop (hd : decode cc pc = .ok (.pop, 1)) : eOK own cc nL ret code (pc, 23, a, b, v, tg) (pc + 1) :=
  fun _ _ _ _ _ _ _ _ _ _ _ _ _ _ _ _ X k => r_pop X hd k
theorem tq_istore_n {i : Fin 4} (hd : decode cc pc = .ok (.istore_n i, 1)) (hn : (i : Nat) < nL) : eOK own cc nL ret code (pc, 7, (i : Nat), b, v, tg) (pc + 1) :=
  fun _ _ _ _ _ _ _ _ _ _ _ _ _ _ _ _ X k => r_istore_n X hd hn k
theorem tq_istore {i : Nat} (hd : decode cc pc = .ok (.istore i, 2)) (hn : i < nL) : eOK own cc nL ret code (pc, 7, i, b, v, tg) (pc + 2) :=
  fun _ _ _ _ _ _ _ _ _ _ _ _ _ _ _ _ X k => r_istore X hd hn k
theorem tq_astore_n {i : Fin 4} (hd : decode cc pc = .ok (.astore_n i, 1)) (hn : (i : Nat) < nL) : eOK own cc nL ret code (pc, 31, (i : Nat), b, v, tg) (pc + 1) := by
  intro l G d h ls st x p e s m args below meth c Q X k
  cases x with
  | none => exact r_astore_nN X hd hn k
  | some x => exact r_astore_n X hd hn k
theorem tq_astore {i : Nat} (hd : decode cc pc = .ok (.astore i, 2)) (hn : i < nL) : eOK own cc nL ret code (pc, 31, i, b, v, tg) (pc + 2) := by
  intro l G d h ls st x p e s m args below meth c Q X k
  cases x with
  | none => exact r_astoreN X hd hn k
  | some x => exact r_astore X hd hn k
theorem tq_iinc {i : Nat} {n : Int} (hd : decode cc pc = .ok (.iinc i n, 3)) (hn : i < nL) (hv : Int32.ofInt n = v) : eOK own cc nL ret code (pc, 8, i, b, v, tg) (pc + 3) :=
  fun _ _ _ _ _ _ _ hx _ _ _ _ _ _ _ _ _ X k => r_iinc X hd hx (by rw [hv]) hn k
theorem tq_goto {off : Int} (hd : decode cc pc = .ok (.goto off, 3)) (ht : (pc : Int) + off = ((hpc (drp a code) : Nat) : Int)) : eOK own cc nL ret code (pc, 9, a, b, v, tg) (pc + 3) :=
  fun _ _ _ _ _ _ _ _ _ _ _ _ _ _ _ X k => r_goto X hd ht k
theorem tq_if_eq {off : Int} (hd : decode cc pc = .ok (.ifCond .eq off, 3)) (ht : (pc : Int) + off = ((hpc (drp a code) : Nat) : Int)) : eOK own cc nL ret code (pc, 10, a, 0, v, tg) (pc + 3) :=
  fun _ _ _ _ _ _ _ => ⟨fun q _ _ _ _ _ _ _ _ _ X k => r_if_eq_t X hd ht (of_decide_eq_true (cmp_eq.symm.trans q)) k, fun q _ _ _ _ _ _ _ _ _ X k => r_if_eq_f X hd ht (of_decide_eq_false (cmp_eq.symm.trans q)) k⟩
theorem tq_if_ne {off : Int} (hd : decode cc pc = .ok (.ifCond .ne off, 3)) (ht : (pc : Int) + off = ((hpc (drp a code) : Nat) : Int)) : eOK own cc nL ret code (pc, 10, a, 1, v, tg) (pc + 3) :=
  fun _ _ _ _ _ _ _ => ⟨fun q _ _ _ _ _ _ _ _ _ X k => r_if_ne_t X hd ht (of_decide_eq_true (cmp_ne.symm.trans q)) k, fun q _ _ _ _ _ _ _ _ _ X k => r_if_ne_f X hd ht (Decidable.of_not_not (of_decide_eq_false (cmp_ne.symm.trans q))) k⟩
theorem tq_if_lt {off : Int} (hd : decode cc pc = .ok (.ifCond .lt off, 3)) (ht : (pc : Int) + off = ((hpc (drp a code) : Nat) : Int)) : eOK own cc nL ret code (pc, 10, a, 2, v, tg) (pc + 3) :=
  fun _ _ _ _ _ _ _ => ⟨fun q _ _ _ _ _ _ _ _ _ X k => r_if_lt_t X hd ht (of_decide_eq_true (cmp_lt.symm.trans q)) k, fun q _ _ _ _ _ _ _ _ _ X k => r_if_lt_f X hd ht (of_decide_eq_false (cmp_lt.symm.trans q)) k⟩
theorem tq_if_ge {off : Int} (hd : decode cc pc = .ok (.ifCond .ge off, 3)) (ht : (pc : Int) + off = ((hpc (drp a code) : Nat) : Int)) : eOK own cc nL ret code (pc, 10, a, 3, v, tg) (pc + 3) :=
  fun _ _ _ _ _ _ _ => ⟨fun q _ _ _ _ _ _ _ _ _ X k => r_if_ge_t X hd ht (of_decide_eq_true (cmp_ge.symm.trans q)) k, fun q _ _ _ _ _ _ _ _ _ X k => r_if_ge_f X hd ht (of_decide_eq_false (cmp_ge.symm.trans q)) k⟩
theorem tq_if_gt {off : Int} (hd : decode cc pc = .ok (.ifCond .gt off, 3)) (ht : (pc : Int) + off = ((hpc (drp a code) : Nat) : Int)) : eOK own cc nL ret code (pc, 10, a, 4, v, tg) (pc + 3) :=
  fun _ _ _ _ _ _ _ => ⟨fun q _ _ _ _ _ _ _ _ _ X k => r_if_gt_t X hd ht (of_decide_eq_true (cmp_gt.symm.trans q)) k, fun q _ _ _ _ _ _ _ _ _ X k => r_if_gt_f X hd ht (of_decide_eq_false (cmp_gt.symm.trans q)) k⟩
theorem tq_if_le {off : Int} (hd : decode cc pc = .ok (.ifCond .le off, 3)) (ht : (pc : Int) + off = ((hpc (drp a code) : Nat) : Int)) : eOK own cc nL ret code (pc, 10, a, 5, v, tg) (pc + 3) :=
  fun _ _ _ _ _ _ _ => ⟨fun q _ _ _ _ _ _ _ _ _ X k => r_if_le_t X hd ht (of_decide_eq_true (cmp_le.symm.trans q)) k, fun q _ _ _ _ _ _ _ _ _ X k => r_if_le_f X hd ht (of_decide_eq_false (cmp_le.symm.trans q)) k⟩
theorem tq_icmp_eq {off : Int} (hd : decode cc pc = .ok (.if_icmp .eq off, 3)) (ht : (pc : Int) + off = ((hpc (drp a code) : Nat) : Int)) : eOK own cc nL ret code (pc, 4, a, 0, v, tg) (pc + 3) :=
  fun _ _ _ _ _ _ _ _ => ⟨fun q _ _ _ _ _ _ _ _ _ X k => r_icmp_eq_t X hd ht (of_decide_eq_true (cmp_eq.symm.trans q)) k, fun q _ _ _ _ _ _ _ _ _ X k => r_icmp_eq_f X hd ht (of_decide_eq_false (cmp_eq.symm.trans q)) k⟩
theorem tq_icmp_ne {off : Int} (hd : decode cc pc = .ok (.if_icmp .ne off, 3)) (ht : (pc : Int) + off = ((hpc (drp a code) : Nat) : Int)) : eOK own cc nL ret code (pc, 4, a, 1, v, tg) (pc + 3) :=
  fun _ _ _ _ _ _ _ _ => ⟨fun q _ _ _ _ _ _ _ _ _ X k => r_icmp_ne_t X hd ht (of_decide_eq_true (cmp_ne.symm.trans q)) k, fun q _ _ _ _ _ _ _ _ _ X k => r_icmp_ne_f X hd ht (Decidable.of_not_not (of_decide_eq_false (cmp_ne.symm.trans q))) k⟩
theorem tq_icmp_lt {off : Int} (hd : decode cc pc = .ok (.if_icmp .lt off, 3)) (ht : (pc : Int) + off = ((hpc (drp a code) : Nat) : Int)) : eOK own cc nL ret code (pc, 4, a, 2, v, tg) (pc + 3) :=
  fun _ _ _ _ _ _ _ _ => ⟨fun q _ _ _ _ _ _ _ _ _ X k => r_icmp_lt_t X hd ht (of_decide_eq_true (cmp_lt.symm.trans q)) k, fun q _ _ _ _ _ _ _ _ _ X k => r_icmp_lt_f X hd ht (of_decide_eq_false (cmp_lt.symm.trans q)) k⟩
theorem tq_icmp_ge {off : Int} (hd : decode cc pc = .ok (.if_icmp .ge off, 3)) (ht : (pc : Int) + off = ((hpc (drp a code) : Nat) : Int)) : eOK own cc nL ret code (pc, 4, a, 3, v, tg) (pc + 3) :=
  fun _ _ _ _ _ _ _ _ => ⟨fun q _ _ _ _ _ _ _ _ _ X k => r_icmp_ge_t X hd ht (of_decide_eq_true (cmp_ge.symm.trans q)) k, fun q _ _ _ _ _ _ _ _ _ X k => r_icmp_ge_f X hd ht (of_decide_eq_false (cmp_ge.symm.trans q)) k⟩
theorem tq_icmp_gt {off : Int} (hd : decode cc pc = .ok (.if_icmp .gt off, 3)) (ht : (pc : Int) + off = ((hpc (drp a code) : Nat) : Int)) : eOK own cc nL ret code (pc, 4, a, 4, v, tg) (pc + 3) :=
  fun _ _ _ _ _ _ _ _ => ⟨fun q _ _ _ _ _ _ _ _ _ X k => r_icmp_gt_t X hd ht (of_decide_eq_true (cmp_gt.symm.trans q)) k, fun q _ _ _ _ _ _ _ _ _ X k => r_icmp_gt_f X hd ht (of_decide_eq_false (cmp_gt.symm.trans q)) k⟩
theorem tq_icmp_le {off : Int} (hd : decode cc pc = .ok (.if_icmp .le off, 3)) (ht : (pc : Int) + off = ((hpc (drp a code) : Nat) : Int)) : eOK own cc nL ret code (pc, 4, a, 5, v, tg) (pc + 3) :=
  fun _ _ _ _ _ _ _ _ => ⟨fun q _ _ _ _ _ _ _ _ _ X k => r_icmp_le_t X hd ht (of_decide_eq_true (cmp_le.symm.trans q)) k, fun q _ _ _ _ _ _ _ _ _ X k => r_icmp_le_f X hd ht (of_decide_eq_false (cmp_le.symm.trans q)) k⟩
theorem tq_iast (hd : decode cc pc = .ok (.iastore, 1)) : eOK own cc nL ret code (pc, 11, a, b, v, tg) (pc + 1) :=
  fun _ _ _ _ _ _ _ _ _ _ _ hx hi _ _ _ _ _ _ _ _ _ X k => r_iast X hd hx hi k
theorem tq_callV {i N : Nat} {T : u_T} (K : lkV own i (mY a) (mC a) (mN a) (mR a) b) (hd : decode cc pc = .ok (.invokevirtual i, 3)) (hc : vwCl[hd0 tg]? = some ((mY a).cls, T, N)) (hm : Nat.ble (mN a) 45 = true) : eOK own cc nL ret code (pc, 12, a, b, v, tg) (pc + 3) :=
  fun _ _ d _ _ _ _ _ _ _ hl hx h8 hM _ _ _ _ _ _ _ _ _ X k => r_callV X K hd rfl hl hx hc hM ⟨Nat.le_refl _, by have := Nat.le_of_ble_eq_true hm; show _ ≤ 64 * (d + 1); omega⟩ h8 ⟨Nat.le_refl _, Nat.le_refl _⟩ k
theorem tq_callS {i : Nat} (K : lkS own i (mY a) (mC a) (mN a) (mR a) b) (hd : decode cc pc = .ok (.invokestatic i, 3)) (hm : Nat.ble (mN a) 45 = true) : eOK own cc nL ret code (pc, 13, a, b, v, tg) (pc + 3) :=
  fun _ _ d _ _ _ _ _ hl h8 hM _ _ _ _ _ _ _ _ _ X k => r_callS X K hd rfl hl hM ⟨Nat.le_refl _, by have := Nat.le_of_ble_eq_true hm; show _ ≤ 64 * (d + 1); omega⟩ h8 ⟨Nat.le_refl _, Nat.le_refl _⟩ k
theorem tq_callSN {i : Nat} {host : String} (K : lkN own i (mY a) host (mC a) (mN a) (mR a) b) (hst : Cond.static (mY a) ∈ lw_ok) (hd : decode cc pc = .ok (.invokestatic i, 3)) (hm : Nat.ble (mN a) 45 = true) : eOK own cc nL ret code (pc, 13, a, b, v, tg) (pc + 3) :=
  fun _ _ d _ _ _ _ _ hl h8 hM _ _ _ _ _ _ _ _ _ X k => r_callSN X K hst hd rfl hl hM ⟨Nat.le_refl _, by have := Nat.le_of_ble_eq_true hm; show _ ≤ 64 * (d + 1); omega⟩ h8 ⟨Nat.le_refl _, Nat.le_refl _⟩ k
theorem tq_reti (hd : decode cc pc = .ok (.ireturn, 1)) {np : Nat} : eOK own cc nL (some .int) code (pc, 14, a, b, v, tg) np :=
  fun _ _ _ _ _ _ _ _ _ _ _ _ _ _ _ _ X hr hlk hΦ => r_ret_i X hr hlk hd (Nat.le_refl _) (Nat.le_refl _) hΦ
theorem tq_retz (hd : decode cc pc = .ok (.ireturn, 1)) {np : Nat} : eOK own cc nL (some .boolean) code (pc, 15, a, b, v, tg) np :=
  fun _ _ _ _ _ _ _ hz _ _ _ _ _ _ _ _ _ X hr hlk hΦ => r_ret_z X hr hlk hz hd (Nat.le_refl _) (Nat.le_refl _) hΦ
theorem tq_retv (hd : decode cc pc = .ok (.return_, 1)) {np : Nat} : eOK own cc nL none code (pc, 16, a, b, v, tg) np :=
  fun _ _ _ _ _ _ _ _ _ _ _ _ _ _ _ X hr hlk hΦ => r_ret_v X hr hlk hd (Nat.le_refl _) (Nat.le_refl _) hΦ
theorem tq_putI {i : Nat} (F : fkP own i a b .int) (hd : decode cc pc = .ok (.putfield i, 3)) : eOK own cc nL ret code (pc, 19, a, b, 0, tg) (pc + 3) :=
  fun _ _ _ _ _ _ _ _ _ hx hb _ _ _ _ _ _ _ _ _ _ X k => r_put X F hd hx hb rfl rfl k
theorem tq_putZ {i : Nat} (F : fkP own i a b .boolean) (hd : decode cc pc = .ok (.putfield i, 3)) : eOK own cc nL ret code (pc, 19, a, b, 1, tg) (pc + 3) := by
  intro l G d h ls st x fs z hx hb hz p e s m args below meth c Q X k
  rcases hz with hz | rfl | rfl
  · exact absurd hz (by decide)
  · exact r_put X F hd hx hb rfl rfl k
  · exact r_put X F hd hx hb rfl rfl k
theorem tq_alen (hd : decode cc pc = .ok (.arraylength, 1)) : eOK own cc nL ret code (pc, 24, a, b, v, tg) (pc + 1) :=
  fun _ _ _ _ _ _ => ⟨fun _ _ _ hx _ _ _ _ _ _ _ _ _ X k => r_alen X hd hx rfl k, fun _ hj _ _ _ _ _ _ _ _ _ X k => r_slen X hj hd rfl k⟩
theorem tq_aald (hd : decode cc pc = .ok (.aaload, 1)) : eOK own cc nL ret code (pc, 25, a, b, v, tg) (pc + 1) := by
  intro l G d h ls st x q N f i hq hx hi p e s m args below meth c Q X k
  rcases hq with rfl | rfl | rfl
  · exact r_aald (C := RX0) X rfl hd hx hi k
  · exact r_aald (C := RX8) X rfl hd hx hi k
  · exact r_aald (C := RX9) X rfl hd hx hi k
theorem tq_pow {i : Nat} (hw : Cond.fieldLink own i RX2 "POWERS" "[I" ∈ lw_ok) (hd : decode cc pc = .ok (.getstatic i, 3)) : eOK own cc nL ret code (pc, 26, 1, b, v, tg) (pc + 3) :=
  fun _ _ _ _ _ _ _ _ _ _ _ _ _ _ _ X k => r_pow X hw hd k
theorem tq_thr {i : Nat} (hw : Cond.fieldLink own i RX2 "THREES" "[I" ∈ lw_ok) (hd : decode cc pc = .ok (.getstatic i, 3)) : eOK own cc nL ret code (pc, 26, 2, b, v, tg) (pc + 3) :=
  fun _ _ _ _ _ _ _ _ _ _ _ _ _ _ _ X k => r_thr X hw hd k
theorem chk_m {d k : Nat} (h : k ≤ 8) : chkC (rmD (d + 1) 0 0) 0 2 k 0 0 0 0 = true := by
  simp only [chkC, Bool.and_eq_true, Nat.ble_eq]
  refine ⟨?_, ?_, h, Nat.le_refl _, Nat.le_refl _⟩
  · show 0 + 1 ≤ d + 1
    omega
  · show 8 + (2 + 11) + 64 * 0 ≤ 64 * (d + 1)
    omega
theorem tq_max {i : Nat} (w1 : Cond.methodLink own i Lib.Math.max.name ∈ lw_ok) (hd : decode cc pc = .ok (.invokestatic i, 3)) : eOK own cc nL ret code (pc, 27, a, b, v, tg) (pc + 3) :=
  fun _ _ _ _ _ _ _ _ h8 _ _ _ _ _ _ _ _ _ X k => r_max X w1 hd (chk_m h8) rfl k
theorem tq_min {i : Nat} (w1 : Cond.methodLink own i Lib.Math.min.name ∈ lw_ok) (hd : decode cc pc = .ok (.invokestatic i, 3)) : eOK own cc nL ret code (pc, 28, a, b, v, tg) (pc + 3) :=
  fun _ _ _ _ _ _ _ _ h8 _ _ _ _ _ _ _ _ _ X k => r_min X w1 hd (chk_m h8) rfl k
theorem tq_abs {i : Nat} (w1 : Cond.methodLink own i Lib.Math.abs.name ∈ lw_ok) (hd : decode cc pc = .ok (.invokestatic i, 3)) : eOK own cc nL ret code (pc, 29, a, b, v, tg) (pc + 3) :=
  fun _ _ _ _ _ _ _ h8 _ _ _ _ _ _ _ _ _ X k => r_abs X w1 hd (chk_m h8) rfl k
theorem tq_tab {dflt : Int} {offs : Array Int} {len : Nat} (hd : decode cc pc = .ok (.tableswitch dflt (a : Int) (b : Int) offs, len)) (h0 : (nth tg 0).map (fun k => ((hpc (drp k code) : Nat) : Int)) = some ((pc : Int) + dflt)) (hall : ∀ j, j < b - a + 1 → (nth tg (j + 1)).map (fun k => ((hpc (drp k code) : Nat) : Int)) = (offs[j]?).map (fun o => (pc : Int) + o)) {np : Nat} : eOK own cc nL ret code (pc, 30, a, b, v, tg) np := by
  intro l G d h ls st x
  refine ⟨fun hx k hk p e s m args below meth c Q X kk => ?_, fun hx k hk p e s m args below meth c Q X kk => ?_⟩
  · rw [hk] at h0
    exact r_tabOut X hd hx (Option.some.inj h0).symm kk
  · have h1 : ¬ x.toInt < (a : Int) := fun q => hx (Or.inl q)
    have h2 : ¬ (b : Int) < x.toInt := fun q => hx (Or.inr q)
    have hj := hall (x.toInt - (a : Int)).toNat (by omega)
    rw [hk] at hj
    cases ho : offs[(x.toInt - (a : Int)).toNat]? with
    | none => rw [ho] at hj; cases hj
    | some off =>
      rw [ho] at hj
      exact r_tabIn X hd h1 h2 ho (Option.some.inj hj).symm kk
end PRows
section PSound
variable {A : Type} {rd : A → Nat → Int32} {wr : A → Nat → Int32 → A} {fz : QZ A} {l : Launch} {G : PG} {d : Nat} {own : String} {cc : ByteArray} {nL : Nat} {ret : Option FieldType} {code : List PO} {H : PH} {lb : Nat → Nat} {N0 : Nat} {call : QC A}
def hCall {A : Type} (rd : A → Nat → Int32) (l : Launch) (G : PG) (d : Nat) (H : PH) (lb : Nat → Nat) (N0 : Nat) (call : QC A) : Prop := ∀ k As L r L', call k As L = some (r, L') → ∀ h, Rep rd H lb N0 L h → PMet l G (mY k) (mC k) (mN k) (mR k) d 0 0 (As.map (sv lb)) h (fun r1 h1 => r1 = r.map (sv lb) ∧ Rep rd H lb N0 L' h1)
theorem optl (r : Option PV) (lb : Nat → Nat) : (r.map (sv lb)).toList = r.toList.map (sv lb) := by cases r <;> rfl
variable {p : Program} {e : Env} {s : State} {m : MethodId} {args : Array Value} {below : List Frame} {meth : Method} {c : Code} {Φ : Option PV → PH → Prop}
def GL {A : Type} (rd : A → Nat → Int32) (l : Launch) (G : PG) (d nL : Nat) (H : PH) (lb : Nat → Nat) (N0 : Nat) (p : Program) (e : Env) (s : State) (m : MethodId) (args : Array Value) (below : List Frame) (meth : Method) (c : Code) (Φ : Option PV → PH → Prop) (code : List PO) (i : Nat) (ls : List (Option PV)) (st : List PV) (L : QH A) : Prop := ∀ h, Rep rd H lb N0 L h → PW p l e (rmD (d + 1) 0 0) s m args below meth c G nL (MQ below (pQ G Φ) args s 0 0 (pF G)) 0 0 h (hpc (drp i code)) (sls lb ls) (st.map (sv lb))
theorem g1 (X : pX p s m args c G nL cc own) {t0 t : Nat} {ls ls' : List (Option PV)} {st st' : List PV} {L : QH A} {R : QT A} (ih : QK A) (IH : ∀ i ls st L, ih i ls st L = R → GL rd l G d nL H lb N0 p e s m args below meth c Φ code i ls st L) (hs : ih t ls' st' L = R) (h : ∀ h, Rep rd H lb N0 L h → Tr l G d own cc nL (hpc (drp t0 code)) (hpc (drp t code)) h h (sls lb ls) (sls lb ls') (st.map (sv lb)) (st'.map (sv lb))) : GL rd l G d nL H lb N0 p e s m args below meth c Φ code t0 ls st L :=
  fun hh hR => h hh hR p e s m args below meth c _ X (IH t ls' st' L hs hh hR)
theorem g2 (X : pX p s m args c G nL cc own) (hi : LbI lb N0) {t0 t : Nat} {x : Nat} {ls ls' : List (Option PV)} {st st' : List PV} {L : QH A} {y z : QE A} {R : QT A} (ih : QK A) (IH : ∀ i ls st L, ih i ls st L = R → GL rd l G d nL H lb N0 p e s m args below meth c Φ code i ls st L) (hs : ih t ls' st' (stl L y x) = R) (hx : L[x]? = some z) (h : ∀ h, Rep rd H lb N0 L h → Tr l G d own cc nL (hpc (drp t0 code)) (hpc (drp t code)) h (h.set (lb x) (se rd lb y)) (sls lb ls) (sls lb ls') (st.map (sv lb)) (st'.map (sv lb))) : GL rd l G d nL H lb N0 p e s m args below meth c Φ code t0 ls st L := by
  intro hh hR
  refine h hh hR p e s m args below meth c _ X (IH t ls' st' _ hs _ ?_)
  rw [stl_eq]
  exact Rep.set hi hR hx
theorem pdo_ok (hwr : ∀ a k z, rd (wr a k z) = upd (rd a) k z) (hfz : ∀ x k, fz x k = k x) (hi : LbI lb N0) (hc : hCall rd l G d H lb N0 call) (X : pX p s m args c G nL cc own) (hr : meth.sig.returnType = ret) (hlk : meth.locks = false) {r : Option PV} {L' : QH A} (hΦ : ∀ h', Rep rd H lb N0 L' h' → Φ (r.map (sv lb)) h') (ih : QK A) (IH : ∀ i ls st L, ih i ls st L = some (r, L') → GL rd l G d nL H lb N0 p e s m args below meth c Φ code i ls st L) {pc op a b i0 t : Nat} {v : Int32} {tg : List Nat} {ls : List (Option PV)} {st : List PV} {L : QH A} (h0 : hpc (drp i0 code) = pc) (hE : eOK own cc nL ret code (pc, op, a, b, v, tg) (hpc (drp t code))) (hs : clo rd wr fz call op a b v tg t ih ls st L = some (r, L')) : GL rd l G d nL H lb N0 p e s m args below meth c Φ code i0 ls st L := by
  subst h0
  have g1 := @g1 A rd l G d own cc nL code H lb N0 p e s m args below meth c Φ X i0
  have g2 := @g2 A rd l G d own cc nL code H lb N0 p e s m args below meth c Φ X hi i0
  revert hs
  revert hE
  match op with
  | 0 =>
    intro hE hs
    change p_iload ih a t ls st L = _ at hs
    unfold p_iload at hs
    split at hs
    · rename_i x hx
      rw [nth_eq] at hx
      exact g1 ih IH hs (fun h hR => hE l G d _ _ _ x (sls_get hx))
    · cases hs
  | 1 =>
    intro hE hs
    change p_aload ih a t ls st L = _ at hs
    unfold p_aload at hs
    split at hs
    · rename_i x hx
      rw [nth_eq] at hx
      cases x with
      | none => exact g1 ih IH hs (fun h hR => hE l G d _ _ _ none (sls_get hx))
      | some x => exact g1 ih IH hs (fun h hR => hE l G d _ _ _ (some (lb x)) (sls_get hx))
    · cases hs
  | 2 =>
    intro hE hs
    exact g1 ih IH hs (fun h hR => hE l G d _ _ _)
  | 3 =>
    intro hE hs
    change p_get ih a b t ls st L = _ at hs
    unfold p_get at hs
    split at hs
    · rename_i x st'
      split at hs
      · rename_i c1 fs hx
        split at hs
        · rename_i z hz
          obtain ⟨e1, e2⟩ := bif_some hs
          rw [nth_eq] at hx hz
          obtain rfl := Nat.eq_of_beq_eq_true e1
          exact g1 ih IH e2 (fun h hR => hE l G d _ _ _ (lb x) (fs.map (sv lb)) (sv lb z) (hR.2.1 _ _ hx) (by rw [List.getElem?_map, hz]; rfl))
        · cases hs
      · cases hs
    · cases hs
  | 4 =>
    intro hE hs
    change p_icmp ih a b t ls st L = _ at hs
    unfold p_icmp at hs
    split at hs
    · rename_i y x st'
      cases hb : pcmp b x y with
      | true => rw [hb] at hs; exact g1 ih IH hs (fun h hR => (hE l G d _ _ _ x y).1 hb)
      | false => rw [hb] at hs; exact g1 ih IH hs (fun h hR => (hE l G d _ _ _ x y).2 hb)
    · cases hs
  | 5 =>
    intro hE hs
    change p_iald ih rd fz t ls st L = _ at hs
    unfold p_iald at hs
    split at hs
    · rename_i i x st'
      split at hs
      · rename_i q N f hx
        obtain ⟨e1, e2⟩ := bif_some hs
        rw [hfz] at e2
        rw [nth_eq] at hx
        rw [Bool.and_eq_true] at e1
        obtain rfl := Nat.eq_of_beq_eq_true e1.1
        refine g1 ih IH e2 (fun h hR => ?_)
        have key := (hE l G d h (sls lb ls) (st'.map (sv lb))).1 (lb x) N (rd f) i (hR.2.1 _ _ hx) (pin_ok e1.2)
        rw [pin_ix e1.2] at key
        exact key
      · cases hs
    · rename_i i j st'
      obtain ⟨e1, e2⟩ := bif_some hs
      rw [hfz] at e2
      rw [Bool.and_eq_true] at e1
      refine g1 ih IH e2 (fun h hR => ?_)
      have key := (hE l G d h (sls lb ls) (st'.map (sv lb))).2 j i (Nat.blt_eq.mp e1.1) (pin_ok e1.2)
      rw [pin_ix e1.2] at key
      exact key
    · cases hs
  | 6 =>
    intro hE hs
    change p_bin ih fz a t ls st L = _ at hs
    unfold p_bin at hs
    split at hs
    · rename_i y x st'
      rw [hfz] at hs
      exact g1 ih IH hs (fun h hR => hE l G d _ _ _ x y)
    · cases hs
  | 7 =>
    intro hE hs
    change p_istore ih a t ls st L = _ at hs
    unfold p_istore at hs
    split at hs
    · rename_i x st'
      refine g1 ih IH hs (fun h hR => ?_)
      rw [stl_eq, sls_set]
      exact hE l G d _ _ _ x
    · cases hs
  | 8 =>
    intro hE hs
    change p_iinc ih fz a v t ls st L = _ at hs
    unfold p_iinc at hs
    split at hs
    · rename_i x hx
      rw [hfz] at hs
      rw [nth_eq] at hx
      refine g1 ih IH hs (fun h hR => ?_)
      rw [stl_eq, sls_set]
      exact hE l G d _ _ _ x (sls_get hx)
    · cases hs
  | 9 =>
    intro hE hs
    exact g1 ih IH hs (fun h hR => hE l G d _ _ _)
  | 10 =>
    intro hE hs
    change p_if0 ih a b t ls st L = _ at hs
    unfold p_if0 at hs
    split at hs
    · rename_i x st'
      cases hb : pcmp b x 0 with
      | true => rw [hb] at hs; exact g1 ih IH hs (fun h hR => (hE l G d _ _ _ x).1 hb)
      | false => rw [hb] at hs; exact g1 ih IH hs (fun h hR => (hE l G d _ _ _ x).2 hb)
    · cases hs
  | 11 =>
    intro hE hs
    change p_iast ih wr t ls st L = _ at hs
    unfold p_iast at hs
    split at hs
    · rename_i z i x st'
      split at hs
      · rename_i q N f hx
        obtain ⟨e1, e2⟩ := bif_some hs
        rw [nth_eq] at hx
        rw [Bool.and_eq_true] at e1
        obtain rfl := Nat.eq_of_beq_eq_true e1.1
        refine g2 ih IH e2 hx (fun h hR => ?_)
        have key := hE l G d h (sls lb ls) (st'.map (sv lb)) (lb x) N (rd f) i z (hR.2.1 _ _ hx) (pin_ok e1.2)
        rw [pin_ix e1.2, ← hwr] at key
        exact key
      · cases hs
    · cases hs
  | 12 =>
    intro hE hs
    change p_callV ih call a b (hd0 tg) t ls st L = _ at hs
    unfold p_callV at hs
    split at hs
    · rename_i x st' hst
      split at hs
      · rename_i c1 fs hx
        obtain ⟨e1, e2⟩ := bif_some hs
        split at e2
        · rename_i r1 L1 hcall
          simp only [Bool.and_eq_true] at e1
          obtain ⟨e11, e12, e13⟩ := e1
          obtain rfl := Nat.eq_of_beq_eq_true e11
          rw [nth_eq] at hx
          have hlen : (((st.take b).reverse).map (sv lb)).length = b := by simp [Nat.le_of_ble_eq_true e12]
          have hstk : st.map (sv lb) = (((st.take b).reverse).map (sv lb)).reverse ++ vR (lb x) :: st'.map (sv lb) := by
            rw [← List.map_reverse, List.reverse_reverse]
            conv => lhs; rw [← List.take_append_drop b st, hst]
            rw [List.map_append]
            rfl
          intro h hR
          have hM := hc _ _ _ _ _ hcall h hR
          have key := hE l G d h (sls lb ls) (st'.map (sv lb)) (((st.take b).reverse).map (sv lb)) (lb x) (fs.map (sv lb)) _ hlen (hR.2.1 _ _ hx) (by rw [List.length_map]; exact Nat.le_of_ble_eq_true e13) hM
          rw [hstk]
          refine key p e s m args below meth c _ X ?_
          rintro r2 h1 ⟨rfl, hR1⟩
          rw [optl, ← List.map_append]
          exact IH _ _ _ _ e2 h1 hR1
        · cases e2
      · cases hs
    · cases hs
  | 13 =>
    intro hE hs
    change p_callS ih call a b t ls st L = _ at hs
    unfold p_callS at hs
    obtain ⟨e1, e2⟩ := bif_some hs
    split at e2
    · rename_i r1 L1 hcall
      simp only [Bool.and_eq_true] at e1
      obtain ⟨e12, e13⟩ := e1
      have hlen : (((st.take b).reverse).map (sv lb)).length = b := by simp [Nat.le_of_ble_eq_true e12]
      have hstk : st.map (sv lb) = (((st.take b).reverse).map (sv lb)).reverse ++ (st.drop b).map (sv lb) := by
        rw [← List.map_reverse, List.reverse_reverse, ← List.map_append, List.take_append_drop]
      intro h hR
      have hM := hc _ _ _ _ _ hcall h hR
      have key := hE l G d h (sls lb ls) ((st.drop b).map (sv lb)) (((st.take b).reverse).map (sv lb)) _ hlen (by rw [List.length_map]; exact Nat.le_of_ble_eq_true e13) hM
      rw [hstk]
      refine key p e s m args below meth c _ X ?_
      rintro r2 h1 ⟨rfl, hR1⟩
      rw [optl, ← List.map_append]
      exact IH _ _ _ _ e2 h1 hR1
    · cases e2
  | 14 =>
    intro hE hs
    change p_iret st L = _ at hs
    unfold p_iret at hs
    split at hs
    · rename_i z
      cases hs
      exact fun h hR => hE l G d _ _ [] z p e s m args below meth c Φ X hr hlk (hΦ h hR)
    · cases hs
  | 15 =>
    intro hE hs
    change p_zret st L = _ at hs
    unfold p_zret at hs
    split at hs
    · rename_i z
      obtain ⟨e1, e2⟩ := bif_some hs
      cases e2
      simp only [Bool.or_eq_true, cmp_eq, decide_eq_true_eq] at e1
      exact fun h hR => hE l G d _ _ [] z e1 p e s m args below meth c Φ X hr hlk (hΦ h hR)
    · cases hs
  | 16 =>
    intro hE hs
    change p_vret st L = _ at hs
    unfold p_vret at hs
    split at hs
    · cases hs
      exact fun h hR => hE l G d _ _ [] p e s m args below meth c Φ X hr hlk (hΦ h hR)
    · cases hs
  | 17 =>
    intro hE hs
    change p_div ih fz t ls st L = _ at hs
    unfold p_div at hs
    split at hs
    · rename_i y x st'
      obtain ⟨e1, e2⟩ := bif_some hs
      rw [hfz] at e2
      rw [cmp_ne] at e1
      exact g1 ih IH e2 (fun h hR => hE l G d _ _ _ x y (of_decide_eq_true e1))
    · cases hs
  | 18 =>
    intro hE hs
    change p_rem ih fz t ls st L = _ at hs
    unfold p_rem at hs
    split at hs
    · rename_i y x st'
      obtain ⟨e1, e2⟩ := bif_some hs
      rw [hfz] at e2
      rw [cmp_ne] at e1
      exact g1 ih IH e2 (fun h hR => hE l G d _ _ _ x y (of_decide_eq_true e1))
    · cases hs
  | 19 =>
    intro hE hs
    change p_put ih a b v t ls st L = _ at hs
    unfold p_put at hs
    split at hs
    · rename_i z x st'
      split at hs
      · rename_i c1 fs hx
        obtain ⟨e1, e2⟩ := bif_some hs
        rw [nth_eq] at hx
        simp only [Bool.and_eq_true, Bool.or_eq_true, cmp_eq, decide_eq_true_eq, Nat.blt_eq] at e1
        obtain ⟨e11, e12, e13⟩ := e1
        obtain rfl := Nat.eq_of_beq_eq_true e11
        refine g2 ih IH e2 hx (fun h hR => ?_)
        have e5 : se rd lb (.inr (c1, stl fs (.inl z) b)) = eO c1 ((fs.map (sv lb)).set b (vI z)) := by
          show (.inr (c1, (stl fs (.inl z) b).map (sv lb)) : PE) = _
          rw [stl_eq, List.map_set]
          rfl
        rw [e5]
        exact hE l G d _ _ _ (lb x) (fs.map (sv lb)) z (hR.2.1 _ _ hx) (by rw [List.length_map]; exact e12) e13
      · cases hs
    · cases hs
  | 20 =>
    intro hE hs
    change p_neg ih fz t ls st L = _ at hs
    unfold p_neg at hs
    split at hs
    · rename_i x st'
      rw [hfz] at hs
      exact g1 ih IH hs (fun h hR => hE l G d _ _ _ x)
    · cases hs
  | 21 =>
    intro hE hs
    change p_dup ih t ls st L = _ at hs
    unfold p_dup at hs
    split at hs
    · rename_i z st'
      exact g1 ih IH hs (fun h hR => hE l G d _ _ _ (sv lb z))
    · cases hs
  | 22 =>
    intro hE hs
    change p_dup2 ih t ls st L = _ at hs
    unfold p_dup2 at hs
    split at hs
    · rename_i z w st'
      exact g1 ih IH hs (fun h hR => hE l G d _ _ _ (sv lb z) (sv lb w))
    · cases hs
  | 23 =>
    intro hE hs
    change p_pop ih t ls st L = _ at hs
    unfold p_pop at hs
    split at hs
    · rename_i z st'
      exact g1 ih IH hs (fun h hR => hE l G d _ _ _ (sv lb z))
    · cases hs
  | 24 =>
    intro hE hs
    change p_alen ih t ls st L = _ at hs
    unfold p_alen at hs
    split at hs
    · rename_i x st'
      split at hs
      · rename_i q N f hx
        obtain ⟨e1, e2⟩ := bif_some hs
        rw [nth_eq] at hx
        obtain rfl := Nat.eq_of_beq_eq_true e1
        exact g1 ih IH e2 (fun h hR => (hE l G d _ _ _).1 (lb x) N (rd f) (hR.2.1 _ _ hx))
      · cases hs
    · rename_i j st'
      obtain ⟨e1, e2⟩ := bif_some hs
      exact g1 ih IH e2 (fun h hR => (hE l G d _ _ _).2 j (Nat.blt_eq.mp e1))
    · cases hs
  | 25 =>
    intro hE hs
    change p_aald ih t ls st L = _ at hs
    unfold p_aald at hs
    split at hs
    · rename_i i x st'
      split at hs
      · rename_i q N f hx
        obtain ⟨e1, e2⟩ := bif_some hs
        rw [nth_eq] at hx
        simp only [Bool.and_eq_true, Bool.or_eq_true] at e1
        have hq : q = 1 ∨ q = 2 ∨ q = 3 := by
          rcases e1.1 with z | z | z
          · exact Or.inl (Nat.eq_of_beq_eq_true z)
          · exact Or.inr (Or.inl (Nat.eq_of_beq_eq_true z))
          · exact Or.inr (Or.inr (Nat.eq_of_beq_eq_true z))
        refine g1 ih IH e2 (fun h hR => ?_)
        have key := hE l G d h (sls lb ls) (st'.map (sv lb)) (lb x) q N (fun j => (f j).map lb) i hq (hR.2.1 _ _ hx) (pin_ok e1.2)
        rw [pin_ix e1.2] at key
        have e6 : sv lb (.inr (.inl (f (ix i)))) = .inr (.inl ((f (ix i)).map lb)) := by cases f (ix i) <;> rfl
        show Tr l G d own cc nL (hpc (drp i0 code)) (hpc (drp t code)) h h (sls lb ls) (sls lb ls) (vI i :: vR (lb x) :: st'.map (sv lb)) (sv lb (.inr (.inl (f (ix i)))) :: st'.map (sv lb))
        rw [e6]
        exact key
      · cases hs
    · cases hs
  | 26 =>
    intro hE hs
    exact g1 ih IH hs (fun h hR => hE l G d _ _ _)
  | 27 =>
    intro hE hs
    change p_max ih t ls st L = _ at hs
    unfold p_max at hs
    split at hs
    · rename_i y x st'
      obtain ⟨e1, e2⟩ := bif_some hs
      have hl8 : (st'.map (sv lb)).length ≤ 8 := by rw [List.length_map]; exact Nat.le_of_ble_eq_true e1
      cases hb : pcmp 2 x y with
      | true =>
        rw [hb] at e2
        refine g1 ih IH e2 (fun h hR => ?_)
        have key := hE l G d h (sls lb ls) (st'.map (sv lb)) x y hl8
        rw [if_pos (of_decide_eq_true (cmp_lt.symm.trans hb))] at key
        exact key
      | false =>
        rw [hb] at e2
        refine g1 ih IH e2 (fun h hR => ?_)
        have key := hE l G d h (sls lb ls) (st'.map (sv lb)) x y hl8
        rw [if_neg (of_decide_eq_false (cmp_lt.symm.trans hb))] at key
        exact key
    · cases hs
  | 28 =>
    intro hE hs
    change p_min ih t ls st L = _ at hs
    unfold p_min at hs
    split at hs
    · rename_i y x st'
      obtain ⟨e1, e2⟩ := bif_some hs
      have hl8 : (st'.map (sv lb)).length ≤ 8 := by rw [List.length_map]; exact Nat.le_of_ble_eq_true e1
      cases hb : pcmp 2 y x with
      | true =>
        rw [hb] at e2
        refine g1 ih IH e2 (fun h hR => ?_)
        have key := hE l G d h (sls lb ls) (st'.map (sv lb)) x y hl8
        rw [if_pos (of_decide_eq_true (cmp_lt.symm.trans hb))] at key
        exact key
      | false =>
        rw [hb] at e2
        refine g1 ih IH e2 (fun h hR => ?_)
        have key := hE l G d h (sls lb ls) (st'.map (sv lb)) x y hl8
        rw [if_neg (of_decide_eq_false (cmp_lt.symm.trans hb))] at key
        exact key
    · cases hs
  | 29 =>
    intro hE hs
    change p_abs ih fz t ls st L = _ at hs
    unfold p_abs at hs
    split at hs
    · rename_i x st'
      obtain ⟨e1, e2⟩ := bif_some hs
      have hl8 : (st'.map (sv lb)).length ≤ 8 := by rw [List.length_map]; exact Nat.le_of_ble_eq_true e1
      cases hb : pcmp 3 x 0 with
      | true =>
        rw [hb] at e2
        refine g1 ih IH e2 (fun h hR => ?_)
        have key := hE l G d h (sls lb ls) (st'.map (sv lb)) x hl8
        rw [if_pos (of_decide_eq_true (cmp_ge.symm.trans hb))] at key
        exact key
      | false =>
        rw [hb] at e2
        simp only [cond_false, hfz] at e2
        refine g1 ih IH e2 (fun h hR => ?_)
        have key := hE l G d h (sls lb ls) (st'.map (sv lb)) x hl8
        rw [if_neg (of_decide_eq_false (cmp_ge.symm.trans hb))] at key
        exact key
    · cases hs
  | 30 =>
    intro hE hs
    change p_tab ih a b tg ls st L = _ at hs
    unfold p_tab at hs
    split at hs
    · rename_i x st'
      cases hb : (decide (x.toInt < (a : Int)) || decide ((b : Int) < x.toInt)) with
      | true =>
        rw [hb] at hs
        simp only [cond_true] at hs
        split at hs
        · rename_i k hk
          simp only [Bool.or_eq_true, decide_eq_true_eq] at hb
          exact g1 ih IH hs (fun h hR => (hE l G d _ _ _ x).1 hb k hk)
        · cases hs
      | false =>
        rw [hb] at hs
        simp only [cond_false] at hs
        split at hs
        · rename_i k hk
          simp only [Bool.or_eq_false_iff, decide_eq_false_iff_not] at hb
          exact g1 ih IH hs (fun h hR => (hE l G d _ _ _ x).2 (fun q => q.elim hb.1 hb.2) k hk)
        · cases hs
    · cases hs
  | 31 =>
    intro hE hs
    change p_astore ih a t ls st L = _ at hs
    unfold p_astore at hs
    split at hs
    · rename_i x st'
      refine g1 ih IH hs (fun h hR => ?_)
      rw [stl_eq, sls_set]
      cases x with
      | none => exact hE l G d _ _ _ none
      | some x => exact hE l G d _ _ _ (some (lb x))
    · cases hs
  | _ + 32 =>
    intro hE hs
    cases hs
theorem run_ok (hwr : ∀ a k z, rd (wr a k z) = upd (rd a) k z) (hfz : ∀ x k, fz x k = k x) (hi : LbI lb N0) (hc : hCall rd l G d H lb N0 call) (hcode : OKs (eOK own cc nL ret code) code) (X : pX p s m args c G nL cc own) (hr : meth.sig.returnType = ret) (hlk : meth.locks = false) {r : Option PV} {L' : QH A} (hΦ : ∀ h', Rep rd H lb N0 L' h' → Φ (r.map (sv lb)) h') : ∀ (F i : Nat) (ls : List (Option PV)) (st : List PV) (L : QH A), run (mkc rd wr fz call code 0) F i ls st L = some (r, L') → GL rd l G d nL H lb N0 p e s m args below meth c Φ code i ls st L := by
  intro F
  induction F with
  | zero => intro i ls st L h; cases h
  | succ F ih =>
    intro i ls st L h
    have h' : (match nth (mkc rd wr fz call code 0) i with
      | some f => f (run (mkc rd wr fz call code 0) F) ls st L
      | none => none) = some (r, L') := h
    cases hs : nth (mkc rd wr fz call code 0) i with
    | none => rw [hs] at h'; cases h'
    | some f =>
      rw [hs] at h'
      obtain ⟨pc, op, a, b, v, tg, h1, h2⟩ := mkc_nth code 0 i f hs
      subst h2
      rw [Nat.zero_add] at h'
      exact pdo_ok hwr hfz hi hc X hr hlk hΦ _ ih (hpc_drp h1) (OKs_nth i code _ hcode h1) h'
end PSound

