/-! THE PURE INTERPRETER. Methods as lists of entries (pc, op, a, b, v, targets); a heap L with labels from 0; the cell k of it lies at the label lb k. -/
abbrev PO : Type := Nat × Nat × Nat × Nat × Int32 × List Nat
def sv (lb : Nat → Nat) (v : PV) : PV := match v with
  | .inl x => .inl x
  | .inr (.inl none) => .inr (.inl none)
  | .inr (.inl (some k)) => .inr (.inl (some (lb k)))
  | .inr (.inr j) => .inr (.inr j)
abbrev QE (A : Type) : Type := ((Nat × Nat × A) ⊕ (Nat × Nat × (Nat → Option Nat))) ⊕ (Nat × List PV)
abbrev QH (A : Type) : Type := List (QE A)
def se {A : Type} (rd : A → Nat → Int32) (lb : Nat → Nat) (x : QE A) : PE := match x with
  | .inl (.inl a) => .inl (.inl (a.1, a.2.1, rd a.2.2))
  | .inl (.inr a) => .inl (.inr (a.1, a.2.1, fun j => (a.2.2 j).map lb))
  | .inr q => .inr (q.1, q.2.map (sv lb))
def sls (lb : Nat → Nat) (ls : List (Option PV)) : List (Option PV) := ls.map (fun o => o.map (sv lb))
theorem sls_get {lb : Nat → Nat} {i : Nat} {ls : List (Option PV)} {v : PV} (h : ls[i]? = some (some v)) : (sls lb ls)[i]? = some (some (sv lb v)) := by
  simp [sls, h]
theorem sls_set {lb : Nat → Nat} {i : Nat} {ls : List (Option PV)} {v : PV} : sls lb (ls.set i (some v)) = (sls lb ls).set i (some (sv lb v)) := by
  simp [sls, List.map_set]
/-- h holds the cells L at the labels lb, and is H elsewhere -/
def Rep {A : Type} (rd : A → Nat → Int32) (H : PH) (lb : Nat → Nat) (N : Nat) (L : QH A) (h : PH) : Prop := L.length = N ∧ (∀ k x, L[k]? = some x → h[lb k]? = some (se rd lb x)) ∧ h.length = H.length ∧ (∀ a, (∀ k, k < N → a ≠ lb k) → h[a]? = H[a]?)
def LbI (lb : Nat → Nat) (N : Nat) : Prop := ∀ i, i < N → ∀ j, j < N → lb i = lb j → i = j
theorem Rep.set {A : Type} {rd : A → Nat → Int32} {H h : PH} {L : QH A} {lb : Nat → Nat} {N k : Nat} {x y : QE A} (hi : LbI lb N) (hR : Rep rd H lb N L h) (hx : L[k]? = some x) : Rep rd H lb N (L.set k y) (h.set (lb k) (se rd lb y)) := by
  obtain ⟨h1, h2, h3, h4⟩ := hR
  have hk : k < N := by rw [← h1]; exact (List.getElem?_eq_some_iff.mp hx).1
  have hl : lb k < h.length := (List.getElem?_eq_some_iff.mp (h2 k x hx)).1
  refine ⟨by rw [List.length_set]; exact h1, fun k' x' hx' => ?_, by rw [List.length_set]; exact h3, fun a ha => ?_⟩
  · by_cases e : k = k'
    · subst e
      rw [List.getElem?_set_self (by rw [h1]; exact hk)] at hx'
      cases hx'
      exact List.getElem?_set_self hl
    · rw [List.getElem?_set_ne e] at hx'
      have hk' : k' < N := by rw [← h1]; exact (List.getElem?_eq_some_iff.mp hx').1
      rw [List.getElem?_set_ne (fun q => e (hi k hk k' hk' q))]
      exact h2 k' x' hx'
  · rw [List.getElem?_set_ne (fun q => ha k hk q.symm)]
    exact h4 a ha
noncomputable def nth {α : Type} (l : List α) : Nat → Option α := List.rec (motive := fun _ => Nat → Option α) (fun _ => none) (fun x _ ih k => Nat.rec (motive := fun _ => Option α) (some x) (fun j _ => ih j) k) l
theorem nth_eq {α : Type} (l : List α) : ∀ k, nth l k = l[k]? := by
  induction l with
  | nil => intro k; rfl
  | cons x t ih =>
    intro k
    cases k with
    | zero => rfl
    | succ j => rw [List.getElem?_cons_succ]; exact ih j
noncomputable def stl {α : Type} (l : List α) (v : α) : Nat → List α := List.rec (motive := fun _ => Nat → List α) (fun _ => []) (fun x t ih k => Nat.rec (motive := fun _ => List α) (v :: t) (fun j _ => x :: ih j) k) l
theorem stl_eq {α : Type} (l : List α) (v : α) : ∀ k, stl l v k = l.set k v := by
  induction l with
  | nil => intro k; rfl
  | cons x t ih =>
    intro k
    cases k with
    | zero => rfl
    | succ j => rw [List.set_cons_succ, ← ih j]; rfl
noncomputable def drp (k : Nat) (l : List PO) : List PO := Nat.rec (motive := fun _ => List PO → List PO) (fun l => l) (fun _ ih l => List.casesOn l [] (fun _ t => ih t)) k l
noncomputable def frN {α : Type} (n : Nat) (k : Nat → α) : α := Nat.rec (motive := fun _ => α) (k 0) (fun m _ => k (Nat.succ m)) n
theorem frN_eq {α : Type} (n : Nat) (k : Nat → α) : frN n k = k n := by cases n <;> rfl
theorem bif_some {α : Type} {c : Bool} {A : Option α} {y : α} (h : (bif c then A else none) = some y) : c = true ∧ A = some y := by
  cases c
  · cases h
  · exact ⟨rfl, h⟩
def pbin (a : Nat) (x y : Int32) : Int32 := match a with
  | 0 => x + y
  | 1 => x - y
  | 2 => x * y
  | 3 => x &&& y
  | 4 => x ||| y
  | 5 => x ^^^ y
  | 6 => x <<< (y &&& 31)
  | 7 => x >>> (y &&& 31)
  | _ => (x.toUInt32 >>> (y.toUInt32 &&& Int32.toUInt32 31)).toInt32
def ix (x : Int32) : Nat := x.toBitVec.toNat
def ky (x : Int32) : Nat := (x.toBitVec.toNat + 2147483648) % 4294967296
theorem ix_eq {x y : Int32} : x = y ↔ ix x = ix y := by
  constructor
  · intro h; rw [h]
  · intro h; exact Int32.toBitVec_inj.mp (BitVec.eq_of_toNat_eq h)
theorem ky_toInt (x : Int32) : x.toInt = (ky x : Int) - 2147483648 := by
  have h : x.toInt = x.toBitVec.toInt := rfl
  have hb : x.toBitVec.toNat < 4294967296 := x.toBitVec.isLt
  rw [h, BitVec.toInt_eq_toNat_cond, ky]
  split <;> omega
theorem ky_lt {x y : Int32} : x < y ↔ ky x < ky y := by
  rw [Int32.lt_iff_toInt_lt, ky_toInt, ky_toInt]
  omega
theorem ky_le {x y : Int32} : x ≤ y ↔ ky x ≤ ky y := by
  rw [Int32.le_iff_toInt_le, ky_toInt, ky_toInt]
  omega
def pcmp (b : Nat) (x y : Int32) : Bool := match b with
  | 0 => Nat.beq (ix x) (ix y)
  | 1 => !(Nat.beq (ix x) (ix y))
  | 2 => Nat.blt (ky x) (ky y)
  | 3 => Nat.ble (ky y) (ky x)
  | 4 => Nat.blt (ky y) (ky x)
  | _ => Nat.ble (ky x) (ky y)
theorem cmp_eq {x y : Int32} : pcmp 0 x y = decide (x = y) := by
  rw [Bool.eq_iff_iff, decide_eq_true_eq, ix_eq]; exact Eq.to_iff Nat.beq_eq
theorem cmp_ne {x y : Int32} : pcmp 1 x y = decide (¬ x = y) := by
  show (!(pcmp 0 x y)) = _
  rw [cmp_eq, decide_not]
theorem cmp_lt {x y : Int32} : pcmp 2 x y = decide (x < y) := by
  rw [Bool.eq_iff_iff, decide_eq_true_eq, ky_lt]; exact Eq.to_iff Nat.blt_eq
theorem cmp_ge {x y : Int32} : pcmp 3 x y = decide (y ≤ x) := by
  rw [Bool.eq_iff_iff, decide_eq_true_eq, ky_le]; exact Eq.to_iff Nat.ble_eq
theorem cmp_gt {x y : Int32} : pcmp 4 x y = decide (y < x) := by
  rw [Bool.eq_iff_iff, decide_eq_true_eq, ky_lt]; exact Eq.to_iff Nat.blt_eq
theorem cmp_le {x y : Int32} : pcmp 5 x y = decide (x ≤ y) := by
  rw [Bool.eq_iff_iff, decide_eq_true_eq, ky_le]; exact Eq.to_iff Nat.ble_eq
def pin (i : Int32) (N : Nat) : Bool := Nat.blt (ix i) 2147483648 && Nat.blt (ix i) N
theorem ix_clamp {i : Int32} (h : ix i < 2147483648) : i.toNatClampNeg = ix i := by
  have hk := ky_toInt i
  have e : ky i = ix i + 2147483648 := by
    show (ix i + 2147483648) % 4294967296 = _
    omega
  show i.toInt.toNat = _
  rw [hk, e]
  omega
theorem pin_ix {i : Int32} {N : Nat} (h : pin i N = true) : i.toNatClampNeg = ix i := by
  simp only [pin, Bool.and_eq_true, Nat.blt_eq] at h
  exact ix_clamp h.1
theorem pin_ok {i : Int32} {N : Nat} (h : pin i N = true) : vp_in i N := by
  have e := pin_ix h
  simp only [pin, Bool.and_eq_true, Nat.blt_eq] at h
  rintro (q | q)
  · rw [ky_lt] at q
    have e1 : ky i = ix i + 2147483648 := by
      show (ix i + 2147483648) % 4294967296 = _
      omega
    have e2 : ky 0 = 2147483648 := by decide
    omega
  · omega
def hd0 (l : List Nat) : Nat := match l with
  | [] => 0
  | x :: _ => x
abbrev QT (A : Type) : Type := Option (Option PV × QH A)
abbrev QK (A : Type) : Type := Nat → List (Option PV) → List PV → QH A → QT A
abbrev QF (A : Type) : Type := QK A → List (Option PV) → List PV → QH A → QT A
abbrev QC (A : Type) : Type := Nat → List PV → QH A → QT A
abbrev QZ (A : Type) : Type := Int32 → (Int32 → QT A) → QT A
noncomputable def p_iload {A : Type} (ih : QK A) (a : Nat) (t : Nat) (ls : List (Option PV)) (st : List PV) (L : QH A) : QT A := match nth ls a with
  | some (some (.inl x)) => ih t ls (.inl x :: st) L
  | _ => none
noncomputable def p_aload {A : Type} (ih : QK A) (a : Nat) (t : Nat) (ls : List (Option PV)) (st : List PV) (L : QH A) : QT A := match nth ls a with
  | some (some (.inr (.inl x))) => ih t ls (.inr (.inl x) :: st) L
  | _ => none
noncomputable def p_istore {A : Type} (ih : QK A) (a : Nat) (t : Nat) (ls : List (Option PV)) (st : List PV) (L : QH A) : QT A := match st with
  | .inl x :: st' => ih t (stl ls (some (.inl x)) a) st' L
  | _ => none
noncomputable def p_astore {A : Type} (ih : QK A) (a : Nat) (t : Nat) (ls : List (Option PV)) (st : List PV) (L : QH A) : QT A := match st with
  | .inr (.inl x) :: st' => ih t (stl ls (some (.inr (.inl x))) a) st' L
  | _ => none
noncomputable def p_iinc {A : Type} (ih : QK A) (fz : QZ A) (a : Nat) (v : Int32) (t : Nat) (ls : List (Option PV)) (st : List PV) (L : QH A) : QT A := match nth ls a with
  | some (some (.inl x)) => fz (x + v) (fun y => ih t (stl ls (some (.inl y)) a) st L)
  | _ => none
def p_bin {A : Type} (ih : QK A) (fz : QZ A) (a : Nat) (t : Nat) (ls : List (Option PV)) (st : List PV) (L : QH A) : QT A := match st with
  | .inl y :: .inl x :: st' => fz (pbin a x y) (fun z => ih t ls (.inl z :: st') L)
  | _ => none
def p_div {A : Type} (ih : QK A) (fz : QZ A) (t : Nat) (ls : List (Option PV)) (st : List PV) (L : QH A) : QT A := match st with
  | .inl y :: .inl x :: st' => bif pcmp 1 y 0 then fz (x / y) (fun z => ih t ls (.inl z :: st') L) else none
  | _ => none
def p_rem {A : Type} (ih : QK A) (fz : QZ A) (t : Nat) (ls : List (Option PV)) (st : List PV) (L : QH A) : QT A := match st with
  | .inl y :: .inl x :: st' => bif pcmp 1 y 0 then fz (x - x / y * y) (fun z => ih t ls (.inl z :: st') L) else none
  | _ => none
def p_neg {A : Type} (ih : QK A) (fz : QZ A) (t : Nat) (ls : List (Option PV)) (st : List PV) (L : QH A) : QT A := match st with
  | .inl x :: st' => fz (-x) (fun z => ih t ls (.inl z :: st') L)
  | _ => none
def p_dup {A : Type} (ih : QK A) (t : Nat) (ls : List (Option PV)) (st : List PV) (L : QH A) : QT A := match st with
  | z :: st' => ih t ls (z :: z :: st') L
  | _ => none
def p_pop {A : Type} (ih : QK A) (t : Nat) (ls : List (Option PV)) (st : List PV) (L : QH A) : QT A := match st with
  | _ :: st' => ih t ls st' L
  | _ => none
def p_dup2 {A : Type} (ih : QK A) (t : Nat) (ls : List (Option PV)) (st : List PV) (L : QH A) : QT A := match st with
  | z :: w :: st' => ih t ls (z :: w :: z :: w :: st') L
  | _ => none
noncomputable def p_if0 {A : Type} (ih : QK A) (a b : Nat) (t : Nat) (ls : List (Option PV)) (st : List PV) (L : QH A) : QT A := match st with
  | .inl x :: st' => bif pcmp b x 0 then ih a ls st' L else ih t ls st' L
  | _ => none
noncomputable def p_icmp {A : Type} (ih : QK A) (a b : Nat) (t : Nat) (ls : List (Option PV)) (st : List PV) (L : QH A) : QT A := match st with
  | .inl y :: .inl x :: st' => bif pcmp b x y then ih a ls st' L else ih t ls st' L
  | _ => none
noncomputable def p_get {A : Type} (ih : QK A) (a b : Nat) (t : Nat) (ls : List (Option PV)) (st : List PV) (L : QH A) : QT A := match st with
  | .inr (.inl (some x)) :: st' => match nth L x with
    | some (.inr (c', fs)) => match nth fs b with
      | some z => bif Nat.beq c' a then ih t ls (z :: st') L else none
      | none => none
    | _ => none
  | _ => none
noncomputable def p_put {A : Type} (ih : QK A) (a b : Nat) (v : Int32) (t : Nat) (ls : List (Option PV)) (st : List PV) (L : QH A) : QT A := match st with
  | .inl z :: .inr (.inl (some x)) :: st' => match nth L x with
    | some (.inr (c', fs)) => bif (Nat.beq c' a && (Nat.blt b fs.length && (pcmp 0 v 0 || (pcmp 0 z 0 || pcmp 0 z 1)))) then ih t ls st' (stl L (.inr (c', stl fs (.inl z) b)) x) else none
    | _ => none
  | _ => none
noncomputable def p_iald {A : Type} (ih : QK A) (rd : A → Nat → Int32) (fz : QZ A) (t : Nat) (ls : List (Option PV)) (st : List PV) (L : QH A) : QT A := match st with
  | .inl i :: .inr (.inl (some x)) :: st' => match nth L x with
    | some (.inl (.inl (q, N, f))) => bif (Nat.beq q 0 && pin i N) then fz (rd f (ix i)) (fun z => ih t ls (.inl z :: st') L) else none
    | _ => none
  | .inl i :: .inr (.inr j) :: st' => bif (Nat.blt j 3 && pin i (sN j)) then fz (sF j (ix i)) (fun z => ih t ls (.inl z :: st') L) else none
  | _ => none
noncomputable def p_iast {A : Type} (ih : QK A) (wr : A → Nat → Int32 → A) (t : Nat) (ls : List (Option PV)) (st : List PV) (L : QH A) : QT A := match st with
  | .inl z :: .inl i :: .inr (.inl (some x)) :: st' => match nth L x with
    | some (.inl (.inl (q, N, f))) => bif (Nat.beq q 0 && pin i N) then ih t ls st' (stl L (.inl (.inl (q, N, wr f (ix i) z))) x) else none
    | _ => none
  | _ => none
noncomputable def p_alen {A : Type} (ih : QK A) (t : Nat) (ls : List (Option PV)) (st : List PV) (L : QH A) : QT A := match st with
  | .inr (.inl (some x)) :: st' => match nth L x with
    | some (.inl (.inl (q, N, _))) => bif Nat.beq q 0 then ih t ls (.inl (Int32.ofNat N) :: st') L else none
    | _ => none
  | .inr (.inr j) :: st' => bif Nat.blt j 3 then ih t ls (.inl (Int32.ofNat (sN j)) :: st') L else none
  | _ => none
noncomputable def p_aald {A : Type} (ih : QK A) (t : Nat) (ls : List (Option PV)) (st : List PV) (L : QH A) : QT A := match st with
  | .inl i :: .inr (.inl (some x)) :: st' => match nth L x with
    | some (.inl (.inr (q, N, f))) => bif ((Nat.beq q 1 || (Nat.beq q 2 || Nat.beq q 3)) && pin i N) then ih t ls (.inr (.inl (f (ix i))) :: st') L else none
    | _ => none
  | _ => none
noncomputable def p_callS {A : Type} (ih : QK A) (call : QC A) (a b : Nat) (t : Nat) (ls : List (Option PV)) (st : List PV) (L : QH A) : QT A :=
  bif (Nat.ble b st.length && Nat.ble (st.drop b).length 8) then
    match call a (st.take b).reverse L with
    | some (r, L') => ih t ls (r.toList ++ st.drop b) L'
    | none => none
  else none
noncomputable def p_callV {A : Type} (ih : QK A) (call : QC A) (a b : Nat) (v : Nat) (t : Nat) (ls : List (Option PV)) (st : List PV) (L : QH A) : QT A := match st.drop b with
  | .inr (.inl (some x)) :: st' => match nth L x with
    | some (.inr (c', _)) => bif (Nat.beq c' v && (Nat.ble b st.length && Nat.ble st'.length 8)) then
        match call a (.inr (.inl (some x)) :: (st.take b).reverse) L with
        | some (r, L') => ih t ls (r.toList ++ st') L'
        | none => none
      else none
    | _ => none
  | _ => none
def p_max {A : Type} (ih : QK A) (t : Nat) (ls : List (Option PV)) (st : List PV) (L : QH A) : QT A := match st with
  | .inl y :: .inl x :: st' => bif Nat.ble st'.length 8 then (bif pcmp 2 x y then ih t ls (.inl y :: st') L else ih t ls (.inl x :: st') L) else none
  | _ => none
def p_min {A : Type} (ih : QK A) (t : Nat) (ls : List (Option PV)) (st : List PV) (L : QH A) : QT A := match st with
  | .inl y :: .inl x :: st' => bif Nat.ble st'.length 8 then (bif pcmp 2 y x then ih t ls (.inl y :: st') L else ih t ls (.inl x :: st') L) else none
  | _ => none
def p_abs {A : Type} (ih : QK A) (fz : QZ A) (t : Nat) (ls : List (Option PV)) (st : List PV) (L : QH A) : QT A := match st with
  | .inl x :: st' => bif Nat.ble st'.length 8 then (bif pcmp 3 x 0 then ih t ls (.inl x :: st') L else fz (0 - x) (fun z => ih t ls (.inl z :: st') L)) else none
  | _ => none
def p_iret {A : Type} (st : List PV) (L : QH A) : QT A := match st with
  | [.inl z] => some (some (.inl z), L)
  | _ => none
def p_zret {A : Type} (st : List PV) (L : QH A) : QT A := match st with
  | [.inl z] => bif (pcmp 0 z 0 || pcmp 0 z 1) then some (some (.inl z), L) else none
  | _ => none
def p_vret {A : Type} (st : List PV) (L : QH A) : QT A := match st with
  | [] => some (none, L)
  | _ => none
noncomputable def p_tab {A : Type} (ih : QK A) (a b : Nat) (tg : List Nat) (ls : List (Option PV)) (st : List PV) (L : QH A) : QT A := match st with
  | .inl x :: st' => bif (decide (x.toInt < (a : Int)) || decide ((b : Int) < x.toInt)) then (match nth tg 0 with
      | some k => ih k ls st' L
      | none => none)
    else (match nth tg ((x.toInt - (a : Int)).toNat + 1) with
      | some k => ih k ls st' L
      | none => none)
  | _ => none
noncomputable def clo {A : Type} (rd : A → Nat → Int32) (wr : A → Nat → Int32 → A) (fz : QZ A) (call : QC A) (op a b : Nat) (v : Int32) (tg : List Nat) (t : Nat) : QF A := match op with
  | 0 => fun ih ls st L => p_iload ih a t ls st L
  | 1 => fun ih ls st L => p_aload ih a t ls st L
  | 2 => fun ih ls st L => ih t ls (.inl v :: st) L
  | 3 => fun ih ls st L => p_get ih a b t ls st L
  | 4 => fun ih ls st L => p_icmp ih a b t ls st L
  | 5 => fun ih ls st L => p_iald ih rd fz t ls st L
  | 6 => fun ih ls st L => p_bin ih fz a t ls st L
  | 7 => fun ih ls st L => p_istore ih a t ls st L
  | 8 => fun ih ls st L => p_iinc ih fz a v t ls st L
  | 9 => fun ih ls st L => ih a ls st L
  | 10 => fun ih ls st L => p_if0 ih a b t ls st L
  | 11 => fun ih ls st L => p_iast ih wr t ls st L
  | 12 => fun ih ls st L => p_callV ih call a b (hd0 tg) t ls st L
  | 13 => fun ih ls st L => p_callS ih call a b t ls st L
  | 14 => fun ih ls st L => p_iret st L
  | 15 => fun ih ls st L => p_zret st L
  | 16 => fun ih ls st L => p_vret st L
  | 17 => fun ih ls st L => p_div ih fz t ls st L
  | 18 => fun ih ls st L => p_rem ih fz t ls st L
  | 19 => fun ih ls st L => p_put ih a b v t ls st L
  | 20 => fun ih ls st L => p_neg ih fz t ls st L
  | 21 => fun ih ls st L => p_dup ih t ls st L
  | 22 => fun ih ls st L => p_dup2 ih t ls st L
  | 23 => fun ih ls st L => p_pop ih t ls st L
  | 24 => fun ih ls st L => p_alen ih t ls st L
  | 25 => fun ih ls st L => p_aald ih t ls st L
  | 26 => fun ih ls st L => ih t ls (.inr (.inr a) :: st) L
  | 27 => fun ih ls st L => p_max ih t ls st L
  | 28 => fun ih ls st L => p_min ih t ls st L
  | 29 => fun ih ls st L => p_abs ih fz t ls st L
  | 30 => fun ih ls st L => p_tab ih a b tg ls st L
  | 31 => fun ih ls st L => p_astore ih a t ls st L
  | _ => fun ih ls st L => none
noncomputable def mkc {A : Type} (rd : A → Nat → Int32) (wr : A → Nat → Int32 → A) (fz : QZ A) (call : QC A) (c : List PO) (i : Nat) : List (QF A) := match c with
  | [] => []
  | (_, op, a, b, v, tg) :: t => clo rd wr fz call op a b v tg (i + 1) :: mkc rd wr fz call t (i + 1)
theorem mkc_nth {A : Type} {rd : A → Nat → Int32} {wr : A → Nat → Int32 → A} {fz : QZ A} {call : QC A} : ∀ (c : List PO) (i k : Nat) (f : QF A), nth (mkc rd wr fz call c i) k = some f → ∃ pc op a b v tg, nth c k = some (pc, op, a, b, v, tg) ∧ f = clo rd wr fz call op a b v tg (i + k + 1) := by
  intro c
  induction c with
  | nil => intro i k f h; cases h
  | cons e t ih =>
    intro i k f h
    obtain ⟨pc, op, a, b, v, tg⟩ := e
    cases k with
    | zero =>
      cases h
      exact ⟨pc, op, a, b, v, tg, rfl, rfl⟩
    | succ k =>
      obtain ⟨pc', op', a', b', v', tg', h1, h2⟩ := ih (i + 1) k f h
      exact ⟨pc', op', a', b', v', tg', h1, by rw [h2, show i + 1 + k + 1 = i + (k + 1) + 1 by omega]⟩
noncomputable def run {A : Type} (code : List (QF A)) (F : Nat) : QK A := Nat.rec (motive := fun _ => QK A) (fun _ _ _ _ => none) (fun _ ih i ls st L => match nth code i with
  | some f => f ih ls st L
  | none => none) F

def tX11_order : List PO := [(0, 1, 0, 0, 0, []), (1, 3, 11, 9, 0, []), (4, 1, 0, 0, 0, []), (5, 3, 11, 0, 0, []), (8, 3, 10, 3, 0, []), (11, 2, 0, 0, 8, []), (13, 25, 0, 0, 0, []), (14, 12, 1, 1, 0, [4]), (17, 14, 0, 0, 0, [])]
def tX4_rowsOfAll : List PO := [(0, 1, 0, 0, 0, []), (1, 3, 4, 1, 0, []), (4, 2, 0, 0, 0, []), (5, 13, 2, 2, 0, []), (8, 2, 0, 0, 0, []), (9, 7, 2, 0, 0, []), (10, 0, 2, 0, 0, []), (11, 1, 1, 0, 0, []), (12, 3, 9, 1, 0, []), (15, 4, 37, 3, 0, []), (18, 1, 1, 0, 0, []), (19, 0, 2, 0, 0, []), (20, 12, 3, 1, 0, [9]), (23, 2, 0, 0, 256, []), (26, 18, 0, 0, 0, []), (27, 7, 3, 0, 0, []), (28, 0, 3, 0, 0, []), (29, 10, 35, 2, 0, []), (32, 0, 3, 0, 0, []), (33, 2, 0, 0, 8, []), (35, 4, 35, 3, 0, []), (38, 1, 0, 0, 0, []), (39, 3, 4, 1, 0, []), (42, 0, 3, 0, 0, []), (43, 22, 0, 0, 0, []), (44, 5, 0, 0, 0, []), (45, 2, 0, 0, 1, []), (46, 1, 1, 0, 0, []), (47, 0, 2, 0, 0, []), (48, 12, 3, 1, 0, [9]), (51, 2, 0, 0, 256, []), (54, 17, 0, 0, 0, []), (55, 6, 6, 0, 0, []), (56, 6, 4, 0, 0, []), (57, 11, 0, 0, 0, []), (58, 8, 2, 0, 1, []), (61, 9, 6, 0, 0, []), (64, 1, 0, 0, 0, []), (65, 3, 4, 0, 0, []), (68, 2, 0, 0, 0, []), (69, 13, 2, 2, 0, []), (72, 1, 0, 0, 0, []), (73, 3, 4, 0, 0, []), (76, 2, 0, 0, 0, []), (77, 2, 0, 0, 1, []), (78, 11, 0, 0, 0, []), (79, 2, 0, 0, 255, []), (82, 7, 2, 0, 0, []), (83, 2, 0, 0, 0, []), (84, 7, 3, 0, 0, []), (85, 0, 3, 0, 0, []), (86, 0, 2, 0, 0, []), (87, 4, 92, 3, 0, []), (90, 2, 0, 0, 0, []), (91, 7, 4, 0, 0, []), (93, 0, 4, 0, 0, []), (95, 2, 0, 0, 8, []), (97, 4, 90, 3, 0, []), (100, 0, 3, 0, 0, []), (101, 0, 4, 0, 0, []), (103, 6, 7, 0, 0, []), (104, 2, 0, 0, 1, []), (105, 6, 3, 0, 0, []), (106, 10, 88, 1, 0, []), (109, 1, 0, 0, 0, []), (110, 3, 4, 1, 0, []), (113, 0, 4, 0, 0, []), (115, 5, 0, 0, 0, []), (116, 0, 3, 0, 0, []), (117, 2, 0, 0, (-1), []), (118, 6, 5, 0, 0, []), (119, 6, 3, 0, 0, []), (120, 10, 88, 1, 0, []), (123, 1, 0, 0, 0, []), (124, 3, 4, 0, 0, []), (127, 0, 3, 0, 0, []), (128, 2, 0, 0, 1, []), (129, 0, 4, 0, 0, []), (131, 6, 6, 0, 0, []), (132, 6, 4, 0, 0, []), (133, 22, 0, 0, 0, []), (134, 5, 0, 0, 0, []), (135, 1, 0, 0, 0, []), (136, 3, 4, 0, 0, []), (139, 0, 3, 0, 0, []), (140, 5, 0, 0, 0, []), (141, 6, 0, 0, 0, []), (142, 11, 0, 0, 0, []), (143, 8, 4, 0, 1, []), (146, 9, 55, 0, 0, []), (149, 8, 3, 0, 1, []), (152, 9, 50, 0, 0, []), (155, 1, 0, 0, 0, []), (156, 3, 4, 0, 0, []), (159, 0, 2, 0, 0, []), (160, 5, 0, 0, 0, []), (161, 14, 0, 0, 0, [])]
def tJ7_fill_53178 : List PO := [(0, 2, 0, 0, 0, []), (1, 7, 2, 0, 0, []), (2, 1, 0, 0, 0, []), (3, 24, 0, 0, 0, []), (4, 7, 3, 0, 0, []), (5, 0, 2, 0, 0, []), (6, 0, 3, 0, 0, []), (7, 4, 14, 3, 0, []), (10, 1, 0, 0, 0, []), (11, 0, 2, 0, 0, []), (12, 0, 1, 0, 0, []), (13, 11, 0, 0, 0, []), (14, 8, 2, 0, 1, []), (17, 9, 5, 0, 0, []), (20, 16, 0, 0, 0, [])]
def tX9_item : List PO := [(0, 0, 1, 0, 0, []), (1, 10, 16, 2, 0, []), (4, 0, 1, 0, 0, []), (5, 1, 0, 0, 0, []), (6, 3, 9, 1, 0, []), (9, 4, 16, 3, 0, []), (12, 0, 1, 0, 0, []), (13, 1, 0, 0, 0, []), (14, 3, 9, 0, 0, []), (17, 24, 0, 0, 0, []), (18, 4, 16, 3, 0, []), (21, 1, 0, 0, 0, []), (22, 3, 9, 0, 0, []), (25, 0, 1, 0, 0, []), (26, 5, 0, 0, 0, []), (27, 9, 17, 0, 0, []), (30, 2, 0, 0, 0, []), (31, 14, 0, 0, 0, [])]
def tX11_wax : List PO := [(0, 0, 1, 0, 0, []), (1, 30, 0, 9, 0, [59, 2, 6, 10, 17, 24, 31, 42, 49, 49, 49]), (56, 1, 0, 0, 0, []), (57, 3, 11, 6, 0, []), (60, 12, 5, 0, 0, [1]), (63, 14, 0, 0, 0, []), (64, 1, 0, 0, 0, []), (65, 3, 11, 6, 0, []), (68, 12, 23, 0, 0, [1]), (71, 14, 0, 0, 0, []), (72, 1, 0, 0, 0, []), (73, 3, 11, 8, 0, []), (76, 1, 0, 0, 0, []), (77, 3, 11, 0, 0, []), (80, 3, 10, 0, 0, []), (83, 12, 24, 1, 0, [6]), (86, 14, 0, 0, 0, []), (87, 1, 0, 0, 0, []), (88, 3, 11, 8, 0, []), (91, 1, 0, 0, 0, []), (92, 3, 11, 0, 0, []), (95, 3, 10, 0, 0, []), (98, 12, 29, 1, 0, [6]), (101, 14, 0, 0, 0, []), (102, 1, 0, 0, 0, []), (103, 3, 11, 8, 0, []), (106, 1, 0, 0, 0, []), (107, 3, 11, 0, 0, []), (110, 3, 10, 0, 0, []), (113, 12, 30, 1, 0, [6]), (116, 14, 0, 0, 0, []), (117, 1, 0, 0, 0, []), (118, 3, 11, 8, 0, []), (121, 1, 0, 0, 0, []), (122, 3, 11, 0, 0, []), (125, 3, 10, 0, 0, []), (128, 12, 31, 1, 0, [6]), (131, 10, 40, 1, 0, []), (134, 2, 0, 0, 1, []), (135, 9, 41, 0, 0, []), (138, 2, 0, 0, 0, []), (139, 14, 0, 0, 0, []), (140, 1, 0, 0, 0, []), (141, 3, 11, 8, 0, []), (144, 1, 0, 0, 0, []), (145, 3, 11, 0, 0, []), (148, 3, 10, 0, 0, []), (151, 12, 31, 1, 0, [6]), (154, 14, 0, 0, 0, []), (155, 1, 0, 0, 0, []), (156, 3, 11, 8, 0, []), (159, 1, 0, 0, 0, []), (160, 3, 11, 0, 0, []), (163, 3, 10, 0, 0, []), (166, 0, 1, 0, 0, []), (167, 2, 0, 0, 7, []), (169, 6, 1, 0, 0, []), (170, 12, 32, 2, 0, [6]), (173, 14, 0, 0, 0, []), (174, 2, 0, 0, (-100000), []), (176, 14, 0, 0, 0, [])]
def tX1_sum : List PO := [(0, 2, 0, 0, 0, []), (1, 7, 1, 0, 0, []), (2, 2, 0, 0, 0, []), (3, 7, 2, 0, 0, []), (4, 0, 2, 0, 0, []), (5, 2, 0, 0, 144, []), (8, 4, 25, 3, 0, []), (11, 1, 0, 0, 0, []), (12, 3, 1, 0, 0, []), (15, 0, 2, 0, 0, []), (16, 12, 6, 1, 0, [0]), (19, 10, 23, 0, 0, []), (22, 0, 1, 0, 0, []), (23, 1, 0, 0, 0, []), (24, 3, 1, 0, 0, []), (27, 0, 2, 0, 0, []), (28, 12, 7, 1, 0, [0]), (31, 1, 0, 0, 0, []), (32, 0, 2, 0, 0, []), (33, 12, 10, 1, 0, [1]), (36, 6, 2, 0, 0, []), (37, 6, 0, 0, 0, []), (38, 7, 1, 0, 0, []), (39, 8, 2, 0, 1, []), (42, 9, 4, 0, 0, []), (45, 0, 1, 0, 0, []), (46, 14, 0, 0, 0, [])]
def tX0_marked : List PO := [(0, 0, 1, 0, 0, []), (1, 10, 12, 2, 0, []), (4, 0, 1, 0, 0, []), (5, 2, 0, 0, 144, []), (8, 4, 12, 3, 0, []), (11, 1, 0, 0, 0, []), (12, 3, 0, 1, 0, []), (15, 0, 1, 0, 0, []), (16, 5, 0, 0, 0, []), (17, 10, 12, 0, 0, []), (20, 2, 0, 0, 1, []), (21, 9, 13, 0, 0, []), (24, 2, 0, 0, 0, []), (25, 15, 0, 0, 0, [])]
def tX0_way : List PO := [(0, 1, 0, 0, 0, []), (1, 0, 1, 0, 0, []), (2, 12, 8, 1, 0, [0]), (5, 2, 0, 0, 0, []), (6, 13, 9, 2, 0, []), (9, 14, 0, 0, 0, [])]
def tX0_mark : List PO := [(0, 0, 1, 0, 0, []), (1, 10, 10, 2, 0, []), (4, 0, 1, 0, 0, []), (5, 2, 0, 0, 144, []), (8, 4, 10, 3, 0, []), (11, 1, 0, 0, 0, []), (12, 3, 0, 1, 0, []), (15, 0, 1, 0, 0, []), (16, 5, 0, 0, 0, []), (17, 9, 11, 0, 0, []), (20, 2, 0, 0, 0, []), (21, 14, 0, 0, 0, [])]
def tJ6_compare_7cf53 : List PO := [(0, 0, 0, 0, 0, []), (1, 0, 1, 0, 0, []), (2, 4, 5, 3, 0, []), (5, 2, 0, 0, (-1), []), (6, 9, 11, 0, 0, []), (9, 0, 0, 0, 0, []), (10, 0, 1, 0, 0, []), (11, 4, 10, 1, 0, []), (14, 2, 0, 0, 0, []), (15, 9, 11, 0, 0, []), (18, 2, 0, 0, 1, []), (19, 14, 0, 0, 0, [])]
def tX1_weighs : List PO := [(0, 1, 0, 0, 0, []), (1, 1, 0, 0, 0, []), (2, 3, 1, 0, 0, []), (5, 0, 1, 0, 0, []), (6, 12, 11, 1, 0, [0]), (9, 0, 1, 0, 0, []), (10, 12, 12, 2, 0, [1]), (13, 1, 0, 0, 0, []), (14, 3, 1, 1, 0, []), (17, 2, 0, 0, 0, []), (18, 25, 0, 0, 0, []), (19, 2, 0, 0, 302, []), (22, 1, 0, 0, 0, []), (23, 3, 1, 0, 0, []), (26, 0, 1, 0, 0, []), (27, 12, 15, 1, 0, [0]), (30, 1, 0, 0, 0, []), (31, 3, 1, 3, 0, []), (34, 1, 0, 0, 0, []), (35, 3, 1, 4, 0, []), (38, 12, 17, 4, 0, [8]), (41, 2, 0, 0, 99, []), (43, 13, 22, 2, 0, []), (46, 14, 0, 0, 0, [])]
def tX0_owner : List PO := [(0, 1, 0, 0, 0, []), (1, 0, 1, 0, 0, []), (2, 12, 8, 1, 0, [0]), (5, 7, 2, 0, 0, []), (6, 0, 2, 0, 0, []), (7, 10, 8, 1, 0, []), (10, 2, 0, 0, (-1), []), (11, 9, 12, 0, 0, []), (14, 0, 2, 0, 0, []), (15, 29, 0, 0, 0, []), (18, 2, 0, 0, 4, []), (19, 6, 7, 0, 0, []), (20, 14, 0, 0, 0, [])]
def tX1_layValues : List PO := [(0, 0, 2, 0, 0, []), (1, 2, 0, 0, (-1), []), (2, 4, 5, 0, 0, []), (5, 2, 0, 0, 1, []), (6, 9, 6, 0, 0, []), (9, 2, 0, 0, 0, []), (10, 7, 3, 0, 0, []), (11, 1, 0, 0, 0, []), (12, 3, 1, 3, 0, []), (15, 2, 0, 0, 0, []), (16, 0, 3, 0, 0, []), (17, 10, 17, 0, 0, []), (20, 1, 0, 0, 0, []), (21, 3, 1, 0, 0, []), (24, 0, 2, 0, 0, []), (25, 12, 7, 1, 0, [0]), (28, 9, 22, 0, 0, []), (31, 1, 0, 0, 0, []), (32, 3, 1, 0, 0, []), (35, 0, 1, 0, 0, []), (36, 2, 0, 0, 1, []), (37, 12, 13, 2, 0, [0]), (40, 11, 0, 0, 0, []), (41, 1, 0, 0, 0, []), (42, 3, 1, 3, 0, []), (45, 2, 0, 0, 1, []), (46, 1, 0, 0, 0, []), (47, 3, 1, 0, 0, []), (50, 0, 1, 0, 0, []), (51, 2, 0, 0, 3, []), (52, 12, 13, 2, 0, [0]), (55, 11, 0, 0, 0, []), (56, 1, 0, 0, 0, []), (57, 3, 1, 3, 0, []), (60, 2, 0, 0, 2, []), (61, 1, 0, 0, 0, []), (62, 3, 1, 0, 0, []), (65, 0, 1, 0, 0, []), (66, 2, 0, 0, 2, []), (67, 12, 13, 2, 0, [0]), (70, 11, 0, 0, 0, []), (71, 1, 0, 0, 0, []), (72, 3, 1, 3, 0, []), (75, 2, 0, 0, 3, []), (76, 0, 3, 0, 0, []), (77, 10, 51, 0, 0, []), (80, 1, 0, 0, 0, []), (81, 3, 1, 0, 0, []), (84, 0, 2, 0, 0, []), (85, 12, 15, 1, 0, [0]), (88, 9, 52, 0, 0, []), (91, 2, 0, 0, 0, []), (92, 11, 0, 0, 0, []), (93, 1, 0, 0, 0, []), (94, 3, 1, 3, 0, []), (97, 2, 0, 0, 4, []), (98, 1, 0, 0, 0, []), (99, 3, 1, 0, 0, []), (102, 3, 0, 3, 0, []), (105, 11, 0, 0, 0, []), (106, 1, 0, 0, 0, []), (107, 3, 1, 3, 0, []), (110, 2, 0, 0, 5, []), (111, 1, 0, 0, 0, []), (112, 3, 1, 0, 0, []), (115, 3, 0, 4, 0, []), (118, 11, 0, 0, 0, []), (119, 1, 0, 0, 0, []), (120, 3, 1, 3, 0, []), (123, 2, 0, 0, 6, []), (125, 0, 3, 0, 0, []), (126, 10, 76, 0, 0, []), (129, 0, 2, 0, 0, []), (130, 2, 0, 0, 12, []), (132, 17, 0, 0, 0, []), (133, 9, 77, 0, 0, []), (136, 2, 0, 0, 0, []), (137, 11, 0, 0, 0, []), (138, 1, 0, 0, 0, []), (139, 3, 1, 3, 0, []), (142, 2, 0, 0, 7, []), (144, 0, 3, 0, 0, []), (145, 10, 88, 0, 0, []), (148, 1, 0, 0, 0, []), (149, 3, 1, 0, 0, []), (152, 0, 2, 0, 0, []), (153, 12, 16, 1, 0, [0]), (156, 9, 89, 0, 0, []), (159, 2, 0, 0, 0, []), (160, 11, 0, 0, 0, []), (161, 1, 0, 0, 0, []), (162, 3, 1, 3, 0, []), (165, 2, 0, 0, 8, []), (167, 1, 0, 0, 0, []), (168, 3, 1, 0, 0, []), (171, 0, 1, 0, 0, []), (172, 2, 0, 0, 5, []), (173, 12, 13, 2, 0, [0]), (176, 11, 0, 0, 0, []), (177, 1, 0, 0, 0, []), (178, 3, 1, 3, 0, []), (181, 2, 0, 0, 9, []), (183, 1, 0, 0, 0, []), (184, 3, 1, 0, 0, []), (187, 3, 0, 5, 0, []), (190, 11, 0, 0, 0, []), (191, 16, 0, 0, 0, [])]
def tX0_trait : List PO := [(0, 1, 0, 0, 0, []), (1, 0, 1, 0, 0, []), (2, 12, 14, 1, 0, [0]), (5, 10, 11, 0, 0, []), (8, 0, 2, 0, 0, []), (9, 10, 11, 2, 0, []), (12, 0, 2, 0, 0, []), (13, 2, 0, 0, 6, []), (15, 4, 11, 3, 0, []), (18, 2, 0, 0, 1, []), (19, 9, 12, 0, 0, []), (22, 2, 0, 0, 0, []), (23, 7, 3, 0, 0, []), (24, 0, 3, 0, 0, []), (25, 10, 24, 0, 0, []), (28, 1, 0, 0, 0, []), (29, 3, 0, 0, 0, []), (32, 0, 2, 0, 0, []), (33, 2, 0, 0, 20, []), (35, 6, 2, 0, 0, []), (36, 0, 1, 0, 0, []), (37, 6, 0, 0, 0, []), (38, 5, 0, 0, 0, []), (39, 9, 25, 0, 0, []), (42, 2, 0, 0, 0, []), (43, 14, 0, 0, 0, [])]
def tX0_has : List PO := [(0, 0, 1, 0, 0, []), (1, 10, 11, 2, 0, []), (4, 0, 1, 0, 0, []), (5, 1, 0, 0, 0, []), (6, 3, 0, 2, 0, []), (9, 4, 11, 3, 0, []), (12, 0, 1, 0, 0, []), (13, 2, 0, 0, 20, []), (15, 4, 11, 3, 0, []), (18, 2, 0, 0, 1, []), (19, 9, 12, 0, 0, []), (22, 2, 0, 0, 0, []), (23, 15, 0, 0, 0, [])]
def tX0_depth : List PO := [(0, 1, 0, 0, 0, []), (1, 0, 1, 0, 0, []), (2, 12, 8, 1, 0, [0]), (5, 29, 0, 0, 0, []), (8, 2, 0, 0, 15, []), (10, 6, 3, 0, 0, []), (11, 14, 0, 0, 0, [])]
def tX0_besides : List PO := [(0, 0, 1, 0, 0, []), (1, 2, 0, 0, 12, []), (3, 18, 0, 0, 0, []), (4, 7, 2, 0, 0, []), (5, 1, 0, 0, 0, []), (6, 0, 1, 0, 0, []), (7, 2, 0, 0, 12, []), (9, 6, 0, 0, 0, []), (10, 12, 6, 1, 0, [0]), (13, 10, 12, 0, 0, []), (16, 2, 0, 0, 1, []), (17, 9, 13, 0, 0, []), (20, 2, 0, 0, 0, []), (21, 7, 3, 0, 0, []), (22, 0, 3, 0, 0, []), (23, 1, 0, 0, 0, []), (24, 0, 1, 0, 0, []), (25, 2, 0, 0, 12, []), (27, 6, 1, 0, 0, []), (28, 12, 6, 1, 0, [0]), (31, 10, 23, 0, 0, []), (34, 2, 0, 0, 1, []), (35, 9, 24, 0, 0, []), (38, 2, 0, 0, 0, []), (39, 6, 0, 0, 0, []), (40, 7, 3, 0, 0, []), (41, 0, 3, 0, 0, []), (42, 0, 2, 0, 0, []), (43, 10, 37, 5, 0, []), (46, 1, 0, 0, 0, []), (47, 0, 1, 0, 0, []), (48, 2, 0, 0, 1, []), (49, 6, 1, 0, 0, []), (50, 12, 6, 1, 0, [0]), (53, 10, 37, 0, 0, []), (56, 2, 0, 0, 1, []), (57, 9, 38, 0, 0, []), (60, 2, 0, 0, 0, []), (61, 6, 0, 0, 0, []), (62, 7, 3, 0, 0, []), (63, 0, 3, 0, 0, []), (64, 0, 2, 0, 0, []), (65, 2, 0, 0, 11, []), (67, 4, 52, 3, 0, []), (70, 1, 0, 0, 0, []), (71, 0, 1, 0, 0, []), (72, 2, 0, 0, 1, []), (73, 6, 0, 0, 0, []), (74, 12, 6, 1, 0, [0]), (77, 10, 52, 0, 0, []), (80, 2, 0, 0, 1, []), (81, 9, 53, 0, 0, []), (84, 2, 0, 0, 0, []), (85, 6, 0, 0, 0, []), (86, 7, 3, 0, 0, []), (87, 0, 3, 0, 0, []), (88, 14, 0, 0, 0, [])]
def tX8_tells : List PO := [(0, 2, 0, 0, 0, []), (1, 7, 5, 0, 0, []), (3, 0, 5, 0, 0, []), (5, 1, 0, 0, 0, []), (6, 3, 8, 1, 0, []), (9, 4, 46, 3, 0, []), (12, 1, 0, 0, 0, []), (13, 0, 5, 0, 0, []), (15, 2, 0, 0, 0, []), (16, 12, 18, 2, 0, [8]), (19, 0, 1, 0, 0, []), (20, 4, 44, 1, 0, []), (23, 1, 0, 0, 0, []), (24, 0, 5, 0, 0, []), (26, 2, 0, 0, 1, []), (27, 12, 18, 2, 0, [8]), (30, 7, 6, 0, 0, []), (32, 1, 0, 0, 0, []), (33, 0, 5, 0, 0, []), (35, 2, 0, 0, 2, []), (36, 12, 18, 2, 0, [8]), (39, 7, 7, 0, 0, []), (41, 1, 0, 0, 0, []), (42, 0, 5, 0, 0, []), (44, 2, 0, 0, 3, []), (45, 12, 18, 2, 0, [8]), (48, 7, 8, 0, 0, []), (50, 0, 7, 0, 0, []), (52, 0, 8, 0, 0, []), (54, 4, 37, 0, 0, []), (57, 1, 0, 0, 0, []), (58, 0, 7, 0, 0, []), (60, 0, 8, 0, 0, []), (62, 1, 3, 0, 0, []), (63, 1, 4, 0, 0, []), (65, 12, 19, 4, 0, [8]), (68, 10, 44, 0, 0, []), (71, 1, 0, 0, 0, []), (72, 0, 6, 0, 0, []), (74, 0, 7, 0, 0, []), (76, 1, 3, 0, 0, []), (77, 1, 4, 0, 0, []), (79, 12, 19, 4, 0, [8]), (82, 14, 0, 0, 0, []), (83, 8, 5, 0, 1, []), (86, 9, 2, 0, 0, []), (89, 0, 2, 0, 0, []), (90, 14, 0, 0, 0, [])]
def tX8_number : List PO := [(0, 0, 1, 0, 0, []), (1, 10, 22, 2, 0, []), (4, 0, 1, 0, 0, []), (5, 1, 0, 0, 0, []), (6, 3, 8, 1, 0, []), (9, 4, 22, 3, 0, []), (12, 0, 2, 0, 0, []), (13, 10, 22, 2, 0, []), (16, 0, 2, 0, 0, []), (17, 2, 0, 0, 5, []), (18, 4, 22, 3, 0, []), (21, 0, 1, 0, 0, []), (22, 2, 0, 0, 5, []), (23, 6, 2, 0, 0, []), (24, 0, 2, 0, 0, []), (25, 6, 0, 0, 0, []), (26, 1, 0, 0, 0, []), (27, 3, 8, 0, 0, []), (30, 24, 0, 0, 0, []), (31, 4, 22, 3, 0, []), (34, 2, 0, 0, 1, []), (35, 9, 23, 0, 0, []), (38, 2, 0, 0, 0, []), (39, 7, 3, 0, 0, []), (40, 0, 3, 0, 0, []), (41, 10, 35, 0, 0, []), (44, 1, 0, 0, 0, []), (45, 3, 8, 0, 0, []), (48, 0, 1, 0, 0, []), (49, 2, 0, 0, 5, []), (50, 6, 2, 0, 0, []), (51, 0, 2, 0, 0, []), (52, 6, 0, 0, 0, []), (53, 5, 0, 0, 0, []), (54, 9, 36, 0, 0, []), (57, 2, 0, 0, 0, []), (58, 14, 0, 0, 0, [])]
def tX8_run : List PO := [(0, 2, 0, 0, 0, []), (1, 7, 5, 0, 0, []), (3, 0, 1, 0, 0, []), (4, 2, 0, 0, 0, []), (5, 27, 0, 0, 0, []), (8, 7, 6, 0, 0, []), (10, 0, 6, 0, 0, []), (12, 0, 2, 0, 0, []), (13, 4, 109, 3, 0, []), (16, 0, 6, 0, 0, []), (18, 1, 0, 0, 0, []), (19, 3, 8, 2, 0, []), (22, 24, 0, 0, 0, []), (23, 4, 109, 3, 0, []), (26, 1, 0, 0, 0, []), (27, 3, 8, 2, 0, []), (30, 0, 6, 0, 0, []), (32, 5, 0, 0, 0, []), (33, 2, 0, 0, 15, []), (35, 6, 3, 0, 0, []), (36, 7, 7, 0, 0, []), (38, 1, 0, 0, 0, []), (39, 3, 8, 2, 0, []), (42, 0, 6, 0, 0, []), (44, 5, 0, 0, 0, []), (45, 2, 0, 0, 4, []), (46, 6, 7, 0, 0, []), (47, 7, 8, 0, 0, []), (49, 0, 7, 0, 0, []), (51, 10, 33, 0, 0, []), (54, 0, 7, 0, 0, []), (56, 2, 0, 0, 1, []), (57, 4, 56, 1, 0, []), (60, 0, 5, 0, 0, []), (62, 1, 4, 0, 0, []), (64, 24, 0, 0, 0, []), (65, 4, 107, 3, 0, []), (68, 0, 8, 0, 0, []), (70, 10, 107, 2, 0, []), (73, 1, 4, 0, 0, []), (75, 0, 5, 0, 0, []), (77, 0, 7, 0, 0, []), (79, 2, 0, 0, 1, []), (80, 4, 52, 1, 0, []), (83, 0, 8, 0, 0, []), (85, 1, 3, 0, 0, []), (86, 24, 0, 0, 0, []), (87, 4, 52, 3, 0, []), (90, 1, 3, 0, 0, []), (91, 0, 8, 0, 0, []), (93, 5, 0, 0, 0, []), (94, 9, 53, 0, 0, []), (97, 0, 8, 0, 0, []), (99, 11, 0, 0, 0, []), (100, 8, 5, 0, 1, []), (103, 9, 107, 0, 0, []), (106, 0, 7, 0, 0, []), (108, 2, 0, 0, 2, []), (109, 4, 62, 0, 0, []), (112, 0, 7, 0, 0, []), (114, 2, 0, 0, 3, []), (115, 4, 88, 1, 0, []), (118, 0, 5, 0, 0, []), (120, 10, 107, 5, 0, []), (123, 1, 4, 0, 0, []), (125, 0, 5, 0, 0, []), (127, 2, 0, 0, 1, []), (128, 6, 1, 0, 0, []), (129, 0, 7, 0, 0, []), (131, 2, 0, 0, 3, []), (132, 4, 79, 1, 0, []), (135, 2, 0, 0, 1, []), (136, 1, 4, 0, 0, []), (138, 0, 5, 0, 0, []), (140, 2, 0, 0, 1, []), (141, 6, 1, 0, 0, []), (142, 5, 0, 0, 0, []), (143, 6, 1, 0, 0, []), (144, 9, 86, 0, 0, []), (147, 1, 4, 0, 0, []), (149, 0, 5, 0, 0, []), (151, 2, 0, 0, 1, []), (152, 6, 1, 0, 0, []), (153, 5, 0, 0, 0, []), (154, 0, 8, 0, 0, []), (156, 13, 20, 2, 0, []), (159, 11, 0, 0, 0, []), (160, 9, 107, 0, 0, []), (163, 0, 5, 0, 0, []), (165, 2, 0, 0, 1, []), (166, 4, 107, 5, 0, []), (169, 8, 5, 0, (-1), []), (172, 1, 4, 0, 0, []), (174, 0, 5, 0, 0, []), (176, 2, 0, 0, 1, []), (177, 6, 1, 0, 0, []), (178, 0, 7, 0, 0, []), (180, 1, 4, 0, 0, []), (182, 0, 5, 0, 0, []), (184, 2, 0, 0, 1, []), (185, 6, 1, 0, 0, []), (186, 5, 0, 0, 0, []), (187, 1, 4, 0, 0, []), (189, 0, 5, 0, 0, []), (191, 5, 0, 0, 0, []), (192, 13, 21, 3, 0, []), (195, 11, 0, 0, 0, []), (196, 8, 6, 0, 1, []), (199, 9, 6, 0, 0, []), (202, 0, 5, 0, 0, []), (204, 10, 115, 5, 0, []), (207, 1, 4, 0, 0, []), (209, 2, 0, 0, 0, []), (210, 5, 0, 0, 0, []), (211, 9, 116, 0, 0, []), (214, 2, 0, 0, 0, []), (215, 14, 0, 0, 0, [])]
def tX8_part : List PO := [(0, 0, 1, 0, 0, []), (1, 10, 4, 1, 0, []), (4, 2, 0, 0, 0, []), (5, 9, 7, 0, 0, []), (8, 0, 0, 0, 0, []), (9, 0, 1, 0, 0, []), (10, 17, 0, 0, 0, []), (11, 14, 0, 0, 0, [])]
def tX8_join : List PO := [(0, 0, 0, 0, 0, []), (1, 30, 4, 10, 0, [39, 2, 6, 10, 14, 21, 28, 35]), (44, 0, 1, 0, 0, []), (45, 0, 2, 0, 0, []), (46, 6, 0, 0, 0, []), (47, 14, 0, 0, 0, []), (48, 0, 1, 0, 0, []), (49, 0, 2, 0, 0, []), (50, 6, 1, 0, 0, []), (51, 14, 0, 0, 0, []), (52, 0, 1, 0, 0, []), (53, 0, 2, 0, 0, []), (54, 6, 2, 0, 0, []), (55, 14, 0, 0, 0, []), (56, 0, 1, 0, 0, []), (57, 0, 2, 0, 0, []), (58, 4, 19, 3, 0, []), (61, 2, 0, 0, 1, []), (62, 9, 20, 0, 0, []), (65, 2, 0, 0, 0, []), (66, 14, 0, 0, 0, []), (67, 0, 1, 0, 0, []), (68, 0, 2, 0, 0, []), (69, 4, 26, 1, 0, []), (72, 2, 0, 0, 1, []), (73, 9, 27, 0, 0, []), (76, 2, 0, 0, 0, []), (77, 14, 0, 0, 0, []), (78, 0, 1, 0, 0, []), (79, 0, 2, 0, 0, []), (80, 4, 33, 5, 0, []), (83, 2, 0, 0, 1, []), (84, 9, 34, 0, 0, []), (87, 2, 0, 0, 0, []), (88, 14, 0, 0, 0, []), (89, 0, 1, 0, 0, []), (90, 0, 2, 0, 0, []), (91, 6, 3, 0, 0, []), (92, 14, 0, 0, 0, []), (93, 0, 1, 0, 0, []), (94, 0, 2, 0, 0, []), (95, 6, 4, 0, 0, []), (96, 14, 0, 0, 0, [])]
def tX1_held : List PO := [(0, 2, 0, 0, 0, []), (1, 0, 1, 0, 0, []), (2, 0, 0, 0, 0, []), (3, 28, 0, 0, 0, []), (6, 27, 0, 0, 0, []), (9, 14, 0, 0, 0, [])]
def tX1_turned : List PO := [(0, 1, 0, 0, 0, []), (1, 3, 1, 5, 0, []), (4, 2, 0, 0, 0, []), (5, 13, 2, 2, 0, []), (8, 2, 0, 0, 0, []), (9, 7, 1, 0, 0, []), (10, 2, 0, 0, 0, []), (11, 7, 2, 0, 0, []), (12, 0, 2, 0, 0, []), (13, 2, 0, 0, 144, []), (16, 4, 51, 3, 0, []), (19, 1, 0, 0, 0, []), (20, 3, 1, 0, 0, []), (23, 0, 2, 0, 0, []), (24, 12, 6, 1, 0, [0]), (27, 10, 49, 0, 0, []), (30, 1, 0, 0, 0, []), (31, 0, 2, 0, 0, []), (32, 12, 10, 1, 0, [1]), (35, 7, 3, 0, 0, []), (36, 0, 1, 0, 0, []), (37, 1, 0, 0, 0, []), (38, 3, 1, 0, 0, []), (41, 0, 2, 0, 0, []), (42, 12, 7, 1, 0, [0]), (45, 0, 3, 0, 0, []), (46, 6, 2, 0, 0, []), (47, 6, 0, 0, 0, []), (48, 7, 1, 0, 0, []), (49, 1, 0, 0, 0, []), (50, 3, 1, 0, 0, []), (53, 0, 2, 0, 0, []), (54, 12, 7, 1, 0, [0]), (57, 10, 49, 3, 0, []), (60, 0, 3, 0, 0, []), (61, 10, 49, 2, 0, []), (64, 0, 3, 0, 0, []), (65, 1, 0, 0, 0, []), (66, 3, 1, 5, 0, []), (69, 24, 0, 0, 0, []), (70, 4, 49, 3, 0, []), (73, 1, 0, 0, 0, []), (74, 3, 1, 5, 0, []), (77, 0, 3, 0, 0, []), (78, 22, 0, 0, 0, []), (79, 5, 0, 0, 0, []), (80, 2, 0, 0, 1, []), (81, 6, 0, 0, 0, []), (82, 11, 0, 0, 0, []), (83, 8, 2, 0, 1, []), (86, 9, 8, 0, 0, []), (89, 2, 0, 0, 0, []), (90, 7, 2, 0, 0, []), (91, 2, 0, 0, 99, []), (93, 7, 3, 0, 0, []), (94, 0, 3, 0, 0, []), (95, 10, 76, 5, 0, []), (98, 2, 0, 0, 0, []), (99, 7, 4, 0, 0, []), (101, 0, 4, 0, 0, []), (103, 1, 0, 0, 0, []), (104, 3, 1, 5, 0, []), (107, 0, 3, 0, 0, []), (108, 5, 0, 0, 0, []), (109, 4, 74, 3, 0, []), (112, 0, 1, 0, 0, []), (113, 10, 74, 4, 0, []), (116, 0, 1, 0, 0, []), (117, 0, 3, 0, 0, []), (118, 6, 0, 0, 0, []), (119, 7, 1, 0, 0, []), (120, 8, 2, 0, 1, []), (123, 8, 4, 0, 1, []), (126, 9, 59, 0, 0, []), (129, 8, 3, 0, (-1), []), (132, 9, 55, 0, 0, []), (135, 0, 1, 0, 0, []), (136, 10, 80, 5, 0, []), (139, 0, 2, 0, 0, []), (140, 9, 81, 0, 0, []), (143, 2, 0, 0, (-1), []), (144, 14, 0, 0, 0, [])]
def tX6_blobs : List PO := [(0, 1, 0, 0, 0, []), (1, 1, 1, 0, 0, []), (2, 2, 0, 0, 1, []), (3, 2, 0, 0, 0, []), (4, 12, 25, 3, 0, [6]), (7, 14, 0, 0, 0, [])]
def tX6_pieces : List PO := [(0, 2, 0, 0, 0, []), (1, 7, 4, 0, 0, []), (3, 2, 0, 0, 0, []), (4, 7, 5, 0, 0, []), (6, 2, 0, 0, 0, []), (7, 7, 6, 0, 0, []), (9, 2, 0, 0, 0, []), (10, 7, 7, 0, 0, []), (12, 0, 7, 0, 0, []), (14, 2, 0, 0, 144, []), (17, 4, 25, 3, 0, []), (20, 1, 0, 0, 0, []), (21, 3, 6, 0, 0, []), (24, 0, 7, 0, 0, []), (26, 1, 1, 0, 0, []), (27, 0, 7, 0, 0, []), (29, 12, 6, 1, 0, [0]), (32, 0, 2, 0, 0, []), (33, 4, 21, 1, 0, []), (36, 2, 0, 0, 0, []), (37, 9, 22, 0, 0, []), (40, 2, 0, 0, 1, []), (41, 11, 0, 0, 0, []), (42, 8, 7, 0, 1, []), (45, 9, 8, 0, 0, []), (48, 2, 0, 0, 0, []), (49, 7, 7, 0, 0, []), (51, 0, 7, 0, 0, []), (53, 2, 0, 0, 144, []), (56, 4, 55, 3, 0, []), (59, 1, 0, 0, 0, []), (60, 3, 6, 0, 0, []), (63, 0, 7, 0, 0, []), (65, 5, 0, 0, 0, []), (66, 10, 53, 1, 0, []), (69, 1, 0, 0, 0, []), (70, 0, 7, 0, 0, []), (72, 12, 26, 1, 0, [6]), (75, 8, 4, 0, 1, []), (78, 0, 5, 0, 0, []), (80, 1, 0, 0, 0, []), (81, 3, 6, 2, 0, []), (84, 27, 0, 0, 0, []), (87, 7, 5, 0, 0, []), (89, 0, 6, 0, 0, []), (91, 1, 0, 0, 0, []), (92, 3, 6, 3, 0, []), (95, 10, 50, 0, 0, []), (98, 2, 0, 0, 0, []), (99, 9, 51, 0, 0, []), (102, 2, 0, 0, 1, []), (103, 6, 0, 0, 0, []), (104, 7, 6, 0, 0, []), (106, 8, 7, 0, 1, []), (109, 9, 27, 0, 0, []), (112, 0, 3, 0, 0, []), (113, 10, 59, 1, 0, []), (116, 0, 4, 0, 0, []), (118, 14, 0, 0, 0, []), (119, 0, 3, 0, 0, []), (120, 2, 0, 0, 1, []), (121, 4, 64, 1, 0, []), (124, 0, 5, 0, 0, []), (126, 9, 65, 0, 0, []), (129, 0, 6, 0, 0, []), (131, 14, 0, 0, 0, [])]
def tX6_spread : List PO := [(0, 1, 0, 0, 0, []), (1, 2, 0, 0, 0, []), (2, 19, 6, 2, 0, []), (5, 1, 0, 0, 0, []), (6, 2, 0, 0, 0, []), (7, 19, 6, 3, 1, []), (10, 1, 0, 0, 0, []), (11, 0, 1, 0, 0, []), (12, 2, 0, 0, 12, []), (14, 17, 0, 0, 0, []), (15, 0, 1, 0, 0, []), (16, 2, 0, 0, 12, []), (18, 18, 0, 0, 0, []), (19, 12, 27, 2, 0, [6]), (22, 2, 0, 0, 0, []), (23, 7, 2, 0, 0, []), (24, 0, 2, 0, 0, []), (25, 1, 0, 0, 0, []), (26, 3, 6, 2, 0, []), (29, 4, 81, 3, 0, []), (32, 0, 2, 0, 0, []), (33, 2, 0, 0, 144, []), (36, 4, 81, 3, 0, []), (39, 1, 0, 0, 0, []), (40, 3, 6, 1, 0, []), (43, 0, 2, 0, 0, []), (44, 5, 0, 0, 0, []), (45, 2, 0, 0, 12, []), (47, 17, 0, 0, 0, []), (48, 7, 3, 0, 0, []), (49, 1, 0, 0, 0, []), (50, 3, 6, 1, 0, []), (53, 0, 2, 0, 0, []), (54, 5, 0, 0, 0, []), (55, 2, 0, 0, 12, []), (57, 18, 0, 0, 0, []), (58, 7, 4, 0, 0, []), (60, 1, 0, 0, 0, []), (61, 1, 0, 0, 0, []), (62, 3, 6, 3, 0, []), (65, 10, 51, 1, 0, []), (68, 0, 3, 0, 0, []), (69, 10, 51, 0, 0, []), (72, 0, 3, 0, 0, []), (73, 2, 0, 0, 11, []), (75, 4, 51, 0, 0, []), (78, 0, 4, 0, 0, []), (80, 10, 51, 0, 0, []), (83, 0, 4, 0, 0, []), (85, 2, 0, 0, 11, []), (87, 4, 53, 1, 0, []), (90, 2, 0, 0, 1, []), (91, 9, 54, 0, 0, []), (94, 2, 0, 0, 0, []), (95, 19, 6, 3, 1, []), (98, 1, 0, 0, 0, []), (99, 0, 3, 0, 0, []), (100, 2, 0, 0, 1, []), (101, 6, 0, 0, 0, []), (102, 0, 4, 0, 0, []), (104, 12, 27, 2, 0, [6]), (107, 1, 0, 0, 0, []), (108, 0, 3, 0, 0, []), (109, 2, 0, 0, 1, []), (110, 6, 1, 0, 0, []), (111, 0, 4, 0, 0, []), (113, 12, 27, 2, 0, [6]), (116, 1, 0, 0, 0, []), (117, 0, 3, 0, 0, []), (118, 0, 4, 0, 0, []), (120, 2, 0, 0, 1, []), (121, 6, 0, 0, 0, []), (122, 12, 27, 2, 0, [6]), (125, 1, 0, 0, 0, []), (126, 0, 3, 0, 0, []), (127, 0, 4, 0, 0, []), (129, 2, 0, 0, 1, []), (130, 6, 1, 0, 0, []), (131, 12, 27, 2, 0, [6]), (134, 8, 2, 0, 1, []), (137, 9, 16, 0, 0, []), (140, 16, 0, 0, 0, [])]
def tX6_reach : List PO := [(0, 0, 1, 0, 0, []), (1, 0, 2, 0, 0, []), (2, 13, 28, 2, 0, []), (5, 7, 3, 0, 0, []), (6, 0, 3, 0, 0, []), (7, 2, 0, 0, (-1), []), (8, 4, 33, 0, 0, []), (11, 1, 0, 0, 0, []), (12, 3, 6, 0, 0, []), (15, 0, 3, 0, 0, []), (16, 5, 0, 0, 0, []), (17, 10, 33, 1, 0, []), (20, 1, 0, 0, 0, []), (21, 3, 6, 2, 0, []), (24, 2, 0, 0, 144, []), (27, 4, 33, 3, 0, []), (30, 1, 0, 0, 0, []), (31, 3, 6, 0, 0, []), (34, 0, 3, 0, 0, []), (35, 2, 0, 0, 1, []), (36, 11, 0, 0, 0, []), (37, 1, 0, 0, 0, []), (38, 3, 6, 1, 0, []), (41, 1, 0, 0, 0, []), (42, 3, 6, 2, 0, []), (45, 0, 3, 0, 0, []), (46, 11, 0, 0, 0, []), (47, 1, 0, 0, 0, []), (48, 21, 0, 0, 0, []), (49, 3, 6, 2, 0, []), (52, 2, 0, 0, 1, []), (53, 6, 0, 0, 0, []), (54, 19, 6, 2, 0, []), (57, 16, 0, 0, 0, [])]
def tX11_cellAt : List PO := [(0, 0, 0, 0, 0, []), (1, 10, 12, 2, 0, []), (4, 0, 0, 0, 0, []), (5, 2, 0, 0, 12, []), (7, 4, 12, 3, 0, []), (10, 0, 1, 0, 0, []), (11, 10, 12, 2, 0, []), (14, 0, 1, 0, 0, []), (15, 2, 0, 0, 12, []), (17, 4, 12, 3, 0, []), (20, 2, 0, 0, 1, []), (21, 9, 13, 0, 0, []), (24, 2, 0, 0, 0, []), (25, 7, 2, 0, 0, []), (26, 0, 2, 0, 0, []), (27, 10, 22, 0, 0, []), (30, 0, 0, 0, 0, []), (31, 2, 0, 0, 12, []), (33, 6, 2, 0, 0, []), (34, 0, 1, 0, 0, []), (35, 6, 0, 0, 0, []), (36, 9, 23, 0, 0, []), (39, 2, 0, 0, (-1), []), (40, 14, 0, 0, 0, [])]
def tX6_greatestBlob : List PO := [(0, 1, 0, 0, 0, []), (1, 1, 1, 0, 0, []), (2, 2, 0, 0, 1, []), (3, 2, 0, 0, 1, []), (4, 12, 25, 3, 0, [6]), (7, 14, 0, 0, 0, [])]
def tX6_holes : List PO := [(0, 1, 0, 0, 0, []), (1, 1, 1, 0, 0, []), (2, 2, 0, 0, 0, []), (3, 2, 0, 0, 2, []), (4, 12, 25, 3, 0, [6]), (7, 14, 0, 0, 0, [])]
def tX6_unlike : List PO := [(0, 2, 0, 0, 0, []), (1, 7, 2, 0, 0, []), (2, 2, 0, 0, 0, []), (3, 7, 3, 0, 0, []), (4, 0, 3, 0, 0, []), (5, 2, 0, 0, 12, []), (7, 4, 45, 3, 0, []), (10, 2, 0, 0, 0, []), (11, 7, 4, 0, 0, []), (13, 0, 4, 0, 0, []), (15, 2, 0, 0, 6, []), (17, 4, 43, 3, 0, []), (20, 1, 1, 0, 0, []), (21, 0, 3, 0, 0, []), (22, 2, 0, 0, 12, []), (24, 6, 2, 0, 0, []), (25, 0, 4, 0, 0, []), (27, 6, 0, 0, 0, []), (28, 12, 7, 1, 0, [0]), (31, 7, 5, 0, 0, []), (33, 1, 1, 0, 0, []), (34, 0, 3, 0, 0, []), (35, 2, 0, 0, 12, []), (37, 6, 2, 0, 0, []), (38, 2, 0, 0, 12, []), (40, 6, 0, 0, 0, []), (41, 2, 0, 0, 1, []), (42, 6, 1, 0, 0, []), (43, 0, 4, 0, 0, []), (45, 6, 1, 0, 0, []), (46, 12, 7, 1, 0, [0]), (49, 7, 6, 0, 0, []), (51, 0, 2, 0, 0, []), (52, 0, 5, 0, 0, []), (54, 0, 6, 0, 0, []), (56, 4, 38, 1, 0, []), (59, 2, 0, 0, 0, []), (60, 9, 39, 0, 0, []), (63, 2, 0, 0, 1, []), (64, 6, 0, 0, 0, []), (65, 7, 2, 0, 0, []), (66, 8, 4, 0, 1, []), (69, 9, 9, 0, 0, []), (72, 8, 3, 0, 1, []), (75, 9, 4, 0, 0, []), (78, 0, 2, 0, 0, []), (79, 14, 0, 0, 0, [])]
def tX6_bareSquare : List PO := [(0, 2, 0, 0, 0, []), (1, 7, 3, 0, 0, []), (2, 2, 0, 0, (-1), []), (3, 7, 4, 0, 0, []), (5, 2, 0, 0, 143, []), (8, 7, 5, 0, 0, []), (10, 0, 5, 0, 0, []), (12, 10, 43, 2, 0, []), (15, 1, 0, 0, 0, []), (16, 3, 6, 0, 0, []), (19, 0, 5, 0, 0, []), (21, 1, 1, 0, 0, []), (22, 0, 5, 0, 0, []), (24, 12, 6, 1, 0, [0]), (27, 10, 17, 0, 0, []), (30, 2, 0, 0, 0, []), (31, 9, 22, 0, 0, []), (34, 2, 0, 0, 1, []), (35, 1, 0, 0, 0, []), (36, 0, 5, 0, 0, []), (38, 12, 33, 1, 0, [6]), (41, 6, 0, 0, 0, []), (42, 11, 0, 0, 0, []), (43, 1, 0, 0, 0, []), (44, 3, 6, 0, 0, []), (47, 0, 5, 0, 0, []), (49, 5, 0, 0, 0, []), (50, 10, 41, 5, 0, []), (53, 1, 0, 0, 0, []), (54, 3, 6, 0, 0, []), (57, 0, 5, 0, 0, []), (59, 5, 0, 0, 0, []), (60, 0, 3, 0, 0, []), (61, 4, 41, 2, 0, []), (64, 1, 0, 0, 0, []), (65, 3, 6, 0, 0, []), (68, 0, 5, 0, 0, []), (70, 5, 0, 0, 0, []), (71, 7, 3, 0, 0, []), (72, 0, 5, 0, 0, []), (74, 7, 4, 0, 0, []), (76, 8, 5, 0, (-1), []), (79, 9, 6, 0, 0, []), (82, 0, 2, 0, 0, []), (83, 10, 47, 1, 0, []), (86, 0, 3, 0, 0, []), (87, 14, 0, 0, 0, []), (88, 0, 4, 0, 0, []), (90, 2, 0, 0, (-1), []), (91, 4, 52, 1, 0, []), (94, 2, 0, 0, (-1), []), (95, 14, 0, 0, 0, []), (96, 0, 2, 0, 0, []), (97, 2, 0, 0, 1, []), (98, 4, 59, 1, 0, []), (101, 0, 4, 0, 0, []), (103, 2, 0, 0, 12, []), (105, 17, 0, 0, 0, []), (106, 9, 62, 0, 0, []), (109, 0, 4, 0, 0, []), (111, 2, 0, 0, 12, []), (113, 18, 0, 0, 0, []), (114, 14, 0, 0, 0, [])]
def tX6_squareBehind : List PO := [(0, 0, 1, 0, 0, []), (1, 10, 14, 2, 0, []), (4, 0, 1, 0, 0, []), (5, 2, 0, 0, 12, []), (7, 6, 0, 0, 0, []), (8, 2, 0, 0, 1, []), (9, 6, 0, 0, 0, []), (10, 2, 0, 0, 144, []), (13, 4, 14, 3, 0, []), (16, 0, 1, 0, 0, []), (17, 2, 0, 0, 12, []), (19, 18, 0, 0, 0, []), (20, 2, 0, 0, 11, []), (22, 4, 16, 1, 0, []), (25, 2, 0, 0, 0, []), (26, 14, 0, 0, 0, []), (27, 1, 0, 0, 0, []), (28, 3, 6, 0, 0, []), (31, 0, 1, 0, 0, []), (32, 2, 0, 0, 1, []), (33, 6, 0, 0, 0, []), (34, 5, 0, 0, 0, []), (35, 1, 0, 0, 0, []), (36, 3, 6, 0, 0, []), (39, 0, 1, 0, 0, []), (40, 2, 0, 0, 12, []), (42, 6, 0, 0, 0, []), (43, 5, 0, 0, 0, []), (44, 1, 0, 0, 0, []), (45, 3, 6, 0, 0, []), (48, 0, 1, 0, 0, []), (49, 2, 0, 0, 12, []), (51, 6, 0, 0, 0, []), (52, 2, 0, 0, 1, []), (53, 6, 0, 0, 0, []), (54, 5, 0, 0, 0, []), (55, 28, 0, 0, 0, []), (58, 28, 0, 0, 0, []), (61, 14, 0, 0, 0, [])]
def tX11_game : List PO := [(0, 0, 2, 0, 0, []), (1, 10, 10, 2, 0, []), (4, 0, 2, 0, 0, []), (5, 2, 0, 0, 1, []), (6, 4, 10, 4, 0, []), (9, 1, 0, 0, 0, []), (10, 3, 11, 10, 0, []), (13, 0, 1, 0, 0, []), (14, 12, 35, 1, 0, [2]), (17, 10, 12, 1, 0, []), (20, 2, 0, 0, (-10), []), (22, 14, 0, 0, 0, []), (23, 0, 2, 0, 0, []), (24, 10, 18, 1, 0, []), (27, 1, 0, 0, 0, []), (28, 3, 11, 10, 0, []), (31, 12, 37, 0, 0, [2]), (34, 9, 21, 0, 0, []), (37, 1, 0, 0, 0, []), (38, 3, 11, 10, 0, []), (41, 12, 43, 0, 0, [2]), (44, 14, 0, 0, 0, [])]
def tX2_lay : List PO := [(0, 0, 1, 0, 0, []), (1, 10, 5, 2, 0, []), (4, 0, 1, 0, 0, []), (5, 2, 0, 0, 222222222, []), (7, 4, 7, 5, 0, []), (10, 2, 0, 0, 0, []), (11, 15, 0, 0, 0, []), (12, 0, 1, 0, 0, []), (13, 7, 2, 0, 0, []), (14, 2, 0, 0, 0, []), (15, 7, 3, 0, 0, []), (16, 2, 0, 0, 0, []), (17, 7, 4, 0, 0, []), (19, 1, 0, 0, 0, []), (20, 2, 0, 0, 0, []), (21, 19, 2, 2, 0, []), (24, 2, 0, 0, 8, []), (26, 7, 5, 0, 0, []), (28, 0, 5, 0, 0, []), (30, 10, 68, 2, 0, []), (33, 0, 2, 0, 0, []), (34, 2, 0, 0, 10, []), (36, 18, 0, 0, 0, []), (37, 7, 6, 0, 0, []), (39, 0, 2, 0, 0, []), (40, 2, 0, 0, 10, []), (42, 17, 0, 0, 0, []), (43, 7, 2, 0, 0, []), (44, 0, 6, 0, 0, []), (46, 2, 0, 0, 2, []), (47, 4, 33, 5, 0, []), (50, 2, 0, 0, 0, []), (51, 15, 0, 0, 0, []), (52, 1, 0, 0, 0, []), (53, 3, 2, 1, 0, []), (56, 0, 5, 0, 0, []), (58, 0, 6, 0, 0, []), (60, 11, 0, 0, 0, []), (61, 1, 0, 0, 0, []), (62, 21, 0, 0, 0, []), (63, 3, 2, 2, 0, []), (66, 0, 6, 0, 0, []), (68, 26, 1, 0, 0, []), (71, 0, 5, 0, 0, []), (73, 5, 0, 0, 0, []), (74, 6, 2, 0, 0, []), (75, 6, 0, 0, 0, []), (76, 19, 2, 2, 0, []), (79, 0, 3, 0, 0, []), (80, 0, 6, 0, 0, []), (82, 2, 0, 0, 1, []), (83, 4, 54, 1, 0, []), (86, 2, 0, 0, 1, []), (87, 9, 55, 0, 0, []), (90, 2, 0, 0, 0, []), (91, 6, 0, 0, 0, []), (92, 7, 3, 0, 0, []), (93, 0, 4, 0, 0, []), (95, 0, 6, 0, 0, []), (97, 2, 0, 0, 2, []), (98, 4, 63, 1, 0, []), (101, 2, 0, 0, 1, []), (102, 9, 64, 0, 0, []), (105, 2, 0, 0, 0, []), (106, 6, 0, 0, 0, []), (107, 7, 4, 0, 0, []), (109, 8, 5, 0, (-1), []), (112, 9, 18, 0, 0, []), (115, 1, 0, 0, 0, []), (116, 0, 3, 0, 0, []), (117, 0, 4, 0, 0, []), (119, 6, 0, 0, 0, []), (120, 19, 2, 3, 0, []), (123, 0, 3, 0, 0, []), (124, 0, 4, 0, 0, []), (126, 4, 81, 0, 0, []), (129, 0, 3, 0, 0, []), (130, 0, 4, 0, 0, []), (132, 2, 0, 0, 1, []), (133, 6, 0, 0, 0, []), (134, 4, 91, 1, 0, []), (137, 1, 0, 0, 0, []), (138, 2, 0, 0, 1, []), (139, 12, 36, 1, 0, [2]), (142, 10, 89, 0, 0, []), (145, 1, 0, 0, 0, []), (146, 2, 0, 0, 2, []), (147, 12, 36, 1, 0, [2]), (150, 10, 91, 1, 0, []), (153, 2, 0, 0, 1, []), (154, 9, 92, 0, 0, []), (157, 2, 0, 0, 0, []), (158, 15, 0, 0, 0, [])]
def tX2_hasThree : List PO := [(0, 2, 0, 0, 0, []), (1, 7, 2, 0, 0, []), (2, 0, 2, 0, 0, []), (3, 2, 0, 0, 2, []), (4, 6, 0, 0, 0, []), (5, 26, 2, 0, 0, []), (8, 24, 0, 0, 0, []), (9, 4, 40, 3, 0, []), (12, 1, 0, 0, 0, []), (13, 3, 2, 1, 0, []), (16, 26, 2, 0, 0, []), (19, 0, 2, 0, 0, []), (20, 5, 0, 0, 0, []), (21, 5, 0, 0, 0, []), (22, 0, 1, 0, 0, []), (23, 4, 38, 1, 0, []), (26, 1, 0, 0, 0, []), (27, 3, 2, 1, 0, []), (30, 26, 2, 0, 0, []), (33, 0, 2, 0, 0, []), (34, 2, 0, 0, 1, []), (35, 6, 0, 0, 0, []), (36, 5, 0, 0, 0, []), (37, 5, 0, 0, 0, []), (38, 0, 1, 0, 0, []), (39, 4, 38, 1, 0, []), (42, 1, 0, 0, 0, []), (43, 3, 2, 1, 0, []), (46, 26, 2, 0, 0, []), (49, 0, 2, 0, 0, []), (50, 2, 0, 0, 2, []), (51, 6, 0, 0, 0, []), (52, 5, 0, 0, 0, []), (53, 5, 0, 0, 0, []), (54, 0, 1, 0, 0, []), (55, 4, 38, 1, 0, []), (58, 2, 0, 0, 1, []), (59, 15, 0, 0, 0, []), (60, 8, 2, 0, 3, []), (63, 9, 2, 0, 0, []), (66, 2, 0, 0, 0, []), (67, 15, 0, 0, 0, [])]
def tX2_valueForNext : List PO := [(0, 1, 0, 0, 0, []), (1, 1, 0, 0, 0, []), (2, 3, 2, 2, 0, []), (5, 1, 0, 0, 0, []), (6, 3, 2, 3, 0, []), (9, 12, 38, 2, 0, [2]), (12, 14, 0, 0, 0, [])]
def tX2_value : List PO := [(0, 1, 0, 0, 0, []), (1, 0, 1, 0, 0, []), (2, 12, 39, 1, 0, [2]), (5, 7, 3, 0, 0, []), (6, 0, 3, 0, 0, []), (7, 2, 0, 0, (-2), []), (9, 4, 9, 0, 0, []), (12, 0, 3, 0, 0, []), (13, 14, 0, 0, 0, []), (14, 0, 2, 0, 0, []), (15, 13, 40, 1, 0, []), (18, 7, 4, 0, 0, []), (20, 1, 0, 0, 0, []), (21, 0, 4, 0, 0, []), (23, 12, 36, 1, 0, [2]), (26, 10, 19, 0, 0, []), (29, 2, 0, 0, 1, []), (30, 7, 3, 0, 0, []), (31, 9, 59, 0, 0, []), (34, 1, 0, 0, 0, []), (35, 2, 0, 0, 3, []), (36, 0, 4, 0, 0, []), (38, 6, 1, 0, 0, []), (39, 12, 36, 1, 0, [2]), (42, 10, 28, 0, 0, []), (45, 2, 0, 0, (-1), []), (46, 7, 3, 0, 0, []), (47, 9, 59, 0, 0, []), (50, 0, 2, 0, 0, []), (51, 2, 0, 0, 9, []), (53, 4, 34, 2, 0, []), (56, 2, 0, 0, 0, []), (57, 7, 3, 0, 0, []), (58, 9, 59, 0, 0, []), (61, 2, 0, 0, (-1), []), (62, 7, 3, 0, 0, []), (63, 2, 0, 0, 0, []), (64, 7, 5, 0, 0, []), (66, 0, 5, 0, 0, []), (68, 2, 0, 0, 9, []), (70, 4, 59, 3, 0, []), (73, 0, 3, 0, 0, []), (74, 2, 0, 0, 1, []), (75, 4, 59, 3, 0, []), (78, 1, 0, 0, 0, []), (79, 3, 2, 1, 0, []), (82, 0, 5, 0, 0, []), (84, 5, 0, 0, 0, []), (85, 10, 57, 1, 0, []), (88, 0, 3, 0, 0, []), (89, 1, 0, 0, 0, []), (90, 0, 5, 0, 0, []), (92, 0, 1, 0, 0, []), (93, 0, 2, 0, 0, []), (94, 12, 41, 3, 0, [2]), (97, 27, 0, 0, 0, []), (100, 7, 3, 0, 0, []), (101, 8, 5, 0, 1, []), (104, 9, 38, 0, 0, []), (107, 1, 0, 0, 0, []), (108, 0, 1, 0, 0, []), (109, 0, 3, 0, 0, []), (110, 12, 42, 2, 0, [2]), (113, 0, 3, 0, 0, []), (114, 14, 0, 0, 0, [])]
def tX2_recall : List PO := [(0, 0, 1, 0, 0, []), (1, 2, 0, 0, 16, []), (3, 17, 0, 0, 0, []), (4, 7, 2, 0, 0, []), (5, 0, 1, 0, 0, []), (6, 10, 11, 2, 0, []), (9, 0, 2, 0, 0, []), (10, 1, 0, 0, 0, []), (11, 3, 2, 0, 0, []), (14, 24, 0, 0, 0, []), (15, 4, 13, 2, 0, []), (18, 2, 0, 0, (-2), []), (20, 14, 0, 0, 0, []), (21, 1, 0, 0, 0, []), (22, 3, 2, 0, 0, []), (25, 0, 2, 0, 0, []), (26, 5, 0, 0, 0, []), (27, 2, 0, 0, 2, []), (28, 0, 1, 0, 0, []), (29, 2, 0, 0, 16, []), (31, 18, 0, 0, 0, []), (32, 6, 2, 0, 0, []), (33, 6, 7, 0, 0, []), (34, 2, 0, 0, 3, []), (35, 6, 3, 0, 0, []), (36, 2, 0, 0, 2, []), (37, 6, 1, 0, 0, []), (38, 14, 0, 0, 0, [])]
def tX2_whoIsNext : List PO := [(0, 0, 0, 0, 0, []), (1, 2, 0, 0, 2, []), (2, 18, 0, 0, 0, []), (3, 10, 6, 1, 0, []), (6, 2, 0, 0, 1, []), (7, 9, 7, 0, 0, []), (10, 2, 0, 0, 2, []), (11, 14, 0, 0, 0, [])]
def tX2_valueOfMove : List PO := [(0, 0, 1, 0, 0, []), (1, 10, 8, 2, 0, []), (4, 0, 1, 0, 0, []), (5, 2, 0, 0, 9, []), (7, 4, 8, 3, 0, []), (10, 0, 3, 0, 0, []), (11, 2, 0, 0, 9, []), (13, 4, 10, 2, 0, []), (16, 2, 0, 0, 0, []), (17, 14, 0, 0, 0, []), (18, 0, 3, 0, 0, []), (19, 13, 40, 1, 0, []), (22, 7, 4, 0, 0, []), (24, 1, 0, 0, 0, []), (25, 3, 2, 1, 0, []), (28, 0, 1, 0, 0, []), (29, 0, 4, 0, 0, []), (31, 11, 0, 0, 0, []), (32, 1, 0, 0, 0, []), (33, 0, 2, 0, 0, []), (34, 0, 4, 0, 0, []), (36, 26, 1, 0, 0, []), (39, 0, 1, 0, 0, []), (40, 5, 0, 0, 0, []), (41, 6, 2, 0, 0, []), (42, 6, 0, 0, 0, []), (43, 0, 3, 0, 0, []), (44, 2, 0, 0, 1, []), (45, 6, 0, 0, 0, []), (46, 12, 38, 2, 0, [2]), (49, 20, 0, 0, 0, []), (50, 7, 5, 0, 0, []), (52, 1, 0, 0, 0, []), (53, 3, 2, 1, 0, []), (56, 0, 1, 0, 0, []), (57, 2, 0, 0, 0, []), (58, 11, 0, 0, 0, []), (59, 0, 5, 0, 0, []), (61, 14, 0, 0, 0, [])]
def tX2_keepValue : List PO := [(0, 0, 1, 0, 0, []), (1, 2, 0, 0, 16, []), (3, 17, 0, 0, 0, []), (4, 7, 3, 0, 0, []), (5, 0, 1, 0, 0, []), (6, 10, 27, 2, 0, []), (9, 0, 3, 0, 0, []), (10, 1, 0, 0, 0, []), (11, 3, 2, 0, 0, []), (14, 24, 0, 0, 0, []), (15, 4, 27, 3, 0, []), (18, 1, 0, 0, 0, []), (19, 3, 2, 0, 0, []), (22, 0, 3, 0, 0, []), (23, 22, 0, 0, 0, []), (24, 5, 0, 0, 0, []), (25, 0, 2, 0, 0, []), (26, 2, 0, 0, 2, []), (27, 6, 0, 0, 0, []), (28, 2, 0, 0, 2, []), (29, 0, 1, 0, 0, []), (30, 2, 0, 0, 16, []), (32, 18, 0, 0, 0, []), (33, 6, 2, 0, 0, []), (34, 6, 6, 0, 0, []), (35, 6, 4, 0, 0, []), (36, 11, 0, 0, 0, []), (37, 16, 0, 0, 0, [])]
def tX2_firstThatKeeps : List PO := [(0, 1, 0, 0, 0, []), (1, 2, 0, 0, 1, []), (2, 12, 36, 1, 0, [2]), (5, 10, 8, 1, 0, []), (8, 1, 0, 0, 0, []), (9, 2, 0, 0, 2, []), (10, 12, 36, 1, 0, [2]), (13, 10, 10, 0, 0, []), (16, 2, 0, 0, (-1), []), (17, 14, 0, 0, 0, []), (18, 1, 0, 0, 0, []), (19, 1, 0, 0, 0, []), (20, 3, 2, 2, 0, []), (23, 1, 0, 0, 0, []), (24, 3, 2, 3, 0, []), (27, 12, 38, 2, 0, [2]), (30, 7, 1, 0, 0, []), (31, 2, 0, 0, 0, []), (32, 7, 2, 0, 0, []), (33, 0, 2, 0, 0, []), (34, 2, 0, 0, 9, []), (36, 4, 40, 3, 0, []), (39, 1, 0, 0, 0, []), (40, 3, 2, 1, 0, []), (43, 0, 2, 0, 0, []), (44, 5, 0, 0, 0, []), (45, 10, 38, 1, 0, []), (48, 1, 0, 0, 0, []), (49, 0, 2, 0, 0, []), (50, 1, 0, 0, 0, []), (51, 3, 2, 2, 0, []), (54, 1, 0, 0, 0, []), (55, 3, 2, 3, 0, []), (58, 12, 41, 3, 0, [2]), (61, 0, 1, 0, 0, []), (62, 4, 38, 1, 0, []), (65, 0, 2, 0, 0, []), (66, 14, 0, 0, 0, []), (67, 8, 2, 0, 1, []), (70, 9, 19, 0, 0, []), (73, 2, 0, 0, (-1), []), (74, 14, 0, 0, 0, [])]
def tX12_order : List PO := [(0, 1, 0, 0, 0, []), (1, 2, 0, 0, 0, []), (2, 19, 12, 0, 0, []), (5, 2, 0, 0, 0, []), (6, 7, 1, 0, 0, []), (7, 0, 1, 0, 0, []), (8, 2, 0, 0, 256, []), (11, 4, 63, 3, 0, []), (14, 0, 1, 0, 0, []), (15, 10, 12, 1, 0, []), (18, 2, 0, 0, 1, []), (19, 9, 13, 0, 0, []), (22, 2, 0, 0, 0, []), (23, 7, 2, 0, 0, []), (24, 2, 0, 0, 0, []), (25, 7, 3, 0, 0, []), (26, 0, 3, 0, 0, []), (27, 2, 0, 0, 8, []), (29, 4, 56, 3, 0, []), (32, 1, 0, 0, 0, []), (33, 0, 1, 0, 0, []), (34, 0, 3, 0, 0, []), (35, 12, 45, 2, 0, [12]), (38, 10, 54, 0, 0, []), (41, 1, 0, 0, 0, []), (42, 3, 12, 66, 0, []), (45, 0, 3, 0, 0, []), (46, 5, 0, 0, 0, []), (47, 0, 1, 0, 0, []), (48, 2, 0, 0, (-1), []), (49, 6, 5, 0, 0, []), (50, 6, 3, 0, 0, []), (51, 10, 54, 1, 0, []), (54, 1, 0, 0, 0, []), (55, 1, 0, 0, 0, []), (56, 3, 12, 66, 0, []), (59, 0, 3, 0, 0, []), (60, 5, 0, 0, 0, []), (61, 0, 3, 0, 0, []), (62, 12, 45, 2, 0, [12]), (65, 10, 54, 1, 0, []), (68, 0, 2, 0, 0, []), (69, 1, 0, 0, 0, []), (70, 3, 12, 67, 0, []), (73, 0, 1, 0, 0, []), (74, 2, 0, 0, 1, []), (75, 0, 3, 0, 0, []), (76, 6, 6, 0, 0, []), (77, 2, 0, 0, (-1), []), (78, 6, 5, 0, 0, []), (79, 6, 3, 0, 0, []), (80, 5, 0, 0, 0, []), (81, 6, 0, 0, 0, []), (82, 7, 2, 0, 0, []), (83, 8, 3, 0, 1, []), (86, 9, 16, 0, 0, []), (89, 1, 0, 0, 0, []), (90, 3, 12, 67, 0, []), (93, 0, 1, 0, 0, []), (94, 0, 2, 0, 0, []), (95, 11, 0, 0, 0, []), (96, 8, 1, 0, 1, []), (99, 9, 5, 0, 0, []), (102, 1, 0, 0, 0, []), (103, 3, 12, 67, 0, []), (106, 2, 0, 0, 255, []), (109, 5, 0, 0, 0, []), (110, 14, 0, 0, 0, [])]
def tX12_has : List PO := [(0, 0, 1, 0, 0, []), (1, 0, 2, 0, 0, []), (2, 6, 7, 0, 0, []), (3, 2, 0, 0, 1, []), (4, 6, 3, 0, 0, []), (5, 2, 0, 0, 1, []), (6, 4, 9, 1, 0, []), (9, 2, 0, 0, 1, []), (10, 9, 10, 0, 0, []), (13, 2, 0, 0, 0, []), (14, 15, 0, 0, 0, [])]
def tX12_wax : List PO := [(0, 1, 0, 0, 0, []), (1, 2, 0, 0, 0, []), (2, 19, 12, 0, 0, []), (5, 1, 0, 0, 0, []), (6, 0, 1, 0, 0, []), (7, 2, 0, 0, 0, []), (8, 2, 0, 0, 9, []), (10, 12, 47, 3, 0, [12]), (13, 10, 11, 1, 0, []), (16, 2, 0, 0, (-100000), []), (19, 14, 0, 0, 0, []), (20, 0, 1, 0, 0, []), (21, 10, 16, 1, 0, []), (24, 1, 0, 0, 0, []), (25, 12, 48, 0, 0, [12]), (28, 14, 0, 0, 0, []), (29, 0, 1, 0, 0, []), (30, 2, 0, 0, 1, []), (31, 4, 22, 1, 0, []), (34, 1, 0, 0, 0, []), (35, 12, 59, 0, 0, [12]), (38, 14, 0, 0, 0, []), (39, 0, 1, 0, 0, []), (40, 2, 0, 0, 5, []), (41, 4, 32, 1, 0, []), (44, 1, 0, 0, 0, []), (45, 12, 60, 0, 0, [12]), (48, 10, 30, 1, 0, []), (51, 2, 0, 0, 1, []), (52, 9, 31, 0, 0, []), (55, 2, 0, 0, 0, []), (56, 14, 0, 0, 0, []), (57, 0, 1, 0, 0, []), (58, 2, 0, 0, 6, []), (60, 4, 38, 1, 0, []), (63, 1, 0, 0, 0, []), (64, 12, 60, 0, 0, [12]), (67, 14, 0, 0, 0, []), (68, 0, 1, 0, 0, []), (69, 2, 0, 0, 6, []), (71, 4, 45, 5, 0, []), (74, 1, 0, 0, 0, []), (75, 0, 1, 0, 0, []), (76, 12, 61, 1, 0, [12]), (79, 14, 0, 0, 0, []), (80, 1, 0, 0, 0, []), (81, 12, 63, 0, 0, [12]), (84, 0, 1, 0, 0, []), (85, 2, 0, 0, 4, []), (86, 4, 53, 1, 0, []), (89, 1, 0, 0, 0, []), (90, 12, 64, 0, 0, [12]), (93, 9, 61, 0, 0, []), (96, 1, 0, 0, 0, []), (97, 0, 1, 0, 0, []), (98, 2, 0, 0, 3, []), (99, 4, 59, 1, 0, []), (102, 2, 0, 0, 1, []), (103, 9, 60, 0, 0, []), (106, 2, 0, 0, 0, []), (107, 12, 66, 1, 0, [12]), (110, 14, 0, 0, 0, [])]
def tX12_isIn : List PO := [(0, 0, 1, 0, 0, []), (1, 0, 2, 0, 0, []), (2, 4, 8, 2, 0, []), (5, 0, 1, 0, 0, []), (6, 0, 3, 0, 0, []), (7, 4, 8, 4, 0, []), (10, 2, 0, 0, 1, []), (11, 9, 9, 0, 0, []), (14, 2, 0, 0, 0, []), (15, 15, 0, 0, 0, [])]
def tX12_sumOf : List PO := [(0, 2, 0, 0, 0, []), (1, 7, 1, 0, 0, []), (2, 2, 0, 0, 0, []), (3, 7, 2, 0, 0, []), (4, 0, 2, 0, 0, []), (5, 2, 0, 0, 144, []), (8, 4, 26, 3, 0, []), (11, 1, 0, 0, 0, []), (12, 0, 2, 0, 0, []), (13, 12, 49, 1, 0, [12]), (16, 10, 24, 0, 0, []), (19, 0, 1, 0, 0, []), (20, 1, 0, 0, 0, []), (21, 3, 12, 1, 0, []), (24, 2, 0, 0, 211, []), (27, 0, 2, 0, 0, []), (28, 6, 0, 0, 0, []), (29, 5, 0, 0, 0, []), (30, 1, 0, 0, 0, []), (31, 0, 2, 0, 0, []), (32, 12, 50, 1, 0, [12]), (35, 6, 2, 0, 0, []), (36, 6, 0, 0, 0, []), (37, 7, 1, 0, 0, []), (38, 8, 2, 0, 1, []), (41, 9, 4, 0, 0, []), (44, 0, 1, 0, 0, []), (45, 14, 0, 0, 0, [])]
def tX12_isMarked : List PO := [(0, 1, 0, 0, 0, []), (1, 3, 12, 1, 0, []), (4, 2, 0, 0, 67, []), (6, 0, 1, 0, 0, []), (7, 6, 0, 0, 0, []), (8, 5, 0, 0, 0, []), (9, 10, 9, 5, 0, []), (12, 2, 0, 0, 1, []), (13, 9, 10, 0, 0, []), (16, 2, 0, 0, 0, []), (17, 15, 0, 0, 0, [])]
def tX12_weighsOf : List PO := [(0, 1, 0, 0, 0, []), (1, 0, 1, 0, 0, []), (2, 12, 51, 1, 0, [12]), (5, 1, 0, 0, 0, []), (6, 2, 0, 0, 2, []), (7, 1, 0, 0, 0, []), (8, 3, 12, 40, 0, []), (11, 2, 0, 0, 3, []), (12, 5, 0, 0, 0, []), (13, 2, 0, 0, 99, []), (15, 12, 54, 3, 0, [12]), (18, 14, 0, 0, 0, [])]
def tX12_asksOf : List PO := [(0, 1, 0, 0, 0, []), (1, 1, 0, 0, 0, []), (2, 3, 12, 1, 0, []), (5, 2, 0, 0, 67, []), (7, 0, 1, 0, 0, []), (8, 6, 0, 0, 0, []), (9, 5, 0, 0, 0, []), (10, 2, 0, 0, 1, []), (11, 6, 1, 0, 0, []), (12, 1, 0, 0, 0, []), (13, 3, 12, 1, 0, []), (16, 2, 0, 0, 211, []), (19, 0, 1, 0, 0, []), (20, 6, 0, 0, 0, []), (21, 5, 0, 0, 0, []), (22, 12, 52, 2, 0, [12]), (25, 1, 0, 0, 0, []), (26, 3, 12, 40, 0, []), (29, 2, 0, 0, 3, []), (30, 1, 0, 0, 0, []), (31, 3, 12, 1, 0, []), (34, 2, 0, 0, 355, []), (37, 0, 1, 0, 0, []), (38, 6, 0, 0, 0, []), (39, 5, 0, 0, 0, []), (40, 11, 0, 0, 0, []), (41, 1, 0, 0, 0, []), (42, 3, 12, 40, 0, []), (45, 2, 0, 0, 6, []), (47, 0, 1, 0, 0, []), (48, 2, 0, 0, 12, []), (50, 17, 0, 0, 0, []), (51, 11, 0, 0, 0, []), (52, 1, 0, 0, 0, []), (53, 3, 12, 40, 0, []), (56, 2, 0, 0, 7, []), (58, 1, 0, 0, 0, []), (59, 0, 1, 0, 0, []), (60, 12, 53, 1, 0, [12]), (63, 11, 0, 0, 0, []), (64, 16, 0, 0, 0, [])]
def tX12_asks : List PO := [(0, 1, 0, 0, 0, []), (1, 3, 12, 40, 0, []), (4, 2, 0, 0, 0, []), (5, 0, 2, 0, 0, []), (6, 11, 0, 0, 0, []), (7, 1, 0, 0, 0, []), (8, 3, 12, 40, 0, []), (11, 2, 0, 0, 1, []), (12, 1, 0, 0, 0, []), (13, 3, 12, 9, 0, []), (16, 0, 1, 0, 0, []), (17, 5, 0, 0, 0, []), (18, 11, 0, 0, 0, []), (19, 1, 0, 0, 0, []), (20, 3, 12, 40, 0, []), (23, 2, 0, 0, 2, []), (24, 1, 0, 0, 0, []), (25, 3, 12, 8, 0, []), (28, 0, 1, 0, 0, []), (29, 5, 0, 0, 0, []), (30, 11, 0, 0, 0, []), (31, 1, 0, 0, 0, []), (32, 3, 12, 40, 0, []), (35, 2, 0, 0, 3, []), (36, 2, 0, 0, 0, []), (37, 11, 0, 0, 0, []), (38, 1, 0, 0, 0, []), (39, 3, 12, 40, 0, []), (42, 2, 0, 0, 4, []), (43, 1, 0, 0, 0, []), (44, 3, 12, 1, 0, []), (47, 2, 0, 0, 4, []), (48, 5, 0, 0, 0, []), (49, 11, 0, 0, 0, []), (50, 1, 0, 0, 0, []), (51, 3, 12, 40, 0, []), (54, 2, 0, 0, 5, []), (55, 1, 0, 0, 0, []), (56, 3, 12, 1, 0, []), (59, 2, 0, 0, 1, []), (60, 5, 0, 0, 0, []), (61, 11, 0, 0, 0, []), (62, 1, 0, 0, 0, []), (63, 3, 12, 40, 0, []), (66, 2, 0, 0, 6, []), (68, 2, 0, 0, 0, []), (69, 11, 0, 0, 0, []), (70, 1, 0, 0, 0, []), (71, 3, 12, 40, 0, []), (74, 2, 0, 0, 7, []), (76, 2, 0, 0, 0, []), (77, 11, 0, 0, 0, []), (78, 1, 0, 0, 0, []), (79, 3, 12, 40, 0, []), (82, 2, 0, 0, 8, []), (84, 1, 0, 0, 0, []), (85, 3, 12, 1, 0, []), (88, 2, 0, 0, 47, []), (90, 0, 1, 0, 0, []), (91, 6, 0, 0, 0, []), (92, 5, 0, 0, 0, []), (93, 11, 0, 0, 0, []), (94, 1, 0, 0, 0, []), (95, 3, 12, 40, 0, []), (98, 2, 0, 0, 9, []), (100, 1, 0, 0, 0, []), (101, 3, 12, 1, 0, []), (104, 2, 0, 0, 0, []), (105, 5, 0, 0, 0, []), (106, 11, 0, 0, 0, []), (107, 16, 0, 0, 0, [])]
def tX12_besideOf : List PO := [(0, 2, 0, 0, 0, []), (1, 7, 2, 0, 0, []), (2, 0, 1, 0, 0, []), (3, 2, 0, 0, 12, []), (5, 4, 15, 2, 0, []), (8, 1, 0, 0, 0, []), (9, 0, 1, 0, 0, []), (10, 2, 0, 0, 12, []), (12, 6, 1, 0, 0, []), (13, 12, 49, 1, 0, [12]), (16, 10, 15, 0, 0, []), (19, 0, 2, 0, 0, []), (20, 2, 0, 0, 1, []), (21, 6, 0, 0, 0, []), (22, 7, 2, 0, 0, []), (23, 0, 1, 0, 0, []), (24, 2, 0, 0, 132, []), (27, 4, 28, 3, 0, []), (30, 1, 0, 0, 0, []), (31, 0, 1, 0, 0, []), (32, 2, 0, 0, 12, []), (34, 6, 0, 0, 0, []), (35, 12, 49, 1, 0, [12]), (38, 10, 28, 0, 0, []), (41, 0, 2, 0, 0, []), (42, 2, 0, 0, 1, []), (43, 6, 0, 0, 0, []), (44, 7, 2, 0, 0, []), (45, 0, 1, 0, 0, []), (46, 2, 0, 0, 12, []), (48, 18, 0, 0, 0, []), (49, 10, 42, 5, 0, []), (52, 1, 0, 0, 0, []), (53, 0, 1, 0, 0, []), (54, 2, 0, 0, 1, []), (55, 6, 1, 0, 0, []), (56, 12, 49, 1, 0, [12]), (59, 10, 42, 0, 0, []), (62, 0, 2, 0, 0, []), (63, 2, 0, 0, 1, []), (64, 6, 0, 0, 0, []), (65, 7, 2, 0, 0, []), (66, 0, 1, 0, 0, []), (67, 2, 0, 0, 12, []), (69, 18, 0, 0, 0, []), (70, 2, 0, 0, 11, []), (72, 4, 57, 3, 0, []), (75, 1, 0, 0, 0, []), (76, 0, 1, 0, 0, []), (77, 2, 0, 0, 1, []), (78, 6, 0, 0, 0, []), (79, 12, 49, 1, 0, [12]), (82, 10, 57, 0, 0, []), (85, 0, 2, 0, 0, []), (86, 2, 0, 0, 1, []), (87, 6, 0, 0, 0, []), (88, 7, 2, 0, 0, []), (89, 0, 2, 0, 0, []), (90, 14, 0, 0, 0, [])]
def tX12_lawTells : List PO := [(0, 1, 0, 0, 0, []), (1, 0, 1, 0, 0, []), (2, 12, 55, 1, 0, [12]), (5, 7, 4, 0, 0, []), (7, 1, 0, 0, 0, []), (8, 0, 4, 0, 0, []), (10, 2, 0, 0, (-1), []), (11, 4, 10, 1, 0, []), (14, 0, 2, 0, 0, []), (15, 9, 21, 0, 0, []), (18, 1, 0, 0, 0, []), (19, 2, 0, 0, 0, []), (20, 1, 0, 0, 0, []), (21, 3, 12, 20, 0, []), (24, 0, 4, 0, 0, []), (26, 5, 0, 0, 0, []), (27, 1, 0, 0, 0, []), (28, 3, 12, 21, 0, []), (31, 0, 4, 0, 0, []), (33, 5, 0, 0, 0, []), (34, 12, 56, 3, 0, [12]), (37, 2, 0, 0, 0, []), (38, 0, 3, 0, 0, []), (39, 12, 58, 3, 0, [12]), (42, 14, 0, 0, 0, [])]
def tX12_lineOf : List PO := [(0, 2, 0, 0, 0, []), (1, 7, 2, 0, 0, []), (2, 0, 2, 0, 0, []), (3, 1, 0, 0, 0, []), (4, 3, 12, 18, 0, []), (7, 2, 0, 0, 0, []), (8, 5, 0, 0, 0, []), (9, 4, 39, 3, 0, []), (12, 1, 0, 0, 0, []), (13, 3, 12, 19, 0, []), (16, 0, 2, 0, 0, []), (17, 5, 0, 0, 0, []), (18, 0, 1, 0, 0, []), (19, 4, 37, 1, 0, []), (22, 1, 0, 0, 0, []), (23, 3, 12, 21, 0, []), (26, 0, 2, 0, 0, []), (27, 5, 0, 0, 0, []), (28, 1, 0, 0, 0, []), (29, 3, 12, 22, 0, []), (32, 0, 2, 0, 0, []), (33, 5, 0, 0, 0, []), (34, 4, 35, 0, 0, []), (37, 1, 0, 0, 0, []), (38, 2, 0, 0, 0, []), (39, 1, 0, 0, 0, []), (40, 3, 12, 21, 0, []), (43, 0, 2, 0, 0, []), (44, 5, 0, 0, 0, []), (45, 1, 0, 0, 0, []), (46, 3, 12, 22, 0, []), (49, 0, 2, 0, 0, []), (50, 5, 0, 0, 0, []), (51, 12, 56, 3, 0, [12]), (54, 10, 37, 0, 0, []), (57, 0, 2, 0, 0, []), (58, 14, 0, 0, 0, []), (59, 8, 2, 0, 1, []), (62, 9, 2, 0, 0, []), (65, 2, 0, 0, (-1), []), (66, 14, 0, 0, 0, [])]
def tX12_runs : List PO := [(0, 2, 0, 0, 0, []), (1, 7, 4, 0, 0, []), (3, 2, 0, 0, 400, []), (6, 0, 1, 0, 0, []), (7, 6, 2, 0, 0, []), (8, 0, 2, 0, 0, []), (9, 6, 0, 0, 0, []), (10, 7, 5, 0, 0, []), (12, 0, 5, 0, 0, []), (14, 2, 0, 0, 400, []), (17, 0, 1, 0, 0, []), (18, 6, 2, 0, 0, []), (19, 0, 3, 0, 0, []), (20, 6, 0, 0, 0, []), (21, 4, 101, 3, 0, []), (24, 1, 0, 0, 0, []), (25, 3, 12, 23, 0, []), (28, 0, 5, 0, 0, []), (30, 5, 0, 0, 0, []), (31, 10, 26, 0, 0, []), (34, 1, 0, 0, 0, []), (35, 3, 12, 23, 0, []), (38, 0, 5, 0, 0, []), (40, 5, 0, 0, 0, []), (41, 2, 0, 0, 1, []), (42, 4, 52, 1, 0, []), (45, 1, 0, 0, 0, []), (46, 3, 12, 41, 0, []), (49, 0, 4, 0, 0, []), (51, 1, 0, 0, 0, []), (52, 3, 12, 23, 0, []), (55, 0, 5, 0, 0, []), (57, 5, 0, 0, 0, []), (58, 10, 39, 1, 0, []), (61, 1, 0, 0, 0, []), (62, 3, 12, 24, 0, []), (65, 0, 5, 0, 0, []), (67, 5, 0, 0, 0, []), (68, 9, 46, 0, 0, []), (71, 1, 0, 0, 0, []), (72, 3, 12, 40, 0, []), (75, 1, 0, 0, 0, []), (76, 3, 12, 24, 0, []), (79, 0, 5, 0, 0, []), (81, 5, 0, 0, 0, []), (82, 5, 0, 0, 0, []), (83, 11, 0, 0, 0, []), (84, 0, 4, 0, 0, []), (86, 2, 0, 0, 1, []), (87, 6, 0, 0, 0, []), (88, 7, 4, 0, 0, []), (90, 9, 99, 0, 0, []), (93, 1, 0, 0, 0, []), (94, 3, 12, 23, 0, []), (97, 0, 5, 0, 0, []), (99, 5, 0, 0, 0, []), (100, 2, 0, 0, 9, []), (102, 4, 73, 1, 0, []), (105, 1, 0, 0, 0, []), (106, 3, 12, 41, 0, []), (109, 0, 4, 0, 0, []), (111, 2, 0, 0, 1, []), (112, 6, 1, 0, 0, []), (113, 2, 0, 0, 1, []), (114, 1, 0, 0, 0, []), (115, 3, 12, 41, 0, []), (118, 0, 4, 0, 0, []), (120, 2, 0, 0, 1, []), (121, 6, 1, 0, 0, []), (122, 5, 0, 0, 0, []), (123, 6, 1, 0, 0, []), (124, 11, 0, 0, 0, []), (125, 9, 99, 0, 0, []), (128, 0, 4, 0, 0, []), (130, 2, 0, 0, 1, []), (131, 6, 1, 0, 0, []), (132, 7, 4, 0, 0, []), (134, 1, 0, 0, 0, []), (135, 3, 12, 41, 0, []), (138, 0, 4, 0, 0, []), (140, 2, 0, 0, 1, []), (141, 6, 1, 0, 0, []), (142, 1, 0, 0, 0, []), (143, 1, 0, 0, 0, []), (144, 3, 12, 23, 0, []), (147, 0, 5, 0, 0, []), (149, 5, 0, 0, 0, []), (150, 1, 0, 0, 0, []), (151, 3, 12, 41, 0, []), (154, 0, 4, 0, 0, []), (156, 2, 0, 0, 1, []), (157, 6, 1, 0, 0, []), (158, 5, 0, 0, 0, []), (159, 1, 0, 0, 0, []), (160, 3, 12, 41, 0, []), (163, 0, 4, 0, 0, []), (165, 5, 0, 0, 0, []), (166, 12, 57, 3, 0, [12]), (169, 11, 0, 0, 0, []), (170, 8, 5, 0, 1, []), (173, 9, 8, 0, 0, []), (176, 1, 0, 0, 0, []), (177, 3, 12, 41, 0, []), (180, 2, 0, 0, 0, []), (181, 5, 0, 0, 0, []), (182, 14, 0, 0, 0, [])]
def tX12_twoOf : List PO := [(0, 0, 1, 0, 0, []), (1, 2, 0, 0, 2, []), (2, 4, 7, 1, 0, []), (5, 0, 2, 0, 0, []), (6, 0, 3, 0, 0, []), (7, 6, 0, 0, 0, []), (8, 14, 0, 0, 0, []), (9, 0, 1, 0, 0, []), (10, 2, 0, 0, 3, []), (11, 4, 14, 1, 0, []), (14, 0, 2, 0, 0, []), (15, 0, 3, 0, 0, []), (16, 6, 1, 0, 0, []), (17, 14, 0, 0, 0, []), (18, 0, 1, 0, 0, []), (19, 2, 0, 0, 4, []), (20, 4, 21, 1, 0, []), (23, 0, 2, 0, 0, []), (24, 0, 3, 0, 0, []), (25, 6, 2, 0, 0, []), (26, 14, 0, 0, 0, []), (27, 0, 1, 0, 0, []), (28, 2, 0, 0, 5, []), (29, 4, 28, 1, 0, []), (32, 0, 2, 0, 0, []), (33, 0, 3, 0, 0, []), (34, 17, 0, 0, 0, []), (35, 14, 0, 0, 0, []), (36, 0, 1, 0, 0, []), (37, 2, 0, 0, 6, []), (39, 4, 38, 1, 0, []), (42, 0, 2, 0, 0, []), (43, 0, 3, 0, 0, []), (44, 4, 36, 3, 0, []), (47, 2, 0, 0, 1, []), (48, 9, 37, 0, 0, []), (51, 2, 0, 0, 0, []), (52, 14, 0, 0, 0, []), (53, 0, 1, 0, 0, []), (54, 2, 0, 0, 7, []), (56, 4, 48, 1, 0, []), (59, 0, 2, 0, 0, []), (60, 0, 3, 0, 0, []), (61, 4, 46, 1, 0, []), (64, 2, 0, 0, 1, []), (65, 9, 47, 0, 0, []), (68, 2, 0, 0, 0, []), (69, 14, 0, 0, 0, []), (70, 0, 1, 0, 0, []), (71, 2, 0, 0, 8, []), (73, 4, 58, 1, 0, []), (76, 0, 2, 0, 0, []), (77, 0, 3, 0, 0, []), (78, 4, 56, 5, 0, []), (81, 2, 0, 0, 1, []), (82, 9, 57, 0, 0, []), (85, 2, 0, 0, 0, []), (86, 14, 0, 0, 0, []), (87, 0, 1, 0, 0, []), (88, 2, 0, 0, 10, []), (90, 4, 65, 1, 0, []), (93, 0, 2, 0, 0, []), (94, 0, 3, 0, 0, []), (95, 6, 2, 0, 0, []), (96, 9, 72, 0, 0, []), (99, 0, 2, 0, 0, []), (100, 0, 3, 0, 0, []), (101, 6, 0, 0, 0, []), (102, 10, 71, 5, 0, []), (105, 2, 0, 0, 1, []), (106, 9, 72, 0, 0, []), (109, 2, 0, 0, 0, []), (110, 14, 0, 0, 0, [])]
def tX12_held : List PO := [(0, 0, 1, 0, 0, []), (1, 0, 2, 0, 0, []), (2, 4, 5, 3, 0, []), (5, 0, 2, 0, 0, []), (6, 9, 11, 0, 0, []), (9, 0, 1, 0, 0, []), (10, 0, 3, 0, 0, []), (11, 4, 10, 5, 0, []), (14, 0, 3, 0, 0, []), (15, 9, 11, 0, 0, []), (18, 0, 1, 0, 0, []), (19, 14, 0, 0, 0, [])]
def tX12_turned : List PO := [(0, 1, 0, 0, 0, []), (1, 12, 48, 0, 0, [12]), (4, 7, 1, 0, 0, []), (5, 2, 0, 0, 0, []), (6, 7, 2, 0, 0, []), (7, 2, 0, 0, 0, []), (8, 7, 3, 0, 0, []), (9, 0, 3, 0, 0, []), (10, 2, 0, 0, 144, []), (13, 4, 29, 3, 0, []), (16, 1, 0, 0, 0, []), (17, 3, 12, 42, 0, []), (20, 0, 3, 0, 0, []), (21, 1, 0, 0, 0, []), (22, 3, 12, 1, 0, []), (25, 2, 0, 0, 211, []), (28, 0, 3, 0, 0, []), (29, 6, 0, 0, 0, []), (30, 5, 0, 0, 0, []), (31, 2, 0, 0, (-1), []), (32, 4, 25, 1, 0, []), (35, 1, 0, 0, 0, []), (36, 0, 3, 0, 0, []), (37, 12, 50, 1, 0, [12]), (40, 9, 26, 0, 0, []), (43, 2, 0, 0, 0, []), (44, 11, 0, 0, 0, []), (45, 8, 3, 0, 1, []), (48, 9, 7, 0, 0, []), (51, 0, 1, 0, 0, []), (52, 10, 75, 4, 0, []), (55, 2, 0, 0, 0, []), (56, 7, 3, 0, 0, []), (57, 2, 0, 0, 1, []), (58, 7, 4, 0, 0, []), (60, 0, 4, 0, 0, []), (62, 2, 0, 0, 144, []), (65, 4, 51, 3, 0, []), (68, 1, 0, 0, 0, []), (69, 3, 12, 42, 0, []), (72, 0, 4, 0, 0, []), (74, 5, 0, 0, 0, []), (75, 1, 0, 0, 0, []), (76, 3, 12, 42, 0, []), (79, 0, 3, 0, 0, []), (80, 5, 0, 0, 0, []), (81, 4, 49, 5, 0, []), (84, 0, 4, 0, 0, []), (86, 7, 3, 0, 0, []), (87, 8, 4, 0, 1, []), (90, 9, 35, 0, 0, []), (93, 1, 0, 0, 0, []), (94, 3, 12, 42, 0, []), (97, 0, 3, 0, 0, []), (98, 5, 0, 0, 0, []), (99, 10, 58, 1, 0, []), (102, 2, 0, 0, (-1), []), (103, 14, 0, 0, 0, []), (104, 0, 1, 0, 0, []), (105, 1, 0, 0, 0, []), (106, 3, 12, 42, 0, []), (109, 0, 3, 0, 0, []), (110, 5, 0, 0, 0, []), (111, 6, 0, 0, 0, []), (112, 7, 1, 0, 0, []), (113, 1, 0, 0, 0, []), (114, 3, 12, 42, 0, []), (117, 0, 3, 0, 0, []), (118, 2, 0, 0, 0, []), (119, 11, 0, 0, 0, []), (120, 0, 2, 0, 0, []), (121, 2, 0, 0, 1, []), (122, 6, 0, 0, 0, []), (123, 7, 2, 0, 0, []), (124, 9, 29, 0, 0, []), (127, 0, 2, 0, 0, []), (128, 14, 0, 0, 0, [])]
def tX12_notFace : List PO := [(0, 2, 0, 0, 0, []), (1, 7, 1, 0, 0, []), (2, 2, 0, 0, 0, []), (3, 7, 2, 0, 0, []), (4, 0, 2, 0, 0, []), (5, 2, 0, 0, 12, []), (7, 4, 45, 3, 0, []), (10, 2, 0, 0, 0, []), (11, 7, 3, 0, 0, []), (12, 0, 3, 0, 0, []), (13, 2, 0, 0, 6, []), (15, 4, 43, 3, 0, []), (18, 1, 0, 0, 0, []), (19, 3, 12, 1, 0, []), (22, 2, 0, 0, 211, []), (25, 2, 0, 0, 12, []), (27, 0, 2, 0, 0, []), (28, 6, 2, 0, 0, []), (29, 6, 0, 0, 0, []), (30, 0, 3, 0, 0, []), (31, 6, 0, 0, 0, []), (32, 5, 0, 0, 0, []), (33, 1, 0, 0, 0, []), (34, 3, 12, 1, 0, []), (37, 2, 0, 0, 211, []), (40, 2, 0, 0, 12, []), (42, 0, 2, 0, 0, []), (43, 6, 2, 0, 0, []), (44, 6, 0, 0, 0, []), (45, 2, 0, 0, 12, []), (47, 6, 0, 0, 0, []), (48, 2, 0, 0, 1, []), (49, 6, 1, 0, 0, []), (50, 0, 3, 0, 0, []), (51, 6, 1, 0, 0, []), (52, 5, 0, 0, 0, []), (53, 4, 41, 0, 0, []), (56, 0, 1, 0, 0, []), (57, 2, 0, 0, 1, []), (58, 6, 0, 0, 0, []), (59, 7, 1, 0, 0, []), (60, 8, 3, 0, 1, []), (63, 9, 9, 0, 0, []), (66, 8, 2, 0, 1, []), (69, 9, 4, 0, 0, []), (72, 0, 1, 0, 0, []), (73, 14, 0, 0, 0, [])]
def tX12_bareSquare : List PO := [(0, 2, 0, 0, (-1), []), (1, 7, 2, 0, 0, []), (2, 2, 0, 0, 143, []), (5, 7, 3, 0, 0, []), (6, 0, 3, 0, 0, []), (7, 10, 80, 2, 0, []), (10, 1, 0, 0, 0, []), (11, 3, 12, 42, 0, []), (14, 0, 3, 0, 0, []), (15, 1, 0, 0, 0, []), (16, 0, 3, 0, 0, []), (17, 12, 49, 1, 0, [12]), (20, 10, 15, 0, 0, []), (23, 2, 0, 0, 0, []), (24, 9, 16, 0, 0, []), (27, 2, 0, 0, 1, []), (28, 11, 0, 0, 0, []), (29, 0, 3, 0, 0, []), (30, 2, 0, 0, 132, []), (33, 4, 59, 3, 0, []), (36, 0, 3, 0, 0, []), (37, 2, 0, 0, 12, []), (39, 18, 0, 0, 0, []), (40, 2, 0, 0, 11, []), (42, 4, 59, 3, 0, []), (45, 1, 0, 0, 0, []), (46, 0, 3, 0, 0, []), (47, 12, 49, 1, 0, [12]), (50, 10, 59, 1, 0, []), (53, 1, 0, 0, 0, []), (54, 3, 12, 42, 0, []), (57, 0, 3, 0, 0, []), (58, 2, 0, 0, 1, []), (59, 1, 0, 0, 0, []), (60, 1, 0, 0, 0, []), (61, 3, 12, 42, 0, []), (64, 0, 3, 0, 0, []), (65, 2, 0, 0, 1, []), (66, 6, 0, 0, 0, []), (67, 5, 0, 0, 0, []), (68, 1, 0, 0, 0, []), (69, 1, 0, 0, 0, []), (70, 3, 12, 42, 0, []), (73, 0, 3, 0, 0, []), (74, 2, 0, 0, 12, []), (76, 6, 0, 0, 0, []), (77, 5, 0, 0, 0, []), (78, 1, 0, 0, 0, []), (79, 3, 12, 42, 0, []), (82, 0, 3, 0, 0, []), (83, 2, 0, 0, 12, []), (85, 6, 0, 0, 0, []), (86, 2, 0, 0, 1, []), (87, 6, 0, 0, 0, []), (88, 5, 0, 0, 0, []), (89, 12, 62, 2, 0, [12]), (92, 12, 62, 2, 0, [12]), (95, 6, 0, 0, 0, []), (96, 11, 0, 0, 0, []), (97, 1, 0, 0, 0, []), (98, 3, 12, 42, 0, []), (101, 0, 3, 0, 0, []), (102, 5, 0, 0, 0, []), (103, 10, 78, 5, 0, []), (106, 0, 2, 0, 0, []), (107, 2, 0, 0, (-1), []), (108, 4, 76, 0, 0, []), (111, 1, 0, 0, 0, []), (112, 3, 12, 42, 0, []), (115, 0, 3, 0, 0, []), (116, 5, 0, 0, 0, []), (117, 1, 0, 0, 0, []), (118, 3, 12, 42, 0, []), (121, 0, 2, 0, 0, []), (122, 5, 0, 0, 0, []), (123, 4, 78, 2, 0, []), (126, 0, 3, 0, 0, []), (127, 7, 2, 0, 0, []), (128, 8, 3, 0, (-1), []), (131, 9, 4, 0, 0, []), (134, 0, 1, 0, 0, []), (135, 2, 0, 0, 7, []), (137, 4, 93, 1, 0, []), (140, 0, 2, 0, 0, []), (141, 2, 0, 0, (-1), []), (142, 4, 88, 1, 0, []), (145, 2, 0, 0, 0, []), (146, 9, 92, 0, 0, []), (149, 1, 0, 0, 0, []), (150, 3, 12, 42, 0, []), (153, 0, 2, 0, 0, []), (154, 5, 0, 0, 0, []), (155, 14, 0, 0, 0, []), (156, 0, 2, 0, 0, []), (157, 2, 0, 0, (-1), []), (158, 4, 98, 1, 0, []), (161, 2, 0, 0, (-1), []), (162, 9, 108, 0, 0, []), (165, 0, 1, 0, 0, []), (166, 2, 0, 0, 8, []), (168, 4, 105, 1, 0, []), (171, 0, 2, 0, 0, []), (172, 2, 0, 0, 12, []), (174, 17, 0, 0, 0, []), (175, 9, 108, 0, 0, []), (178, 0, 2, 0, 0, []), (179, 2, 0, 0, 12, []), (181, 18, 0, 0, 0, []), (182, 14, 0, 0, 0, [])]
def tX12_lesser : List PO := [(0, 0, 1, 0, 0, []), (1, 0, 2, 0, 0, []), (2, 4, 5, 3, 0, []), (5, 0, 1, 0, 0, []), (6, 9, 6, 0, 0, []), (9, 0, 2, 0, 0, []), (10, 14, 0, 0, 0, [])]
def tX12_findsParts : List PO := [(0, 2, 0, 0, 0, []), (1, 7, 1, 0, 0, []), (2, 0, 1, 0, 0, []), (3, 2, 0, 0, 144, []), (6, 4, 12, 3, 0, []), (9, 1, 0, 0, 0, []), (10, 3, 12, 42, 0, []), (13, 0, 1, 0, 0, []), (14, 0, 1, 0, 0, []), (15, 11, 0, 0, 0, []), (16, 8, 1, 0, 1, []), (19, 9, 2, 0, 0, []), (22, 2, 0, 0, 1, []), (23, 7, 1, 0, 0, []), (24, 0, 1, 0, 0, []), (25, 10, 136, 0, 0, []), (28, 2, 0, 0, 0, []), (29, 7, 1, 0, 0, []), (30, 2, 0, 0, 0, []), (31, 7, 2, 0, 0, []), (32, 0, 2, 0, 0, []), (33, 2, 0, 0, 144, []), (36, 4, 135, 3, 0, []), (39, 1, 0, 0, 0, []), (40, 3, 12, 42, 0, []), (43, 0, 2, 0, 0, []), (44, 5, 0, 0, 0, []), (45, 7, 3, 0, 0, []), (46, 0, 2, 0, 0, []), (47, 2, 0, 0, 12, []), (49, 4, 50, 2, 0, []), (52, 1, 0, 0, 0, []), (53, 0, 2, 0, 0, []), (54, 12, 49, 1, 0, [12]), (57, 1, 0, 0, 0, []), (58, 0, 2, 0, 0, []), (59, 2, 0, 0, 12, []), (61, 6, 1, 0, 0, []), (62, 12, 49, 1, 0, [12]), (65, 4, 50, 1, 0, []), (68, 1, 0, 0, 0, []), (69, 0, 3, 0, 0, []), (70, 1, 0, 0, 0, []), (71, 3, 12, 42, 0, []), (74, 0, 2, 0, 0, []), (75, 2, 0, 0, 12, []), (77, 6, 1, 0, 0, []), (78, 5, 0, 0, 0, []), (79, 12, 62, 2, 0, [12]), (82, 7, 3, 0, 0, []), (83, 0, 2, 0, 0, []), (84, 2, 0, 0, 132, []), (87, 4, 72, 3, 0, []), (90, 1, 0, 0, 0, []), (91, 0, 2, 0, 0, []), (92, 12, 49, 1, 0, [12]), (95, 1, 0, 0, 0, []), (96, 0, 2, 0, 0, []), (97, 2, 0, 0, 12, []), (99, 6, 0, 0, 0, []), (100, 12, 49, 1, 0, [12]), (103, 4, 72, 1, 0, []), (106, 1, 0, 0, 0, []), (107, 0, 3, 0, 0, []), (108, 1, 0, 0, 0, []), (109, 3, 12, 42, 0, []), (112, 0, 2, 0, 0, []), (113, 2, 0, 0, 12, []), (115, 6, 0, 0, 0, []), (116, 5, 0, 0, 0, []), (117, 12, 62, 2, 0, [12]), (120, 7, 3, 0, 0, []), (121, 0, 2, 0, 0, []), (122, 2, 0, 0, 12, []), (124, 18, 0, 0, 0, []), (125, 10, 95, 5, 0, []), (128, 1, 0, 0, 0, []), (129, 0, 2, 0, 0, []), (130, 12, 49, 1, 0, [12]), (133, 1, 0, 0, 0, []), (134, 0, 2, 0, 0, []), (135, 2, 0, 0, 1, []), (136, 6, 1, 0, 0, []), (137, 12, 49, 1, 0, [12]), (140, 4, 95, 1, 0, []), (143, 1, 0, 0, 0, []), (144, 0, 3, 0, 0, []), (145, 1, 0, 0, 0, []), (146, 3, 12, 42, 0, []), (149, 0, 2, 0, 0, []), (150, 2, 0, 0, 1, []), (151, 6, 1, 0, 0, []), (152, 5, 0, 0, 0, []), (153, 12, 62, 2, 0, [12]), (156, 7, 3, 0, 0, []), (157, 0, 2, 0, 0, []), (158, 2, 0, 0, 12, []), (160, 18, 0, 0, 0, []), (161, 2, 0, 0, 11, []), (163, 4, 119, 3, 0, []), (166, 1, 0, 0, 0, []), (167, 0, 2, 0, 0, []), (168, 12, 49, 1, 0, [12]), (171, 1, 0, 0, 0, []), (172, 0, 2, 0, 0, []), (173, 2, 0, 0, 1, []), (174, 6, 0, 0, 0, []), (175, 12, 49, 1, 0, [12]), (178, 4, 119, 1, 0, []), (181, 1, 0, 0, 0, []), (182, 0, 3, 0, 0, []), (183, 1, 0, 0, 0, []), (184, 3, 12, 42, 0, []), (187, 0, 2, 0, 0, []), (188, 2, 0, 0, 1, []), (189, 6, 0, 0, 0, []), (190, 5, 0, 0, 0, []), (191, 12, 62, 2, 0, [12]), (194, 7, 3, 0, 0, []), (195, 0, 3, 0, 0, []), (196, 1, 0, 0, 0, []), (197, 3, 12, 42, 0, []), (200, 0, 2, 0, 0, []), (201, 5, 0, 0, 0, []), (202, 4, 126, 1, 0, []), (205, 9, 133, 0, 0, []), (208, 1, 0, 0, 0, []), (209, 3, 12, 42, 0, []), (212, 0, 2, 0, 0, []), (213, 0, 3, 0, 0, []), (214, 11, 0, 0, 0, []), (215, 2, 0, 0, 1, []), (216, 7, 1, 0, 0, []), (217, 8, 2, 0, 1, []), (220, 9, 20, 0, 0, []), (223, 9, 14, 0, 0, []), (226, 16, 0, 0, 0, [])]
def tX12_holes : List PO := [(0, 2, 0, 0, 0, []), (1, 7, 1, 0, 0, []), (2, 2, 0, 0, 0, []), (3, 7, 2, 0, 0, []), (4, 0, 2, 0, 0, []), (5, 2, 0, 0, 144, []), (8, 4, 47, 3, 0, []), (11, 1, 0, 0, 0, []), (12, 3, 12, 42, 0, []), (15, 0, 2, 0, 0, []), (16, 5, 0, 0, 0, []), (17, 0, 2, 0, 0, []), (18, 4, 45, 1, 0, []), (21, 1, 0, 0, 0, []), (22, 0, 2, 0, 0, []), (23, 12, 49, 1, 0, [12]), (26, 10, 18, 0, 0, []), (29, 9, 45, 0, 0, []), (32, 2, 0, 0, 1, []), (33, 7, 3, 0, 0, []), (34, 2, 0, 0, 0, []), (35, 7, 4, 0, 0, []), (37, 0, 4, 0, 0, []), (39, 2, 0, 0, 144, []), (42, 4, 39, 3, 0, []), (45, 1, 0, 0, 0, []), (46, 3, 12, 42, 0, []), (49, 0, 4, 0, 0, []), (51, 5, 0, 0, 0, []), (52, 0, 2, 0, 0, []), (53, 4, 37, 1, 0, []), (56, 1, 0, 0, 0, []), (57, 0, 4, 0, 0, []), (59, 12, 65, 1, 0, [12]), (62, 10, 37, 0, 0, []), (65, 2, 0, 0, 0, []), (66, 7, 3, 0, 0, []), (67, 8, 4, 0, 1, []), (70, 9, 22, 0, 0, []), (73, 0, 3, 0, 0, []), (74, 10, 45, 0, 0, []), (77, 0, 1, 0, 0, []), (78, 2, 0, 0, 1, []), (79, 6, 0, 0, 0, []), (80, 7, 1, 0, 0, []), (81, 8, 2, 0, 1, []), (84, 9, 4, 0, 0, []), (87, 0, 1, 0, 0, []), (88, 14, 0, 0, 0, [])]
def tX12_isAtEdge : List PO := [(0, 0, 1, 0, 0, []), (1, 2, 0, 0, 12, []), (3, 4, 15, 2, 0, []), (6, 0, 1, 0, 0, []), (7, 2, 0, 0, 132, []), (10, 4, 15, 3, 0, []), (13, 0, 1, 0, 0, []), (14, 2, 0, 0, 12, []), (16, 18, 0, 0, 0, []), (17, 10, 15, 0, 0, []), (20, 0, 1, 0, 0, []), (21, 2, 0, 0, 12, []), (23, 18, 0, 0, 0, []), (24, 2, 0, 0, 11, []), (26, 4, 17, 1, 0, []), (29, 2, 0, 0, 1, []), (30, 9, 18, 0, 0, []), (33, 2, 0, 0, 0, []), (34, 15, 0, 0, 0, [])]
def tX12_blobs : List PO := [(0, 2, 0, 0, 0, []), (1, 7, 2, 0, 0, []), (2, 2, 0, 0, 0, []), (3, 7, 3, 0, 0, []), (4, 2, 0, 0, 0, []), (5, 7, 4, 0, 0, []), (7, 0, 4, 0, 0, []), (9, 2, 0, 0, 144, []), (12, 4, 33, 3, 0, []), (15, 1, 0, 0, 0, []), (16, 3, 12, 42, 0, []), (19, 0, 4, 0, 0, []), (21, 5, 0, 0, 0, []), (22, 0, 4, 0, 0, []), (24, 4, 31, 1, 0, []), (27, 1, 0, 0, 0, []), (28, 0, 4, 0, 0, []), (30, 12, 49, 1, 0, [12]), (33, 10, 20, 1, 0, []), (36, 9, 31, 0, 0, []), (39, 0, 2, 0, 0, []), (40, 2, 0, 0, 1, []), (41, 6, 0, 0, 0, []), (42, 7, 2, 0, 0, []), (43, 1, 0, 0, 0, []), (44, 0, 3, 0, 0, []), (45, 1, 0, 0, 0, []), (46, 0, 4, 0, 0, []), (48, 12, 67, 1, 0, [12]), (51, 12, 68, 2, 0, [12]), (54, 7, 3, 0, 0, []), (55, 8, 4, 0, 1, []), (58, 9, 6, 0, 0, []), (61, 0, 1, 0, 0, []), (62, 10, 37, 0, 0, []), (65, 0, 3, 0, 0, []), (66, 9, 38, 0, 0, []), (69, 0, 2, 0, 0, []), (70, 14, 0, 0, 0, [])]
def tX12_partOf : List PO := [(0, 2, 0, 0, 0, []), (1, 7, 2, 0, 0, []), (2, 2, 0, 0, 0, []), (3, 7, 3, 0, 0, []), (4, 0, 3, 0, 0, []), (5, 2, 0, 0, 144, []), (8, 4, 19, 3, 0, []), (11, 1, 0, 0, 0, []), (12, 3, 12, 42, 0, []), (15, 0, 3, 0, 0, []), (16, 5, 0, 0, 0, []), (17, 0, 1, 0, 0, []), (18, 4, 17, 1, 0, []), (21, 0, 2, 0, 0, []), (22, 2, 0, 0, 1, []), (23, 6, 0, 0, 0, []), (24, 7, 2, 0, 0, []), (25, 8, 3, 0, 1, []), (28, 9, 4, 0, 0, []), (31, 0, 2, 0, 0, []), (32, 14, 0, 0, 0, [])]
def tX12_greater : List PO := [(0, 0, 1, 0, 0, []), (1, 0, 2, 0, 0, []), (2, 4, 5, 5, 0, []), (5, 0, 1, 0, 0, []), (6, 9, 6, 0, 0, []), (9, 0, 2, 0, 0, []), (10, 14, 0, 0, 0, [])]
def tX12_game : List PO := [(0, 1, 0, 0, 0, []), (1, 2, 0, 0, 0, []), (2, 19, 12, 0, 0, []), (5, 1, 0, 0, 0, []), (6, 0, 2, 0, 0, []), (7, 2, 0, 0, 0, []), (8, 2, 0, 0, 1, []), (9, 12, 47, 3, 0, [12]), (12, 10, 13, 0, 0, []), (15, 1, 0, 0, 0, []), (16, 0, 1, 0, 0, []), (17, 12, 70, 1, 0, [12]), (20, 10, 15, 1, 0, []), (23, 2, 0, 0, (-10), []), (25, 14, 0, 0, 0, []), (26, 2, 0, 0, 0, []), (27, 7, 3, 0, 0, []), (28, 2, 0, 0, 0, []), (29, 7, 4, 0, 0, []), (31, 0, 4, 0, 0, []), (33, 2, 0, 0, 9, []), (35, 4, 33, 3, 0, []), (38, 2, 0, 0, 3, []), (39, 0, 3, 0, 0, []), (40, 6, 2, 0, 0, []), (41, 1, 0, 0, 0, []), (42, 3, 12, 69, 0, []), (45, 0, 4, 0, 0, []), (47, 5, 0, 0, 0, []), (48, 6, 0, 0, 0, []), (49, 7, 3, 0, 0, []), (50, 8, 4, 0, 1, []), (53, 9, 19, 0, 0, []), (56, 1, 0, 0, 0, []), (57, 0, 3, 0, 0, []), (58, 12, 74, 1, 0, [12]), (61, 1, 0, 0, 0, []), (62, 0, 3, 0, 0, []), (63, 2, 0, 0, 3, []), (64, 12, 71, 2, 0, [12]), (67, 0, 2, 0, 0, []), (68, 10, 47, 1, 0, []), (71, 1, 0, 0, 0, []), (72, 3, 12, 68, 0, []), (75, 0, 3, 0, 0, []), (76, 5, 0, 0, 0, []), (77, 14, 0, 0, 0, []), (78, 1, 0, 0, 0, []), (79, 12, 78, 0, 0, [12]), (82, 10, 52, 0, 0, []), (85, 2, 0, 0, (-1), []), (86, 14, 0, 0, 0, []), (87, 2, 0, 0, 0, []), (88, 7, 4, 0, 0, []), (90, 0, 4, 0, 0, []), (92, 2, 0, 0, 9, []), (94, 4, 83, 3, 0, []), (97, 1, 0, 0, 0, []), (98, 3, 12, 69, 0, []), (101, 0, 4, 0, 0, []), (103, 5, 0, 0, 0, []), (104, 10, 81, 1, 0, []), (107, 1, 0, 0, 0, []), (108, 3, 12, 68, 0, []), (111, 0, 3, 0, 0, []), (112, 1, 0, 0, 0, []), (113, 12, 76, 0, 0, [12]), (116, 1, 0, 0, 0, []), (117, 0, 4, 0, 0, []), (119, 12, 77, 1, 0, [12]), (122, 6, 2, 0, 0, []), (123, 6, 0, 0, 0, []), (124, 5, 0, 0, 0, []), (125, 20, 0, 0, 0, []), (126, 1, 0, 0, 0, []), (127, 3, 12, 68, 0, []), (130, 0, 3, 0, 0, []), (131, 5, 0, 0, 0, []), (132, 4, 81, 1, 0, []), (135, 0, 4, 0, 0, []), (137, 14, 0, 0, 0, []), (138, 8, 4, 0, 1, []), (141, 9, 54, 0, 0, []), (144, 2, 0, 0, (-1), []), (145, 14, 0, 0, 0, [])]
def tX12_isGame : List PO := [(0, 1, 0, 0, 0, []), (1, 0, 1, 0, 0, []), (2, 2, 0, 0, 0, []), (3, 2, 0, 0, 222222222, []), (6, 12, 47, 3, 0, [12]), (9, 10, 8, 1, 0, []), (12, 2, 0, 0, 0, []), (13, 15, 0, 0, 0, []), (14, 1, 0, 0, 0, []), (15, 0, 1, 0, 0, []), (16, 2, 0, 0, 10, []), (18, 12, 71, 2, 0, [12]), (21, 2, 0, 0, 0, []), (22, 7, 2, 0, 0, []), (23, 0, 2, 0, 0, []), (24, 2, 0, 0, 9, []), (26, 4, 27, 3, 0, []), (29, 1, 0, 0, 0, []), (30, 3, 12, 69, 0, []), (33, 0, 2, 0, 0, []), (34, 5, 0, 0, 0, []), (35, 2, 0, 0, 2, []), (36, 4, 25, 5, 0, []), (39, 2, 0, 0, 0, []), (40, 15, 0, 0, 0, []), (41, 8, 2, 0, 1, []), (44, 9, 14, 0, 0, []), (47, 1, 0, 0, 0, []), (48, 3, 12, 70, 0, []), (51, 1, 0, 0, 0, []), (52, 3, 12, 71, 0, []), (55, 4, 39, 0, 0, []), (58, 1, 0, 0, 0, []), (59, 3, 12, 70, 0, []), (62, 1, 0, 0, 0, []), (63, 3, 12, 71, 0, []), (66, 2, 0, 0, 1, []), (67, 6, 0, 0, 0, []), (68, 4, 49, 1, 0, []), (71, 1, 0, 0, 0, []), (72, 2, 0, 0, 1, []), (73, 12, 72, 1, 0, [12]), (76, 10, 47, 0, 0, []), (79, 1, 0, 0, 0, []), (80, 2, 0, 0, 2, []), (81, 12, 72, 1, 0, [12]), (84, 10, 49, 1, 0, []), (87, 2, 0, 0, 1, []), (88, 9, 50, 0, 0, []), (91, 2, 0, 0, 0, []), (92, 15, 0, 0, 0, [])]
def tX12_takesNine : List PO := [(0, 0, 1, 0, 0, []), (1, 7, 3, 0, 0, []), (2, 1, 0, 0, 0, []), (3, 2, 0, 0, 0, []), (4, 19, 12, 70, 0, []), (7, 1, 0, 0, 0, []), (8, 2, 0, 0, 0, []), (9, 19, 12, 71, 0, []), (12, 2, 0, 0, 8, []), (14, 7, 4, 0, 0, []), (16, 0, 4, 0, 0, []), (18, 10, 49, 2, 0, []), (21, 1, 0, 0, 0, []), (22, 3, 12, 69, 0, []), (25, 0, 4, 0, 0, []), (27, 0, 3, 0, 0, []), (28, 0, 2, 0, 0, []), (29, 18, 0, 0, 0, []), (30, 11, 0, 0, 0, []), (31, 0, 3, 0, 0, []), (32, 0, 2, 0, 0, []), (33, 17, 0, 0, 0, []), (34, 7, 3, 0, 0, []), (35, 1, 0, 0, 0, []), (36, 3, 12, 69, 0, []), (39, 0, 4, 0, 0, []), (41, 5, 0, 0, 0, []), (42, 2, 0, 0, 1, []), (43, 4, 35, 1, 0, []), (46, 1, 0, 0, 0, []), (47, 1, 0, 0, 0, []), (48, 3, 12, 70, 0, []), (51, 2, 0, 0, 1, []), (52, 6, 0, 0, 0, []), (53, 19, 12, 70, 0, []), (56, 1, 0, 0, 0, []), (57, 3, 12, 69, 0, []), (60, 0, 4, 0, 0, []), (62, 5, 0, 0, 0, []), (63, 2, 0, 0, 2, []), (64, 4, 47, 1, 0, []), (67, 1, 0, 0, 0, []), (68, 1, 0, 0, 0, []), (69, 3, 12, 71, 0, []), (72, 2, 0, 0, 1, []), (73, 6, 0, 0, 0, []), (74, 19, 12, 71, 0, []), (77, 8, 4, 0, (-1), []), (80, 9, 10, 0, 0, []), (83, 16, 0, 0, 0, [])]
def tX12_hasThree : List PO := [(0, 2, 0, 0, 0, []), (1, 7, 2, 0, 0, []), (2, 0, 2, 0, 0, []), (3, 2, 0, 0, 3, []), (4, 4, 37, 3, 0, []), (7, 1, 0, 0, 0, []), (8, 2, 0, 0, 3, []), (9, 0, 2, 0, 0, []), (10, 6, 2, 0, 0, []), (11, 2, 0, 0, 3, []), (12, 0, 2, 0, 0, []), (13, 6, 2, 0, 0, []), (14, 2, 0, 0, 1, []), (15, 6, 0, 0, 0, []), (16, 2, 0, 0, 3, []), (17, 0, 2, 0, 0, []), (18, 6, 2, 0, 0, []), (19, 2, 0, 0, 2, []), (20, 6, 0, 0, 0, []), (21, 0, 1, 0, 0, []), (22, 12, 73, 4, 0, [12]), (25, 10, 33, 1, 0, []), (28, 1, 0, 0, 0, []), (29, 0, 2, 0, 0, []), (30, 0, 2, 0, 0, []), (31, 2, 0, 0, 3, []), (32, 6, 0, 0, 0, []), (33, 0, 2, 0, 0, []), (34, 2, 0, 0, 6, []), (36, 6, 0, 0, 0, []), (37, 0, 1, 0, 0, []), (38, 12, 73, 4, 0, [12]), (41, 10, 35, 0, 0, []), (44, 2, 0, 0, 1, []), (45, 15, 0, 0, 0, []), (46, 8, 2, 0, 1, []), (49, 9, 2, 0, 0, []), (52, 1, 0, 0, 0, []), (53, 2, 0, 0, 0, []), (54, 2, 0, 0, 4, []), (55, 2, 0, 0, 8, []), (57, 0, 1, 0, 0, []), (58, 12, 73, 4, 0, [12]), (61, 10, 51, 1, 0, []), (64, 1, 0, 0, 0, []), (65, 2, 0, 0, 2, []), (66, 2, 0, 0, 4, []), (67, 2, 0, 0, 6, []), (69, 0, 1, 0, 0, []), (70, 12, 73, 4, 0, [12]), (73, 10, 53, 0, 0, []), (76, 2, 0, 0, 1, []), (77, 9, 54, 0, 0, []), (80, 2, 0, 0, 0, []), (81, 15, 0, 0, 0, [])]
def tX12_areThree : List PO := [(0, 1, 0, 0, 0, []), (1, 3, 12, 69, 0, []), (4, 0, 1, 0, 0, []), (5, 5, 0, 0, 0, []), (6, 0, 4, 0, 0, []), (8, 4, 20, 1, 0, []), (11, 1, 0, 0, 0, []), (12, 3, 12, 69, 0, []), (15, 0, 2, 0, 0, []), (16, 5, 0, 0, 0, []), (17, 0, 4, 0, 0, []), (19, 4, 20, 1, 0, []), (22, 1, 0, 0, 0, []), (23, 3, 12, 69, 0, []), (26, 0, 3, 0, 0, []), (27, 5, 0, 0, 0, []), (28, 0, 4, 0, 0, []), (30, 4, 20, 1, 0, []), (33, 2, 0, 0, 1, []), (34, 9, 21, 0, 0, []), (37, 2, 0, 0, 0, []), (38, 15, 0, 0, 0, [])]
def tX12_findsWorth : List PO := [(0, 2, 0, 0, 19682, []), (3, 7, 2, 0, 0, []), (4, 0, 2, 0, 0, []), (5, 0, 1, 0, 0, []), (6, 4, 32, 2, 0, []), (9, 1, 0, 0, 0, []), (10, 0, 2, 0, 0, []), (11, 2, 0, 0, 3, []), (12, 12, 71, 2, 0, [12]), (15, 1, 0, 0, 0, []), (16, 3, 12, 68, 0, []), (19, 0, 2, 0, 0, []), (20, 1, 0, 0, 0, []), (21, 3, 12, 70, 0, []), (24, 1, 0, 0, 0, []), (25, 3, 12, 71, 0, []), (28, 4, 24, 0, 0, []), (31, 1, 0, 0, 0, []), (32, 3, 12, 70, 0, []), (35, 1, 0, 0, 0, []), (36, 3, 12, 71, 0, []), (39, 2, 0, 0, 1, []), (40, 6, 0, 0, 0, []), (41, 4, 28, 1, 0, []), (44, 1, 0, 0, 0, []), (45, 0, 2, 0, 0, []), (46, 12, 75, 1, 0, [12]), (49, 9, 29, 0, 0, []), (52, 2, 0, 0, 0, []), (53, 11, 0, 0, 0, []), (54, 8, 2, 0, (-1), []), (57, 9, 2, 0, 0, []), (60, 16, 0, 0, 0, [])]
def tX12_worthNow : List PO := [(0, 1, 0, 0, 0, []), (1, 12, 76, 0, 0, [12]), (4, 7, 2, 0, 0, []), (5, 1, 0, 0, 0, []), (6, 0, 2, 0, 0, []), (7, 12, 72, 1, 0, [12]), (10, 10, 9, 0, 0, []), (13, 2, 0, 0, 1, []), (14, 14, 0, 0, 0, []), (15, 1, 0, 0, 0, []), (16, 2, 0, 0, 3, []), (17, 0, 2, 0, 0, []), (18, 6, 1, 0, 0, []), (19, 12, 72, 1, 0, [12]), (22, 10, 17, 0, 0, []), (25, 2, 0, 0, (-1), []), (26, 14, 0, 0, 0, []), (27, 1, 0, 0, 0, []), (28, 3, 12, 70, 0, []), (31, 1, 0, 0, 0, []), (32, 3, 12, 71, 0, []), (35, 6, 0, 0, 0, []), (36, 2, 0, 0, 9, []), (38, 4, 26, 1, 0, []), (41, 2, 0, 0, 0, []), (42, 14, 0, 0, 0, []), (43, 2, 0, 0, (-1), []), (44, 7, 3, 0, 0, []), (45, 2, 0, 0, 0, []), (46, 7, 4, 0, 0, []), (48, 0, 4, 0, 0, []), (50, 2, 0, 0, 9, []), (52, 4, 55, 3, 0, []), (55, 1, 0, 0, 0, []), (56, 3, 12, 69, 0, []), (59, 0, 4, 0, 0, []), (61, 5, 0, 0, 0, []), (62, 10, 53, 1, 0, []), (65, 1, 0, 0, 0, []), (66, 0, 3, 0, 0, []), (67, 1, 0, 0, 0, []), (68, 3, 12, 68, 0, []), (71, 0, 1, 0, 0, []), (72, 0, 2, 0, 0, []), (73, 1, 0, 0, 0, []), (74, 0, 4, 0, 0, []), (76, 12, 77, 1, 0, [12]), (79, 6, 2, 0, 0, []), (80, 6, 0, 0, 0, []), (81, 5, 0, 0, 0, []), (82, 20, 0, 0, 0, []), (83, 12, 68, 2, 0, [12]), (86, 7, 3, 0, 0, []), (87, 8, 4, 0, 1, []), (90, 9, 30, 0, 0, []), (93, 0, 3, 0, 0, []), (94, 14, 0, 0, 0, [])]
def tX12_nextUp : List PO := [(0, 1, 0, 0, 0, []), (1, 3, 12, 70, 0, []), (4, 1, 0, 0, 0, []), (5, 3, 12, 71, 0, []), (8, 4, 7, 1, 0, []), (11, 2, 0, 0, 1, []), (12, 9, 8, 0, 0, []), (15, 2, 0, 0, 2, []), (16, 14, 0, 0, 0, [])]
def tX12_powerOf : List PO := [(0, 2, 0, 0, 1, []), (1, 7, 2, 0, 0, []), (2, 2, 0, 0, 8, []), (4, 7, 3, 0, 0, []), (5, 0, 3, 0, 0, []), (6, 0, 1, 0, 0, []), (7, 4, 13, 5, 0, []), (10, 0, 2, 0, 0, []), (11, 2, 0, 0, 3, []), (12, 6, 2, 0, 0, []), (13, 7, 2, 0, 0, []), (14, 8, 3, 0, (-1), []), (17, 9, 4, 0, 0, []), (20, 0, 2, 0, 0, []), (21, 14, 0, 0, 0, [])]
def tX12_isOver : List PO := [(0, 1, 0, 0, 0, []), (1, 2, 0, 0, 1, []), (2, 12, 72, 1, 0, [12]), (5, 10, 15, 1, 0, []), (8, 1, 0, 0, 0, []), (9, 2, 0, 0, 2, []), (10, 12, 72, 1, 0, [12]), (13, 10, 15, 1, 0, []), (16, 1, 0, 0, 0, []), (17, 3, 12, 70, 0, []), (20, 1, 0, 0, 0, []), (21, 3, 12, 71, 0, []), (24, 6, 0, 0, 0, []), (25, 2, 0, 0, 9, []), (27, 4, 17, 1, 0, []), (30, 2, 0, 0, 1, []), (31, 9, 18, 0, 0, []), (34, 2, 0, 0, 0, []), (35, 15, 0, 0, 0, [])]
def tJ6_bitCount_0f7a4 : List PO := [(0, 0, 0, 0, 0, []), (1, 0, 0, 0, 0, []), (2, 2, 0, 0, 1, []), (3, 6, 8, 0, 0, []), (4, 2, 0, 0, 1431655765, []), (7, 6, 3, 0, 0, []), (8, 6, 1, 0, 0, []), (9, 7, 0, 0, 0, []), (10, 0, 0, 0, 0, []), (11, 2, 0, 0, 858993459, []), (14, 6, 3, 0, 0, []), (15, 0, 0, 0, 0, []), (16, 2, 0, 0, 2, []), (17, 6, 8, 0, 0, []), (18, 2, 0, 0, 858993459, []), (21, 6, 3, 0, 0, []), (22, 6, 0, 0, 0, []), (23, 7, 0, 0, 0, []), (24, 0, 0, 0, 0, []), (25, 0, 0, 0, 0, []), (26, 2, 0, 0, 4, []), (27, 6, 8, 0, 0, []), (28, 6, 0, 0, 0, []), (29, 2, 0, 0, 252645135, []), (32, 6, 3, 0, 0, []), (33, 7, 0, 0, 0, []), (34, 0, 0, 0, 0, []), (35, 0, 0, 0, 0, []), (36, 2, 0, 0, 8, []), (38, 6, 8, 0, 0, []), (39, 6, 0, 0, 0, []), (40, 7, 0, 0, 0, []), (41, 0, 0, 0, 0, []), (42, 0, 0, 0, 0, []), (43, 2, 0, 0, 16, []), (45, 6, 8, 0, 0, []), (46, 6, 0, 0, 0, []), (47, 7, 0, 0, 0, []), (48, 0, 0, 0, 0, []), (49, 2, 0, 0, 63, []), (51, 6, 3, 0, 0, []), (52, 14, 0, 0, 0, [])]
def tX0_alike : List PO := [(0, 2, 0, 0, 0, []), (1, 7, 3, 0, 0, []), (2, 2, 0, 0, 0, []), (3, 7, 4, 0, 0, []), (5, 0, 4, 0, 0, []), (7, 1, 0, 0, 0, []), (8, 3, 0, 2, 0, []), (11, 4, 25, 3, 0, []), (14, 1, 0, 0, 0, []), (15, 0, 4, 0, 0, []), (17, 2, 0, 0, 0, []), (18, 12, 13, 2, 0, [0]), (21, 0, 1, 0, 0, []), (22, 6, 5, 0, 0, []), (23, 13, 79, 1, 0, []), (26, 0, 2, 0, 0, []), (27, 4, 23, 4, 0, []), (30, 0, 3, 0, 0, []), (31, 2, 0, 0, 1, []), (32, 0, 4, 0, 0, []), (34, 6, 6, 0, 0, []), (35, 6, 4, 0, 0, []), (36, 7, 3, 0, 0, []), (37, 8, 4, 0, 1, []), (40, 9, 4, 0, 0, []), (43, 0, 3, 0, 0, []), (44, 14, 0, 0, 0, [])]
def tX0_cameOfAll : List PO := [(0, 2, 0, 0, 0, []), (1, 7, 1, 0, 0, []), (2, 2, 0, 0, 0, []), (3, 7, 2, 0, 0, []), (4, 0, 2, 0, 0, []), (5, 1, 0, 0, 0, []), (6, 3, 0, 2, 0, []), (9, 4, 17, 3, 0, []), (12, 0, 1, 0, 0, []), (13, 1, 0, 0, 0, []), (14, 0, 2, 0, 0, []), (15, 2, 0, 0, 5, []), (16, 12, 13, 2, 0, [0]), (19, 6, 0, 0, 0, []), (20, 7, 1, 0, 0, []), (21, 8, 2, 0, 1, []), (24, 9, 4, 0, 0, []), (27, 0, 1, 0, 0, []), (28, 14, 0, 0, 0, [])]
def tX0_countMarks : List PO := [(0, 2, 0, 0, 0, []), (1, 7, 1, 0, 0, []), (2, 2, 0, 0, 0, []), (3, 7, 2, 0, 0, []), (4, 0, 2, 0, 0, []), (5, 2, 0, 0, 144, []), (8, 4, 20, 3, 0, []), (11, 0, 1, 0, 0, []), (12, 1, 0, 0, 0, []), (13, 3, 0, 1, 0, []), (16, 0, 2, 0, 0, []), (17, 5, 0, 0, 0, []), (18, 10, 15, 1, 0, []), (21, 2, 0, 0, 0, []), (22, 9, 16, 0, 0, []), (25, 2, 0, 0, 1, []), (26, 6, 0, 0, 0, []), (27, 7, 1, 0, 0, []), (28, 8, 2, 0, 1, []), (31, 9, 4, 0, 0, []), (34, 0, 1, 0, 0, []), (35, 14, 0, 0, 0, [])]
def tX0_drawThousand : List PO := [(0, 1, 0, 0, 0, []), (1, 2, 0, 0, 1664525, []), (3, 1, 0, 0, 0, []), (4, 3, 0, 8, 0, []), (7, 6, 2, 0, 0, []), (8, 2, 0, 0, 1013904223, []), (10, 6, 0, 0, 0, []), (11, 19, 0, 8, 0, []), (14, 1, 0, 0, 0, []), (15, 3, 0, 8, 0, []), (18, 2, 0, 0, 8, []), (20, 6, 8, 0, 0, []), (21, 2, 0, 0, 1000, []), (24, 18, 0, 0, 0, []), (25, 14, 0, 0, 0, [])]
def tX0_mayPress : List PO := [(0, 1, 0, 0, 0, []), (1, 0, 1, 0, 0, []), (2, 12, 14, 1, 0, [0]), (5, 10, 16, 0, 0, []), (8, 1, 0, 0, 0, []), (9, 0, 1, 0, 0, []), (10, 2, 0, 0, 4, []), (11, 12, 13, 2, 0, [0]), (14, 10, 16, 1, 0, []), (17, 1, 0, 0, 0, []), (18, 0, 1, 0, 0, []), (19, 2, 0, 0, 1, []), (20, 12, 13, 2, 0, [0]), (23, 10, 16, 0, 0, []), (26, 2, 0, 0, 1, []), (27, 9, 17, 0, 0, []), (30, 2, 0, 0, 0, []), (31, 15, 0, 0, 0, [])]
def tX0_nearest : List PO := [(0, 2, 0, 0, (-1), []), (1, 7, 2, 0, 0, []), (2, 2, 0, 0, 9, []), (4, 7, 3, 0, 0, []), (5, 2, 0, 0, 0, []), (6, 7, 4, 0, 0, []), (8, 0, 4, 0, 0, []), (10, 1, 0, 0, 0, []), (11, 3, 0, 2, 0, []), (14, 4, 27, 3, 0, []), (17, 1, 0, 0, 0, []), (18, 0, 4, 0, 0, []), (20, 2, 0, 0, 0, []), (21, 12, 13, 2, 0, [0]), (24, 0, 1, 0, 0, []), (25, 6, 5, 0, 0, []), (26, 13, 79, 1, 0, []), (29, 7, 5, 0, 0, []), (31, 0, 5, 0, 0, []), (33, 0, 3, 0, 0, []), (34, 4, 25, 3, 0, []), (37, 0, 5, 0, 0, []), (39, 7, 3, 0, 0, []), (40, 0, 4, 0, 0, []), (42, 7, 2, 0, 0, []), (43, 8, 4, 0, 1, []), (46, 9, 6, 0, 0, []), (49, 0, 2, 0, 0, []), (50, 14, 0, 0, 0, [])]
def tX0_putMark : List PO := [(0, 0, 1, 0, 0, []), (1, 10, 16, 2, 0, []), (4, 0, 1, 0, 0, []), (5, 2, 0, 0, 144, []), (8, 4, 16, 3, 0, []), (11, 1, 0, 0, 0, []), (12, 3, 0, 1, 0, []), (15, 0, 1, 0, 0, []), (16, 0, 3, 0, 0, []), (17, 0, 2, 0, 0, []), (18, 2, 0, 0, 16, []), (20, 6, 2, 0, 0, []), (21, 0, 4, 0, 0, []), (23, 6, 0, 0, 0, []), (24, 6, 2, 0, 0, []), (25, 11, 0, 0, 0, []), (26, 16, 0, 0, 0, [])]
def tX0_setTrait : List PO := [(0, 1, 0, 0, 0, []), (1, 0, 1, 0, 0, []), (2, 12, 14, 1, 0, [0]), (5, 10, 18, 0, 0, []), (8, 0, 2, 0, 0, []), (9, 10, 18, 2, 0, []), (12, 0, 2, 0, 0, []), (13, 2, 0, 0, 6, []), (15, 4, 18, 3, 0, []), (18, 1, 0, 0, 0, []), (19, 3, 0, 0, 0, []), (22, 0, 2, 0, 0, []), (23, 2, 0, 0, 20, []), (25, 6, 2, 0, 0, []), (26, 0, 1, 0, 0, []), (27, 6, 0, 0, 0, []), (28, 0, 3, 0, 0, []), (29, 11, 0, 0, 0, []), (30, 16, 0, 0, 0, [])]
def tX0_takeAllMarks : List PO := [(0, 1, 0, 0, 0, []), (1, 3, 0, 1, 0, []), (4, 2, 0, 0, 0, []), (5, 13, 2, 2, 0, []), (8, 16, 0, 0, 0, [])]
def tX0_takeMark : List PO := [(0, 0, 1, 0, 0, []), (1, 10, 10, 2, 0, []), (4, 0, 1, 0, 0, []), (5, 2, 0, 0, 144, []), (8, 4, 10, 3, 0, []), (11, 1, 0, 0, 0, []), (12, 3, 0, 1, 0, []), (15, 0, 1, 0, 0, []), (16, 2, 0, 0, 0, []), (17, 11, 0, 0, 0, []), (18, 16, 0, 0, 0, [])]
def tX0_takeOver : List PO := [(0, 1, 1, 0, 0, []), (1, 3, 0, 0, 0, []), (4, 2, 0, 0, 0, []), (5, 1, 0, 0, 0, []), (6, 3, 0, 0, 0, []), (9, 2, 0, 0, 0, []), (10, 2, 0, 0, 120, []), (12, 37, 0, 0, 0, []), (15, 1, 1, 0, 0, []), (16, 3, 0, 1, 0, []), (19, 2, 0, 0, 0, []), (20, 1, 0, 0, 0, []), (21, 3, 0, 1, 0, []), (24, 2, 0, 0, 0, []), (25, 2, 0, 0, 144, []), (28, 37, 0, 0, 0, []), (31, 1, 0, 0, 0, []), (32, 1, 1, 0, 0, []), (33, 3, 0, 2, 0, []), (36, 19, 0, 2, 0, []), (39, 1, 0, 0, 0, []), (40, 1, 1, 0, 0, []), (41, 3, 0, 3, 0, []), (44, 19, 0, 3, 0, []), (47, 1, 0, 0, 0, []), (48, 1, 1, 0, 0, []), (49, 3, 0, 4, 0, []), (52, 19, 0, 4, 0, []), (55, 1, 0, 0, 0, []), (56, 1, 1, 0, 0, []), (57, 3, 0, 5, 0, []), (60, 19, 0, 5, 0, []), (63, 1, 0, 0, 0, []), (64, 1, 1, 0, 0, []), (65, 3, 0, 6, 0, []), (68, 19, 0, 6, 0, []), (71, 1, 0, 0, 0, []), (72, 1, 1, 0, 0, []), (73, 3, 0, 7, 0, []), (76, 19, 0, 7, 0, []), (79, 1, 0, 0, 0, []), (80, 1, 1, 0, 0, []), (81, 3, 0, 8, 0, []), (84, 19, 0, 8, 0, []), (87, 1, 0, 0, 0, []), (88, 1, 1, 0, 0, []), (89, 3, 0, 9, 0, []), (92, 19, 0, 9, 0, []), (95, 16, 0, 0, 0, [])]
def tX0_thinMark : List PO := [(0, 1, 0, 0, 0, []), (1, 0, 1, 0, 0, []), (2, 12, 6, 1, 0, [0]), (5, 10, 19, 0, 0, []), (8, 1, 0, 0, 0, []), (9, 0, 1, 0, 0, []), (10, 12, 15, 1, 0, [0]), (13, 2, 0, 0, 1, []), (14, 4, 19, 5, 0, []), (17, 1, 0, 0, 0, []), (18, 3, 0, 1, 0, []), (21, 0, 1, 0, 0, []), (22, 22, 0, 0, 0, []), (23, 5, 0, 0, 0, []), (24, 1, 0, 0, 0, []), (25, 0, 1, 0, 0, []), (26, 12, 7, 1, 0, [0]), (29, 6, 1, 0, 0, []), (30, 11, 0, 0, 0, []), (31, 16, 0, 0, 0, [])]
def tX1_comes : List PO := [(0, 1, 0, 0, 0, []), (1, 0, 1, 0, 0, []), (2, 2, 0, 0, (-1), []), (3, 12, 12, 2, 0, [1]), (6, 2, 0, 0, 500, []), (9, 2, 0, 0, 50, []), (11, 1, 0, 0, 0, []), (12, 3, 1, 0, 0, []), (15, 0, 1, 0, 0, []), (16, 2, 0, 0, 3, []), (17, 12, 13, 2, 0, [0]), (20, 6, 2, 0, 0, []), (21, 6, 0, 0, 0, []), (22, 7, 2, 0, 0, []), (23, 1, 0, 0, 0, []), (24, 3, 1, 1, 0, []), (27, 2, 0, 0, 0, []), (28, 25, 0, 0, 0, []), (29, 2, 0, 0, 300, []), (32, 0, 2, 0, 0, []), (33, 1, 0, 0, 0, []), (34, 3, 1, 3, 0, []), (37, 1, 0, 0, 0, []), (38, 3, 1, 4, 0, []), (41, 12, 17, 4, 0, [8]), (44, 2, 0, 0, 1000, []), (47, 13, 22, 2, 0, []), (50, 14, 0, 0, 0, [])]
def tX1_happens : List PO := [(0, 1, 0, 0, 0, []), (1, 3, 1, 2, 0, []), (4, 34, 10, 0, 0, []), (7, 0, 1, 0, 0, []), (8, 2, 0, 0, 500, []), (11, 4, 8, 2, 0, []), (14, 2, 0, 0, 1, []), (15, 9, 9, 0, 0, []), (18, 2, 0, 0, 0, []), (19, 15, 0, 0, 0, []), (20, 0, 1, 0, 0, []), (21, 10, 19, 5, 0, []), (24, 1, 0, 0, 0, []), (25, 3, 1, 0, 0, []), (28, 12, 83, 0, 0, [0]), (31, 0, 1, 0, 0, []), (32, 4, 19, 3, 0, []), (35, 2, 0, 0, 1, []), (36, 9, 20, 0, 0, []), (39, 2, 0, 0, 0, []), (40, 15, 0, 0, 0, [])]
def tX1_leaveThumb : List PO := [(0, 1, 0, 0, 0, []), (1, 3, 1, 0, 0, []), (4, 0, 1, 0, 0, []), (5, 2, 0, 0, 2, []), (6, 12, 13, 2, 0, [0]), (9, 7, 3, 0, 0, []), (10, 2, 0, 0, 0, []), (11, 7, 4, 0, 0, []), (13, 0, 4, 0, 0, []), (15, 0, 3, 0, 0, []), (16, 4, 25, 3, 0, []), (19, 0, 4, 0, 0, []), (21, 2, 0, 0, 11, []), (23, 4, 25, 3, 0, []), (26, 1, 0, 0, 0, []), (27, 3, 1, 0, 0, []), (30, 0, 4, 0, 0, []), (32, 2, 0, 0, 12, []), (34, 6, 2, 0, 0, []), (35, 0, 2, 0, 0, []), (36, 6, 0, 0, 0, []), (37, 12, 6, 1, 0, [0]), (40, 10, 25, 0, 0, []), (43, 8, 4, 0, 1, []), (46, 9, 8, 0, 0, []), (49, 0, 4, 0, 0, []), (51, 2, 0, 0, 12, []), (53, 6, 2, 0, 0, []), (54, 0, 2, 0, 0, []), (55, 6, 0, 0, 0, []), (56, 7, 5, 0, 0, []), (58, 1, 0, 0, 0, []), (59, 3, 1, 0, 0, []), (62, 0, 5, 0, 0, []), (64, 12, 6, 1, 0, [0]), (67, 10, 38, 0, 0, []), (70, 2, 0, 0, 1, []), (71, 9, 39, 0, 0, []), (74, 2, 0, 0, 0, []), (75, 7, 6, 0, 0, []), (77, 2, 0, 0, 1, []), (78, 1, 0, 0, 0, []), (79, 3, 1, 0, 0, []), (82, 0, 1, 0, 0, []), (83, 2, 0, 0, 3, []), (84, 12, 13, 2, 0, [0]), (87, 2, 0, 0, 2, []), (88, 17, 0, 0, 0, []), (89, 6, 0, 0, 0, []), (90, 2, 0, 0, 9, []), (92, 28, 0, 0, 0, []), (95, 7, 7, 0, 0, []), (97, 1, 0, 0, 0, []), (98, 3, 1, 0, 0, []), (101, 0, 5, 0, 0, []), (103, 0, 1, 0, 0, []), (104, 1, 0, 0, 0, []), (105, 3, 1, 0, 0, []), (108, 0, 1, 0, 0, []), (109, 2, 0, 0, 1, []), (110, 12, 13, 2, 0, [0]), (113, 0, 7, 0, 0, []), (115, 12, 86, 4, 0, [0]), (118, 1, 0, 0, 0, []), (119, 3, 1, 0, 0, []), (122, 0, 1, 0, 0, []), (123, 2, 0, 0, 5, []), (124, 1, 0, 0, 0, []), (125, 3, 1, 0, 0, []), (128, 0, 1, 0, 0, []), (129, 2, 0, 0, 5, []), (130, 12, 13, 2, 0, [0]), (133, 2, 0, 0, 1, []), (134, 6, 0, 0, 0, []), (135, 12, 87, 3, 0, [0]), (138, 1, 0, 0, 0, []), (139, 0, 6, 0, 0, []), (141, 0, 1, 0, 0, []), (142, 0, 5, 0, 0, []), (144, 12, 97, 3, 0, [1]), (147, 0, 5, 0, 0, []), (149, 14, 0, 0, 0, [])]
def tX1_meltAll : List PO := [(0, 2, 0, 0, 0, []), (1, 7, 1, 0, 0, []), (2, 0, 1, 0, 0, []), (3, 2, 0, 0, 144, []), (6, 4, 33, 3, 0, []), (9, 1, 0, 0, 0, []), (10, 3, 1, 0, 0, []), (13, 0, 1, 0, 0, []), (14, 12, 6, 1, 0, [0]), (17, 10, 31, 0, 0, []), (20, 1, 0, 0, 0, []), (21, 1, 0, 0, 0, []), (22, 0, 1, 0, 0, []), (23, 12, 96, 1, 0, [1]), (26, 12, 93, 1, 0, [1]), (29, 10, 31, 0, 0, []), (32, 1, 0, 0, 0, []), (33, 3, 1, 0, 0, []), (36, 0, 1, 0, 0, []), (37, 12, 15, 1, 0, [0]), (40, 2, 0, 0, 1, []), (41, 4, 27, 5, 0, []), (44, 1, 0, 0, 0, []), (45, 3, 1, 0, 0, []), (48, 0, 1, 0, 0, []), (49, 12, 91, 1, 0, [0]), (52, 9, 31, 0, 0, []), (55, 1, 0, 0, 0, []), (56, 0, 1, 0, 0, []), (57, 2, 0, 0, 2, []), (58, 12, 101, 2, 0, [1]), (61, 8, 1, 0, 1, []), (64, 9, 2, 0, 0, []), (67, 16, 0, 0, 0, [])]
def tX1_melts : List PO := [(0, 1, 0, 0, 0, []), (1, 1, 0, 0, 0, []), (2, 3, 1, 0, 0, []), (5, 0, 1, 0, 0, []), (6, 12, 11, 1, 0, [0]), (9, 0, 1, 0, 0, []), (10, 12, 12, 2, 0, [1]), (13, 2, 0, 0, 100, []), (15, 1, 0, 0, 0, []), (16, 3, 1, 0, 0, []), (19, 3, 0, 3, 0, []), (22, 6, 2, 0, 0, []), (23, 2, 0, 0, 50, []), (25, 1, 0, 0, 0, []), (26, 3, 1, 0, 0, []), (29, 0, 1, 0, 0, []), (30, 12, 15, 1, 0, [0]), (33, 6, 2, 0, 0, []), (34, 6, 1, 0, 0, []), (35, 7, 2, 0, 0, []), (36, 1, 0, 0, 0, []), (37, 3, 1, 1, 0, []), (40, 2, 0, 0, 0, []), (41, 25, 0, 0, 0, []), (42, 2, 0, 0, 301, []), (45, 0, 2, 0, 0, []), (46, 1, 0, 0, 0, []), (47, 3, 1, 3, 0, []), (50, 1, 0, 0, 0, []), (51, 3, 1, 4, 0, []), (54, 12, 17, 4, 0, [8]), (57, 2, 0, 0, 1000, []), (60, 13, 22, 2, 0, []), (63, 14, 0, 0, 0, [])]
def tX1_note : List PO := [(0, 1, 0, 0, 0, []), (1, 3, 1, 2, 0, []), (4, 33, 17, 0, 0, []), (7, 1, 0, 0, 0, []), (8, 3, 1, 0, 0, []), (11, 1, 0, 0, 0, []), (12, 3, 1, 2, 0, []), (15, 1, 0, 0, 0, []), (16, 3, 1, 0, 0, []), (19, 3, 0, 9, 0, []), (22, 1, 0, 0, 0, []), (23, 3, 1, 0, 0, []), (26, 0, 1, 0, 0, []), (27, 0, 2, 0, 0, []), (28, 0, 3, 0, 0, []), (29, 12, 105, 5, 0, [3]), (32, 19, 0, 9, 0, []), (35, 16, 0, 0, 0, [])]
def tX1_oneHour : List PO := [(0, 1, 0, 0, 0, []), (1, 12, 100, 0, 0, [1]), (4, 1, 0, 0, 0, []), (5, 12, 102, 0, 0, [1]), (8, 7, 1, 0, 0, []), (9, 1, 0, 0, 0, []), (10, 12, 95, 0, 0, [1]), (13, 1, 0, 0, 0, []), (14, 3, 1, 0, 0, []), (17, 3, 0, 4, 0, []), (20, 2, 0, 0, 11, []), (22, 4, 20, 3, 0, []), (25, 1, 0, 0, 0, []), (26, 3, 1, 0, 0, []), (29, 21, 0, 0, 0, []), (30, 3, 0, 4, 0, []), (33, 2, 0, 0, 1, []), (34, 6, 0, 0, 0, []), (35, 19, 0, 4, 0, []), (38, 9, 22, 0, 0, []), (41, 1, 0, 0, 0, []), (42, 12, 99, 0, 0, [1]), (45, 0, 1, 0, 0, []), (46, 14, 0, 0, 0, [])]
def tX1_readDoor : List PO := [(0, 1, 0, 0, 0, []), (1, 12, 5, 0, 0, [1]), (4, 7, 1, 0, 0, []), (5, 0, 1, 0, 0, []), (6, 10, 13, 5, 0, []), (9, 1, 0, 0, 0, []), (10, 3, 1, 0, 0, []), (13, 21, 0, 0, 0, []), (14, 3, 0, 6, 0, []), (17, 2, 0, 0, 1, []), (18, 6, 0, 0, 0, []), (19, 19, 0, 6, 0, []), (22, 9, 20, 0, 0, []), (25, 1, 0, 0, 0, []), (26, 3, 1, 0, 0, []), (29, 21, 0, 0, 0, []), (30, 3, 0, 7, 0, []), (33, 2, 0, 0, 1, []), (34, 6, 0, 0, 0, []), (35, 19, 0, 7, 0, []), (38, 1, 0, 0, 0, []), (39, 2, 0, 0, 4, []), (40, 2, 0, 0, (-1), []), (41, 0, 1, 0, 0, []), (42, 12, 97, 3, 0, [1]), (45, 1, 0, 0, 0, []), (46, 3, 1, 0, 0, []), (49, 12, 88, 0, 0, [0]), (52, 1, 0, 0, 0, []), (53, 3, 1, 0, 0, []), (56, 2, 0, 0, 0, []), (57, 19, 0, 4, 0, []), (60, 1, 0, 0, 0, []), (61, 3, 1, 0, 0, []), (64, 21, 0, 0, 0, []), (65, 3, 0, 5, 0, []), (68, 2, 0, 0, 1, []), (69, 6, 0, 0, 0, []), (70, 19, 0, 5, 0, []), (73, 16, 0, 0, 0, [])]
def tX1_skyOfHour : List PO := [(0, 1, 0, 0, 0, []), (1, 3, 1, 1, 0, []), (4, 2, 0, 0, 2, []), (5, 25, 0, 0, 0, []), (6, 31, 1, 0, 0, []), (7, 2, 0, 0, 0, []), (8, 7, 2, 0, 0, []), (9, 0, 2, 0, 0, []), (10, 1, 1, 0, 0, []), (11, 3, 8, 1, 0, []), (14, 4, 75, 3, 0, []), (17, 1, 1, 0, 0, []), (18, 0, 2, 0, 0, []), (19, 2, 0, 0, 0, []), (20, 12, 18, 2, 0, [8]), (23, 1, 0, 0, 0, []), (24, 3, 1, 0, 0, []), (27, 3, 0, 5, 0, []), (30, 4, 73, 1, 0, []), (33, 1, 1, 0, 0, []), (34, 0, 2, 0, 0, []), (35, 2, 0, 0, 2, []), (36, 12, 18, 2, 0, [8]), (39, 1, 0, 0, 0, []), (40, 3, 1, 0, 0, []), (43, 3, 0, 4, 0, []), (46, 4, 73, 1, 0, []), (49, 1, 1, 0, 0, []), (50, 0, 2, 0, 0, []), (51, 2, 0, 0, 1, []), (52, 12, 18, 2, 0, [8]), (55, 7, 3, 0, 0, []), (56, 0, 3, 0, 0, []), (57, 2, 0, 0, 303, []), (60, 4, 48, 1, 0, []), (63, 1, 0, 0, 0, []), (64, 3, 1, 0, 0, []), (67, 1, 1, 0, 0, []), (68, 0, 2, 0, 0, []), (69, 2, 0, 0, 3, []), (70, 12, 18, 2, 0, [8]), (73, 2, 0, 0, 1, []), (74, 1, 1, 0, 0, []), (75, 0, 2, 0, 0, []), (76, 2, 0, 0, 4, []), (77, 12, 18, 2, 0, [8]), (80, 12, 87, 3, 0, [0]), (83, 9, 73, 0, 0, []), (86, 0, 3, 0, 0, []), (87, 2, 0, 0, 307, []), (90, 4, 59, 1, 0, []), (93, 1, 0, 0, 0, []), (94, 3, 1, 0, 0, []), (97, 1, 1, 0, 0, []), (98, 0, 2, 0, 0, []), (99, 2, 0, 0, 3, []), (100, 12, 18, 2, 0, [8]), (103, 19, 0, 3, 0, []), (106, 9, 73, 0, 0, []), (109, 1, 0, 0, 0, []), (110, 1, 1, 0, 0, []), (111, 0, 2, 0, 0, []), (112, 2, 0, 0, 4, []), (113, 12, 18, 2, 0, [8]), (116, 2, 0, 0, 12, []), (118, 6, 2, 0, 0, []), (119, 1, 1, 0, 0, []), (120, 0, 2, 0, 0, []), (121, 2, 0, 0, 3, []), (122, 12, 18, 2, 0, [8]), (125, 6, 0, 0, 0, []), (126, 2, 0, 0, 3, []), (127, 12, 101, 2, 0, [1]), (130, 8, 2, 0, 1, []), (133, 9, 7, 0, 0, []), (136, 16, 0, 0, 0, [])]
def tX1_takeAway : List PO := [(0, 1, 0, 0, 0, []), (1, 3, 1, 0, 0, []), (4, 0, 1, 0, 0, []), (5, 12, 6, 1, 0, [0]), (8, 10, 19, 0, 0, []), (11, 1, 0, 0, 0, []), (12, 3, 1, 0, 0, []), (15, 0, 1, 0, 0, []), (16, 12, 11, 1, 0, [0]), (19, 7, 3, 0, 0, []), (20, 1, 0, 0, 0, []), (21, 3, 1, 0, 0, []), (24, 0, 1, 0, 0, []), (25, 12, 89, 1, 0, [0]), (28, 1, 0, 0, 0, []), (29, 0, 2, 0, 0, []), (30, 0, 3, 0, 0, []), (31, 0, 1, 0, 0, []), (32, 12, 97, 3, 0, [1]), (35, 16, 0, 0, 0, [])]
def tX1_thumbsOfHour : List PO := [(0, 1, 0, 0, 0, []), (1, 3, 1, 1, 0, []), (4, 2, 0, 0, 1, []), (5, 25, 0, 0, 0, []), (6, 31, 1, 0, 0, []), (7, 2, 0, 0, 0, []), (8, 7, 2, 0, 0, []), (9, 2, 0, 0, 0, []), (10, 7, 3, 0, 0, []), (11, 0, 3, 0, 0, []), (12, 1, 1, 0, 0, []), (13, 3, 8, 1, 0, []), (16, 4, 48, 3, 0, []), (19, 1, 1, 0, 0, []), (20, 0, 3, 0, 0, []), (21, 2, 0, 0, 0, []), (22, 12, 18, 2, 0, [8]), (25, 7, 4, 0, 0, []), (27, 1, 1, 0, 0, []), (28, 0, 3, 0, 0, []), (29, 2, 0, 0, 1, []), (30, 12, 18, 2, 0, [8]), (33, 1, 0, 0, 0, []), (34, 3, 1, 0, 0, []), (37, 3, 0, 4, 0, []), (40, 4, 46, 1, 0, []), (43, 1, 0, 0, 0, []), (44, 3, 1, 0, 0, []), (47, 0, 4, 0, 0, []), (49, 12, 84, 1, 0, [0]), (52, 10, 46, 0, 0, []), (55, 1, 0, 0, 0, []), (56, 1, 0, 0, 0, []), (57, 0, 4, 0, 0, []), (59, 12, 92, 1, 0, [1]), (62, 12, 93, 1, 0, [1]), (65, 10, 46, 0, 0, []), (68, 1, 0, 0, 0, []), (69, 0, 4, 0, 0, []), (71, 1, 1, 0, 0, []), (72, 0, 3, 0, 0, []), (73, 2, 0, 0, 2, []), (74, 12, 18, 2, 0, [8]), (77, 12, 94, 2, 0, [1]), (80, 23, 0, 0, 0, []), (81, 8, 2, 0, 1, []), (84, 8, 3, 0, 1, []), (87, 9, 9, 0, 0, []), (90, 0, 2, 0, 0, []), (91, 14, 0, 0, 0, [])]
def tX3_number : List PO := [(0, 0, 1, 0, 0, []), (1, 10, 12, 2, 0, []), (4, 0, 1, 0, 0, []), (5, 2, 0, 0, 150, []), (8, 4, 12, 3, 0, []), (11, 0, 2, 0, 0, []), (12, 10, 12, 2, 0, []), (15, 0, 2, 0, 0, []), (16, 2, 0, 0, 5, []), (17, 4, 12, 3, 0, []), (20, 2, 0, 0, 1, []), (21, 9, 13, 0, 0, []), (24, 2, 0, 0, 0, []), (25, 7, 3, 0, 0, []), (26, 0, 3, 0, 0, []), (27, 10, 25, 0, 0, []), (30, 1, 0, 0, 0, []), (31, 3, 3, 0, 0, []), (34, 0, 1, 0, 0, []), (35, 2, 0, 0, 5, []), (36, 6, 2, 0, 0, []), (37, 0, 2, 0, 0, []), (38, 6, 0, 0, 0, []), (39, 5, 0, 0, 0, []), (40, 9, 26, 0, 0, []), (43, 2, 0, 0, 0, []), (44, 14, 0, 0, 0, [])]
def tX3_takePages : List PO := [(0, 1, 1, 0, 0, []), (1, 3, 3, 0, 0, []), (4, 2, 0, 0, 0, []), (5, 1, 0, 0, 0, []), (6, 3, 3, 0, 0, []), (9, 2, 0, 0, 0, []), (10, 2, 0, 0, 750, []), (13, 37, 0, 0, 0, []), (16, 16, 0, 0, 0, [])]
def tX3_write : List PO := [(0, 0, 1, 0, 0, []), (1, 10, 5, 2, 0, []), (4, 0, 1, 0, 0, []), (5, 2, 0, 0, 150, []), (8, 4, 7, 2, 0, []), (11, 0, 1, 0, 0, []), (12, 14, 0, 0, 0, []), (13, 0, 1, 0, 0, []), (14, 2, 0, 0, 5, []), (15, 6, 2, 0, 0, []), (16, 7, 6, 0, 0, []), (18, 1, 0, 0, 0, []), (19, 3, 3, 0, 0, []), (22, 0, 6, 0, 0, []), (24, 1, 2, 0, 0, []), (25, 3, 0, 5, 0, []), (28, 11, 0, 0, 0, []), (29, 1, 0, 0, 0, []), (30, 3, 3, 0, 0, []), (33, 0, 6, 0, 0, []), (35, 2, 0, 0, 1, []), (36, 6, 0, 0, 0, []), (37, 1, 2, 0, 0, []), (38, 3, 0, 4, 0, []), (41, 11, 0, 0, 0, []), (42, 1, 0, 0, 0, []), (43, 3, 3, 0, 0, []), (46, 0, 6, 0, 0, []), (48, 2, 0, 0, 2, []), (49, 6, 0, 0, 0, []), (50, 0, 3, 0, 0, []), (51, 11, 0, 0, 0, []), (52, 1, 0, 0, 0, []), (53, 3, 3, 0, 0, []), (56, 0, 6, 0, 0, []), (58, 2, 0, 0, 3, []), (59, 6, 0, 0, 0, []), (60, 0, 4, 0, 0, []), (62, 11, 0, 0, 0, []), (63, 1, 0, 0, 0, []), (64, 3, 3, 0, 0, []), (67, 0, 6, 0, 0, []), (69, 2, 0, 0, 4, []), (70, 6, 0, 0, 0, []), (71, 0, 5, 0, 0, []), (73, 11, 0, 0, 0, []), (74, 0, 1, 0, 0, []), (75, 2, 0, 0, 1, []), (76, 6, 0, 0, 0, []), (77, 14, 0, 0, 0, [])]
def tX4_farFromMiddle : List PO := [(0, 1, 0, 0, 0, []), (1, 1, 1, 0, 0, []), (2, 12, 109, 1, 0, [4]), (5, 7, 2, 0, 0, []), (6, 2, 0, 0, 0, []), (7, 7, 3, 0, 0, []), (8, 2, 0, 0, 0, []), (9, 7, 4, 0, 0, []), (11, 0, 4, 0, 0, []), (13, 1, 1, 0, 0, []), (14, 3, 9, 1, 0, []), (17, 4, 23, 3, 0, []), (20, 0, 3, 0, 0, []), (21, 1, 1, 0, 0, []), (22, 0, 4, 0, 0, []), (24, 12, 3, 1, 0, [9]), (27, 0, 2, 0, 0, []), (28, 6, 1, 0, 0, []), (29, 29, 0, 0, 0, []), (32, 6, 0, 0, 0, []), (33, 7, 3, 0, 0, []), (34, 8, 4, 0, 1, []), (37, 9, 8, 0, 0, []), (40, 0, 3, 0, 0, []), (41, 14, 0, 0, 0, [])]
def tX4_goTogether : List PO := [(0, 2, 0, 0, 0, []), (1, 7, 2, 0, 0, []), (2, 0, 2, 0, 0, []), (3, 1, 0, 0, 0, []), (4, 3, 9, 1, 0, []), (7, 4, 31, 3, 0, []), (10, 2, 0, 0, 1, []), (11, 1, 0, 0, 0, []), (12, 0, 2, 0, 0, []), (13, 12, 3, 1, 0, [9]), (16, 2, 0, 0, 256, []), (19, 17, 0, 0, 0, []), (20, 6, 6, 0, 0, []), (21, 2, 0, 0, 1, []), (22, 1, 0, 0, 0, []), (23, 0, 2, 0, 0, []), (24, 12, 3, 1, 0, [9]), (27, 2, 0, 0, 256, []), (30, 18, 0, 0, 0, []), (31, 6, 6, 0, 0, []), (32, 6, 4, 0, 0, []), (33, 7, 3, 0, 0, []), (34, 0, 1, 0, 0, []), (35, 0, 3, 0, 0, []), (36, 6, 3, 0, 0, []), (37, 0, 3, 0, 0, []), (38, 4, 29, 1, 0, []), (41, 2, 0, 0, 0, []), (42, 15, 0, 0, 0, []), (43, 8, 2, 0, 1, []), (46, 9, 2, 0, 0, []), (49, 2, 0, 0, 1, []), (50, 15, 0, 0, 0, [])]
def tX4_lastParish : List PO := [(0, 2, 0, 0, (-1), []), (1, 7, 3, 0, 0, []), (2, 2, 0, 0, 0, []), (3, 7, 4, 0, 0, []), (5, 0, 4, 0, 0, []), (7, 0, 1, 0, 0, []), (8, 4, 60, 3, 0, []), (11, 0, 1, 0, 0, []), (12, 1, 0, 0, 0, []), (13, 3, 4, 0, 0, []), (16, 24, 0, 0, 0, []), (17, 4, 60, 3, 0, []), (20, 1, 0, 0, 0, []), (21, 3, 4, 0, 0, []), (24, 0, 4, 0, 0, []), (26, 5, 0, 0, 0, []), (27, 2, 0, 0, (-1), []), (28, 4, 58, 0, 0, []), (31, 2, 0, 0, 2, []), (32, 1, 0, 0, 0, []), (33, 3, 4, 1, 0, []), (36, 0, 1, 0, 0, []), (37, 5, 0, 0, 0, []), (38, 1, 0, 0, 0, []), (39, 3, 4, 1, 0, []), (42, 0, 4, 0, 0, []), (44, 5, 0, 0, 0, []), (45, 6, 1, 0, 0, []), (46, 6, 2, 0, 0, []), (47, 0, 1, 0, 0, []), (48, 0, 4, 0, 0, []), (50, 6, 1, 0, 0, []), (51, 4, 35, 5, 0, []), (54, 2, 0, 0, 1, []), (55, 9, 36, 0, 0, []), (58, 2, 0, 0, 0, []), (59, 7, 5, 0, 0, []), (61, 1, 0, 0, 0, []), (62, 3, 4, 0, 0, []), (65, 0, 4, 0, 0, []), (67, 5, 0, 0, 0, []), (68, 0, 5, 0, 0, []), (70, 6, 0, 0, 0, []), (71, 7, 6, 0, 0, []), (73, 0, 3, 0, 0, []), (74, 2, 0, 0, (-1), []), (75, 4, 56, 0, 0, []), (78, 0, 2, 0, 0, []), (79, 10, 53, 0, 0, []), (82, 0, 6, 0, 0, []), (84, 0, 3, 0, 0, []), (85, 4, 58, 5, 0, []), (88, 9, 56, 0, 0, []), (91, 0, 6, 0, 0, []), (93, 0, 3, 0, 0, []), (94, 4, 58, 3, 0, []), (97, 0, 6, 0, 0, []), (99, 7, 3, 0, 0, []), (100, 8, 4, 0, 1, []), (103, 9, 4, 0, 0, []), (106, 0, 3, 0, 0, []), (107, 14, 0, 0, 0, [])]
def tX4_middleOf : List PO := [(0, 1, 1, 0, 0, []), (1, 3, 9, 1, 0, []), (4, 2, 0, 0, 1, []), (5, 6, 0, 0, 0, []), (6, 2, 0, 0, 2, []), (7, 17, 0, 0, 0, []), (8, 7, 2, 0, 0, []), (9, 0, 2, 0, 0, []), (10, 10, 11, 1, 0, []), (13, 2, 0, 0, (-1), []), (14, 14, 0, 0, 0, []), (15, 2, 0, 0, 0, []), (16, 7, 3, 0, 0, []), (17, 0, 3, 0, 0, []), (18, 2, 0, 0, 99, []), (20, 4, 44, 4, 0, []), (23, 2, 0, 0, 0, []), (24, 7, 4, 0, 0, []), (26, 2, 0, 0, 0, []), (27, 7, 5, 0, 0, []), (29, 0, 5, 0, 0, []), (31, 1, 1, 0, 0, []), (32, 3, 9, 1, 0, []), (35, 4, 37, 3, 0, []), (38, 0, 4, 0, 0, []), (40, 1, 1, 0, 0, []), (41, 0, 5, 0, 0, []), (43, 12, 3, 1, 0, [9]), (46, 0, 3, 0, 0, []), (47, 4, 32, 4, 0, []), (50, 2, 0, 0, 1, []), (51, 9, 33, 0, 0, []), (54, 2, 0, 0, 0, []), (55, 6, 0, 0, 0, []), (56, 7, 4, 0, 0, []), (58, 8, 5, 0, 1, []), (61, 9, 20, 0, 0, []), (64, 0, 4, 0, 0, []), (66, 0, 2, 0, 0, []), (67, 4, 42, 2, 0, []), (70, 0, 3, 0, 0, []), (71, 14, 0, 0, 0, []), (72, 8, 3, 0, 1, []), (75, 9, 13, 0, 0, []), (78, 2, 0, 0, (-1), []), (79, 14, 0, 0, 0, [])]
def tX4_moreThanHalf : List PO := [(0, 2, 0, 0, 0, []), (1, 7, 2, 0, 0, []), (2, 0, 2, 0, 0, []), (3, 2, 0, 0, 9, []), (5, 4, 17, 4, 0, []), (8, 2, 0, 0, 2, []), (9, 1, 1, 0, 0, []), (10, 0, 2, 0, 0, []), (11, 13, 117, 2, 0, []), (14, 6, 2, 0, 0, []), (15, 1, 1, 0, 0, []), (16, 3, 9, 1, 0, []), (19, 4, 15, 5, 0, []), (22, 0, 2, 0, 0, []), (23, 14, 0, 0, 0, []), (24, 8, 2, 0, 1, []), (27, 9, 2, 0, 0, []), (30, 2, 0, 0, (-1), []), (31, 14, 0, 0, 0, [])]
def tX4_mostStacked : List PO := [(0, 2, 0, 0, 1, []), (1, 1, 1, 0, 0, []), (2, 3, 9, 1, 0, []), (5, 2, 0, 0, 8, []), (7, 28, 0, 0, 0, []), (10, 6, 6, 0, 0, []), (11, 7, 2, 0, 0, []), (12, 2, 0, 0, 0, []), (13, 7, 3, 0, 0, []), (14, 1, 0, 0, 0, []), (15, 3, 4, 0, 0, []), (18, 2, 0, 0, 0, []), (19, 2, 0, 0, 0, []), (20, 11, 0, 0, 0, []), (21, 2, 0, 0, 1, []), (22, 7, 4, 0, 0, []), (24, 0, 4, 0, 0, []), (26, 0, 2, 0, 0, []), (27, 4, 90, 3, 0, []), (30, 1, 0, 0, 0, []), (31, 3, 4, 0, 0, []), (34, 0, 4, 0, 0, []), (36, 2, 0, 0, (-1), []), (37, 11, 0, 0, 0, []), (38, 2, 0, 0, 0, []), (39, 7, 5, 0, 0, []), (41, 0, 5, 0, 0, []), (43, 1, 1, 0, 0, []), (44, 3, 9, 1, 0, []), (47, 4, 77, 3, 0, []), (50, 0, 4, 0, 0, []), (52, 2, 0, 0, 1, []), (53, 0, 5, 0, 0, []), (55, 6, 6, 0, 0, []), (56, 2, 0, 0, (-1), []), (57, 6, 5, 0, 0, []), (58, 6, 3, 0, 0, []), (59, 7, 6, 0, 0, []), (61, 1, 1, 0, 0, []), (62, 0, 5, 0, 0, []), (64, 12, 3, 1, 0, [9]), (67, 2, 0, 0, 256, []), (70, 17, 0, 0, 0, []), (71, 7, 7, 0, 0, []), (73, 1, 1, 0, 0, []), (74, 0, 5, 0, 0, []), (76, 12, 3, 1, 0, [9]), (79, 2, 0, 0, 256, []), (82, 18, 0, 0, 0, []), (83, 7, 8, 0, 0, []), (85, 0, 6, 0, 0, []), (87, 0, 4, 0, 0, []), (89, 4, 75, 3, 0, []), (92, 1, 0, 0, 0, []), (93, 3, 4, 0, 0, []), (96, 0, 6, 0, 0, []), (98, 5, 0, 0, 0, []), (99, 2, 0, 0, (-1), []), (100, 4, 75, 0, 0, []), (103, 1, 0, 0, 0, []), (104, 3, 4, 0, 0, []), (107, 0, 6, 0, 0, []), (109, 5, 0, 0, 0, []), (110, 0, 8, 0, 0, []), (112, 4, 75, 4, 0, []), (115, 1, 0, 0, 0, []), (116, 3, 4, 0, 0, []), (119, 0, 4, 0, 0, []), (121, 1, 0, 0, 0, []), (122, 3, 4, 0, 0, []), (125, 0, 6, 0, 0, []), (127, 5, 0, 0, 0, []), (128, 0, 7, 0, 0, []), (130, 6, 0, 0, 0, []), (131, 11, 0, 0, 0, []), (132, 8, 5, 0, 1, []), (135, 9, 26, 0, 0, []), (138, 1, 0, 0, 0, []), (139, 3, 4, 0, 0, []), (142, 0, 4, 0, 0, []), (144, 5, 0, 0, 0, []), (145, 2, 0, 0, (-1), []), (146, 4, 88, 0, 0, []), (149, 0, 3, 0, 0, []), (150, 0, 4, 0, 0, []), (152, 13, 79, 1, 0, []), (155, 27, 0, 0, 0, []), (158, 7, 3, 0, 0, []), (159, 8, 4, 0, 1, []), (162, 9, 16, 0, 0, []), (165, 0, 3, 0, 0, []), (166, 14, 0, 0, 0, [])]
def tX4_mostTold : List PO := [(0, 2, 0, 0, 0, []), (1, 7, 2, 0, 0, []), (2, 2, 0, 0, 0, []), (3, 7, 3, 0, 0, []), (4, 0, 3, 0, 0, []), (5, 2, 0, 0, 9, []), (7, 4, 15, 4, 0, []), (10, 0, 2, 0, 0, []), (11, 1, 1, 0, 0, []), (12, 0, 3, 0, 0, []), (13, 13, 117, 2, 0, []), (16, 27, 0, 0, 0, []), (19, 7, 2, 0, 0, []), (20, 8, 3, 0, 1, []), (23, 9, 4, 0, 0, []), (26, 0, 2, 0, 0, []), (27, 14, 0, 0, 0, [])]
def tX4_parishesFor : List PO := [(0, 1, 1, 0, 0, []), (1, 3, 9, 1, 0, []), (4, 1, 0, 0, 0, []), (5, 3, 4, 0, 0, []), (8, 24, 0, 0, 0, []), (9, 2, 0, 0, 1, []), (10, 6, 1, 0, 0, []), (11, 28, 0, 0, 0, []), (14, 7, 4, 0, 0, []), (16, 1, 0, 0, 0, []), (17, 3, 4, 0, 0, []), (20, 2, 0, 0, (-1), []), (21, 13, 2, 2, 0, []), (24, 1, 0, 0, 0, []), (25, 3, 4, 0, 0, []), (28, 2, 0, 0, 0, []), (29, 2, 0, 0, 0, []), (30, 11, 0, 0, 0, []), (31, 1, 0, 0, 0, []), (32, 3, 4, 1, 0, []), (35, 2, 0, 0, 0, []), (36, 2, 0, 0, 0, []), (37, 11, 0, 0, 0, []), (38, 2, 0, 0, 0, []), (39, 7, 5, 0, 0, []), (41, 0, 5, 0, 0, []), (43, 0, 4, 0, 0, []), (45, 4, 44, 3, 0, []), (48, 1, 0, 0, 0, []), (49, 3, 4, 1, 0, []), (52, 0, 5, 0, 0, []), (54, 2, 0, 0, 1, []), (55, 6, 0, 0, 0, []), (56, 1, 0, 0, 0, []), (57, 3, 4, 1, 0, []), (60, 0, 5, 0, 0, []), (62, 5, 0, 0, 0, []), (63, 1, 1, 0, 0, []), (64, 0, 5, 0, 0, []), (66, 12, 3, 1, 0, [9]), (69, 6, 0, 0, 0, []), (70, 11, 0, 0, 0, []), (71, 8, 5, 0, 1, []), (74, 9, 25, 0, 0, []), (77, 2, 0, 0, 0, []), (78, 7, 5, 0, 0, []), (80, 0, 5, 0, 0, []), (82, 0, 2, 0, 0, []), (83, 4, 65, 3, 0, []), (86, 0, 4, 0, 0, []), (88, 7, 6, 0, 0, []), (90, 0, 6, 0, 0, []), (92, 10, 63, 2, 0, []), (95, 1, 0, 0, 0, []), (96, 3, 4, 0, 0, []), (99, 0, 6, 0, 0, []), (101, 1, 0, 0, 0, []), (102, 0, 6, 0, 0, []), (104, 0, 3, 0, 0, []), (105, 12, 108, 2, 0, [4]), (108, 11, 0, 0, 0, []), (109, 8, 6, 0, (-1), []), (112, 9, 51, 0, 0, []), (115, 8, 5, 0, 1, []), (118, 9, 46, 0, 0, []), (121, 1, 0, 0, 0, []), (122, 3, 4, 0, 0, []), (125, 0, 4, 0, 0, []), (127, 5, 0, 0, 0, []), (128, 14, 0, 0, 0, [])]
def tX4_seatsOf : List PO := [(0, 1, 0, 0, 0, []), (1, 3, 4, 0, 0, []), (4, 2, 0, 0, 0, []), (5, 13, 2, 2, 0, []), (8, 2, 0, 0, 0, []), (9, 7, 5, 0, 0, []), (11, 0, 5, 0, 0, []), (13, 0, 2, 0, 0, []), (14, 4, 73, 3, 0, []), (17, 2, 0, 0, (-1), []), (18, 7, 6, 0, 0, []), (20, 2, 0, 0, 0, []), (21, 7, 7, 0, 0, []), (23, 2, 0, 0, 0, []), (24, 7, 8, 0, 0, []), (26, 0, 8, 0, 0, []), (28, 1, 1, 0, 0, []), (29, 3, 9, 1, 0, []), (32, 4, 61, 3, 0, []), (35, 0, 8, 0, 0, []), (37, 1, 0, 0, 0, []), (38, 3, 4, 0, 0, []), (41, 24, 0, 0, 0, []), (42, 4, 61, 3, 0, []), (45, 0, 3, 0, 0, []), (46, 10, 33, 1, 0, []), (49, 1, 0, 0, 0, []), (50, 3, 4, 0, 0, []), (53, 0, 8, 0, 0, []), (55, 5, 0, 0, 0, []), (56, 2, 0, 0, 1, []), (57, 6, 0, 0, 0, []), (58, 9, 41, 0, 0, []), (61, 2, 0, 0, 2, []), (62, 1, 0, 0, 0, []), (63, 3, 4, 0, 0, []), (66, 0, 8, 0, 0, []), (68, 5, 0, 0, 0, []), (69, 6, 2, 0, 0, []), (70, 2, 0, 0, 1, []), (71, 6, 0, 0, 0, []), (72, 7, 9, 0, 0, []), (74, 0, 9, 0, 0, []), (76, 10, 50, 5, 0, []), (79, 1, 1, 0, 0, []), (80, 0, 8, 0, 0, []), (82, 12, 3, 1, 0, [9]), (85, 0, 9, 0, 0, []), (87, 17, 0, 0, 0, []), (88, 9, 51, 0, 0, []), (91, 2, 0, 0, 0, []), (92, 7, 10, 0, 0, []), (94, 0, 10, 0, 0, []), (96, 0, 7, 0, 0, []), (98, 4, 59, 5, 0, []), (101, 0, 10, 0, 0, []), (103, 7, 7, 0, 0, []), (105, 0, 8, 0, 0, []), (107, 7, 6, 0, 0, []), (109, 8, 8, 0, 1, []), (112, 9, 15, 0, 0, []), (115, 0, 6, 0, 0, []), (117, 10, 71, 2, 0, []), (120, 1, 0, 0, 0, []), (121, 3, 4, 0, 0, []), (124, 0, 6, 0, 0, []), (126, 22, 0, 0, 0, []), (127, 5, 0, 0, 0, []), (128, 2, 0, 0, 1, []), (129, 6, 0, 0, 0, []), (130, 11, 0, 0, 0, []), (131, 8, 5, 0, 1, []), (134, 9, 6, 0, 0, []), (137, 0, 4, 0, 0, []), (139, 10, 85, 2, 0, []), (142, 0, 4, 0, 0, []), (144, 1, 0, 0, 0, []), (145, 3, 4, 0, 0, []), (148, 24, 0, 0, 0, []), (149, 4, 85, 3, 0, []), (152, 1, 0, 0, 0, []), (153, 3, 4, 0, 0, []), (156, 0, 4, 0, 0, []), (158, 5, 0, 0, 0, []), (159, 9, 86, 0, 0, []), (162, 2, 0, 0, 0, []), (163, 14, 0, 0, 0, [])]
def tX4_shown : List PO := [(0, 2, 0, 0, (-1), []), (1, 7, 4, 0, 0, []), (3, 2, 0, 0, 0, []), (4, 7, 5, 0, 0, []), (6, 2, 0, 0, (-1), []), (7, 7, 6, 0, 0, []), (9, 2, 0, 0, 0, []), (10, 7, 7, 0, 0, []), (12, 0, 7, 0, 0, []), (14, 1, 1, 0, 0, []), (15, 3, 9, 1, 0, []), (18, 4, 29, 3, 0, []), (21, 1, 1, 0, 0, []), (22, 0, 7, 0, 0, []), (24, 12, 3, 1, 0, [9]), (27, 7, 8, 0, 0, []), (29, 0, 8, 0, 0, []), (31, 0, 4, 0, 0, []), (33, 4, 27, 5, 0, []), (36, 0, 8, 0, 0, []), (38, 7, 4, 0, 0, []), (40, 0, 8, 0, 0, []), (42, 0, 2, 0, 0, []), (43, 4, 27, 4, 0, []), (46, 8, 5, 0, 1, []), (49, 0, 7, 0, 0, []), (51, 7, 6, 0, 0, []), (53, 8, 7, 0, 1, []), (56, 9, 8, 0, 0, []), (59, 0, 3, 0, 0, []), (60, 10, 33, 0, 0, []), (63, 0, 5, 0, 0, []), (65, 9, 34, 0, 0, []), (68, 0, 6, 0, 0, []), (70, 14, 0, 0, 0, [])]
def tX4_sums : List PO := [(0, 1, 0, 0, 0, []), (1, 3, 4, 0, 0, []), (4, 2, 0, 0, 0, []), (5, 13, 2, 2, 0, []), (8, 1, 0, 0, 0, []), (9, 3, 4, 0, 0, []), (12, 2, 0, 0, 0, []), (13, 2, 0, 0, 1, []), (14, 11, 0, 0, 0, []), (15, 2, 0, 0, 0, []), (16, 7, 4, 0, 0, []), (18, 0, 4, 0, 0, []), (20, 1, 1, 0, 0, []), (21, 3, 9, 1, 0, []), (24, 4, 47, 3, 0, []), (27, 1, 1, 0, 0, []), (28, 0, 4, 0, 0, []), (30, 12, 3, 1, 0, [9]), (33, 2, 0, 0, 1, []), (34, 27, 0, 0, 0, []), (37, 7, 5, 0, 0, []), (39, 1, 0, 0, 0, []), (40, 3, 4, 0, 0, []), (43, 24, 0, 0, 0, []), (44, 2, 0, 0, 1, []), (45, 6, 1, 0, 0, []), (46, 7, 6, 0, 0, []), (48, 0, 6, 0, 0, []), (50, 0, 5, 0, 0, []), (52, 4, 45, 2, 0, []), (55, 1, 0, 0, 0, []), (56, 3, 4, 0, 0, []), (59, 0, 6, 0, 0, []), (61, 22, 0, 0, 0, []), (62, 5, 0, 0, 0, []), (63, 1, 0, 0, 0, []), (64, 3, 4, 0, 0, []), (67, 0, 6, 0, 0, []), (69, 0, 5, 0, 0, []), (71, 6, 1, 0, 0, []), (72, 5, 0, 0, 0, []), (73, 6, 4, 0, 0, []), (74, 11, 0, 0, 0, []), (75, 8, 6, 0, (-1), []), (78, 9, 27, 0, 0, []), (81, 8, 4, 0, 1, []), (84, 9, 11, 0, 0, []), (87, 2, 0, 0, 0, []), (88, 7, 4, 0, 0, []), (90, 2, 0, 0, 0, []), (91, 7, 5, 0, 0, []), (93, 2, 0, 0, 0, []), (94, 7, 6, 0, 0, []), (96, 0, 6, 0, 0, []), (98, 0, 2, 0, 0, []), (99, 4, 72, 4, 0, []), (102, 0, 6, 0, 0, []), (104, 1, 0, 0, 0, []), (105, 3, 4, 0, 0, []), (108, 24, 0, 0, 0, []), (109, 4, 72, 3, 0, []), (112, 1, 0, 0, 0, []), (113, 3, 4, 0, 0, []), (116, 0, 6, 0, 0, []), (118, 5, 0, 0, 0, []), (119, 2, 0, 0, 1, []), (120, 4, 70, 1, 0, []), (123, 8, 4, 0, 1, []), (126, 0, 6, 0, 0, []), (128, 7, 5, 0, 0, []), (130, 8, 6, 0, 1, []), (133, 9, 53, 0, 0, []), (136, 0, 3, 0, 0, []), (137, 10, 76, 0, 0, []), (140, 0, 4, 0, 0, []), (142, 9, 77, 0, 0, []), (145, 0, 5, 0, 0, []), (147, 14, 0, 0, 0, [])]
def tX4_timesTold : List PO := [(0, 2, 0, 0, 0, []), (1, 7, 2, 0, 0, []), (2, 2, 0, 0, 0, []), (3, 7, 3, 0, 0, []), (4, 0, 3, 0, 0, []), (5, 1, 0, 0, 0, []), (6, 3, 9, 1, 0, []), (9, 4, 21, 3, 0, []), (12, 0, 2, 0, 0, []), (13, 1, 0, 0, 0, []), (14, 0, 3, 0, 0, []), (15, 12, 3, 1, 0, [9]), (18, 0, 1, 0, 0, []), (19, 4, 16, 1, 0, []), (22, 2, 0, 0, 1, []), (23, 9, 17, 0, 0, []), (26, 2, 0, 0, 0, []), (27, 6, 0, 0, 0, []), (28, 7, 2, 0, 0, []), (29, 8, 3, 0, 1, []), (32, 9, 4, 0, 0, []), (35, 0, 2, 0, 0, []), (36, 14, 0, 0, 0, [])]
def tX4_together : List PO := [(0, 2, 0, 0, (-1), []), (1, 7, 3, 0, 0, []), (2, 2, 0, 0, 0, []), (3, 7, 4, 0, 0, []), (5, 2, 0, 0, 0, []), (6, 7, 5, 0, 0, []), (8, 2, 0, 0, 0, []), (9, 7, 6, 0, 0, []), (11, 0, 6, 0, 0, []), (13, 2, 0, 0, 256, []), (16, 4, 27, 3, 0, []), (19, 1, 1, 0, 0, []), (20, 0, 6, 0, 0, []), (22, 13, 107, 2, 0, []), (25, 10, 25, 0, 0, []), (28, 8, 5, 0, 1, []), (31, 0, 6, 0, 0, []), (33, 13, 79, 1, 0, []), (36, 0, 3, 0, 0, []), (37, 4, 25, 5, 0, []), (40, 0, 6, 0, 0, []), (42, 13, 79, 1, 0, []), (45, 7, 3, 0, 0, []), (46, 0, 6, 0, 0, []), (48, 7, 4, 0, 0, []), (50, 8, 6, 0, 1, []), (53, 9, 8, 0, 0, []), (56, 0, 2, 0, 0, []), (57, 10, 31, 1, 0, []), (60, 0, 3, 0, 0, []), (61, 14, 0, 0, 0, []), (62, 0, 2, 0, 0, []), (63, 2, 0, 0, 1, []), (64, 4, 36, 1, 0, []), (67, 0, 4, 0, 0, []), (69, 9, 37, 0, 0, []), (72, 0, 5, 0, 0, []), (74, 14, 0, 0, 0, [])]
def tX5_bounded : List PO := [(0, 1, 0, 0, 0, []), (1, 3, 5, 5, 0, []), (4, 2, 0, 0, 1, []), (5, 4, 8, 0, 0, []), (8, 1, 0, 0, 0, []), (9, 2, 0, 0, 1, []), (10, 12, 138, 1, 0, [5]), (13, 15, 0, 0, 0, []), (14, 1, 0, 0, 0, []), (15, 3, 5, 6, 0, []), (18, 0, 2, 0, 0, []), (19, 4, 16, 5, 0, []), (22, 1, 0, 0, 0, []), (23, 2, 0, 0, 2, []), (24, 12, 138, 1, 0, [5]), (27, 15, 0, 0, 0, []), (28, 1, 0, 0, 0, []), (29, 0, 1, 0, 0, []), (30, 1, 0, 0, 0, []), (31, 3, 5, 6, 0, []), (34, 12, 128, 2, 0, [5]), (37, 1, 0, 0, 0, []), (38, 12, 135, 0, 0, [5]), (41, 2, 0, 0, 1, []), (42, 15, 0, 0, 0, [])]
def tX5_digit : List PO := [(0, 0, 0, 0, 0, []), (1, 2, 0, 0, 48, []), (3, 4, 8, 2, 0, []), (6, 0, 0, 0, 0, []), (7, 2, 0, 0, 57, []), (9, 4, 8, 4, 0, []), (12, 2, 0, 0, 1, []), (13, 9, 9, 0, 0, []), (16, 2, 0, 0, 0, []), (17, 15, 0, 0, 0, [])]
def tX5_emit : List PO := [(0, 1, 0, 0, 0, []), (1, 3, 5, 13, 0, []), (4, 2, 0, 0, 400, []), (7, 4, 20, 3, 0, []), (10, 1, 0, 0, 0, []), (11, 3, 5, 12, 0, []), (14, 1, 0, 0, 0, []), (15, 3, 5, 13, 0, []), (18, 0, 2, 0, 0, []), (19, 2, 0, 0, 4, []), (20, 6, 6, 0, 0, []), (21, 0, 1, 0, 0, []), (22, 6, 4, 0, 0, []), (23, 11, 0, 0, 0, []), (24, 1, 0, 0, 0, []), (25, 21, 0, 0, 0, []), (26, 3, 5, 13, 0, []), (29, 2, 0, 0, 1, []), (30, 6, 0, 0, 0, []), (31, 19, 5, 13, 0, []), (34, 16, 0, 0, 0, [])]
def tX5_emitUnit : List PO := [(0, 0, 1, 0, 0, []), (1, 2, 0, 0, 47, []), (3, 4, 5, 1, 0, []), (6, 2, 0, 0, 1, []), (7, 9, 6, 0, 0, []), (10, 2, 0, 0, 0, []), (11, 7, 2, 0, 0, []), (12, 1, 0, 0, 0, []), (13, 3, 5, 5, 0, []), (16, 2, 0, 0, 1, []), (17, 4, 30, 1, 0, []), (20, 0, 2, 0, 0, []), (21, 10, 20, 0, 0, []), (24, 1, 0, 0, 0, []), (25, 3, 5, 6, 0, []), (28, 10, 20, 1, 0, []), (31, 1, 0, 0, 0, []), (32, 2, 0, 0, 2, []), (33, 12, 138, 1, 0, [5]), (36, 15, 0, 0, 0, []), (37, 1, 0, 0, 0, []), (38, 0, 2, 0, 0, []), (39, 10, 25, 0, 0, []), (42, 2, 0, 0, 2, []), (43, 9, 26, 0, 0, []), (46, 2, 0, 0, 0, []), (47, 1, 0, 0, 0, []), (48, 3, 5, 6, 0, []), (51, 12, 121, 2, 0, [5]), (54, 9, 52, 0, 0, []), (57, 0, 2, 0, 0, []), (58, 10, 48, 1, 0, []), (61, 1, 0, 0, 0, []), (62, 3, 5, 5, 0, []), (65, 2, 0, 0, 303, []), (68, 4, 48, 2, 0, []), (71, 1, 0, 0, 0, []), (72, 3, 5, 5, 0, []), (75, 2, 0, 0, 312, []), (78, 4, 48, 4, 0, []), (81, 1, 0, 0, 0, []), (82, 2, 0, 0, 1, []), (83, 1, 0, 0, 0, []), (84, 3, 5, 5, 0, []), (87, 2, 0, 0, 303, []), (90, 6, 1, 0, 0, []), (91, 12, 121, 2, 0, [5]), (94, 9, 52, 0, 0, []), (97, 1, 0, 0, 0, []), (98, 2, 0, 0, 1, []), (99, 12, 138, 1, 0, [5]), (102, 15, 0, 0, 0, []), (103, 0, 1, 0, 0, []), (104, 2, 0, 0, 42, []), (106, 4, 59, 1, 0, []), (109, 1, 0, 0, 0, []), (110, 2, 0, 0, 6, []), (112, 2, 0, 0, 0, []), (113, 12, 121, 2, 0, [5]), (116, 2, 0, 0, 1, []), (117, 15, 0, 0, 0, [])]
def tX5_lawLine : List PO := [(0, 1, 0, 0, 0, []), (1, 2, 0, 0, 1, []), (2, 1, 0, 0, 0, []), (3, 3, 5, 13, 0, []), (6, 12, 128, 2, 0, [5]), (9, 1, 0, 0, 0, []), (10, 12, 130, 0, 0, [5]), (13, 10, 10, 1, 0, []), (16, 2, 0, 0, 0, []), (17, 15, 0, 0, 0, []), (18, 1, 0, 0, 0, []), (19, 2, 0, 0, 2, []), (20, 1, 0, 0, 0, []), (21, 3, 5, 13, 0, []), (24, 12, 128, 2, 0, [5]), (27, 1, 0, 0, 0, []), (28, 3, 5, 5, 0, []), (31, 2, 0, 0, 313, []), (34, 4, 27, 1, 0, []), (37, 1, 0, 0, 0, []), (38, 12, 135, 0, 0, [5]), (41, 1, 0, 0, 0, []), (42, 2, 0, 0, 0, []), (43, 12, 129, 1, 0, [5]), (46, 10, 27, 1, 0, []), (49, 2, 0, 0, 0, []), (50, 15, 0, 0, 0, []), (51, 1, 0, 0, 0, []), (52, 2, 0, 0, 3, []), (53, 1, 0, 0, 0, []), (54, 3, 5, 13, 0, []), (57, 12, 128, 2, 0, [5]), (60, 2, 0, 0, 1, []), (61, 15, 0, 0, 0, [])]
def tX5_letter : List PO := [(0, 0, 0, 0, 0, []), (1, 2, 0, 0, 97, []), (3, 4, 6, 2, 0, []), (6, 0, 0, 0, 0, []), (7, 2, 0, 0, 122, []), (9, 4, 12, 5, 0, []), (12, 0, 0, 0, 0, []), (13, 2, 0, 0, 65, []), (15, 4, 14, 2, 0, []), (18, 0, 0, 0, 0, []), (19, 2, 0, 0, 90, []), (21, 4, 14, 4, 0, []), (24, 2, 0, 0, 1, []), (25, 9, 15, 0, 0, []), (28, 2, 0, 0, 0, []), (29, 15, 0, 0, 0, [])]
def tX5_mindWord : List PO := [(0, 1, 0, 0, 0, []), (1, 3, 5, 5, 0, []), (4, 2, 0, 0, 322, []), (7, 4, 16, 0, 0, []), (10, 1, 0, 0, 0, []), (11, 3, 5, 5, 0, []), (14, 2, 0, 0, 323, []), (17, 4, 16, 0, 0, []), (20, 1, 0, 0, 0, []), (21, 3, 5, 5, 0, []), (24, 2, 0, 0, 324, []), (27, 4, 16, 0, 0, []), (30, 1, 0, 0, 0, []), (31, 2, 0, 0, 1, []), (32, 12, 138, 1, 0, [5]), (35, 15, 0, 0, 0, []), (36, 1, 0, 0, 0, []), (37, 3, 5, 5, 0, []), (40, 2, 0, 0, 322, []), (43, 4, 22, 1, 0, []), (46, 2, 0, 0, 1, []), (47, 9, 23, 0, 0, []), (50, 2, 0, 0, 0, []), (51, 7, 1, 0, 0, []), (52, 1, 0, 0, 0, []), (53, 2, 0, 0, 4, []), (54, 1, 0, 0, 0, []), (55, 3, 5, 5, 0, []), (58, 2, 0, 0, 323, []), (61, 4, 32, 1, 0, []), (64, 2, 0, 0, (-1), []), (65, 9, 33, 0, 0, []), (68, 0, 1, 0, 0, []), (69, 12, 128, 2, 0, [5]), (72, 1, 0, 0, 0, []), (73, 12, 135, 0, 0, [5]), (76, 2, 0, 0, 1, []), (77, 15, 0, 0, 0, [])]
def tX5_opensLine : List PO := [(0, 0, 1, 0, 0, []), (1, 10, 19, 1, 0, []), (4, 1, 0, 0, 0, []), (5, 3, 5, 5, 0, []), (8, 2, 0, 0, 300, []), (11, 4, 14, 0, 0, []), (14, 1, 0, 0, 0, []), (15, 3, 5, 5, 0, []), (18, 2, 0, 0, 301, []), (21, 4, 14, 0, 0, []), (24, 1, 0, 0, 0, []), (25, 3, 5, 5, 0, []), (28, 2, 0, 0, 302, []), (31, 4, 16, 1, 0, []), (34, 2, 0, 0, 1, []), (35, 9, 17, 0, 0, []), (38, 2, 0, 0, 0, []), (39, 7, 2, 0, 0, []), (40, 9, 32, 0, 0, []), (43, 1, 0, 0, 0, []), (44, 3, 5, 5, 0, []), (47, 0, 1, 0, 0, []), (48, 2, 0, 0, 2, []), (49, 4, 26, 1, 0, []), (52, 2, 0, 0, 320, []), (55, 9, 27, 0, 0, []), (58, 2, 0, 0, 317, []), (61, 4, 30, 1, 0, []), (64, 2, 0, 0, 1, []), (65, 9, 31, 0, 0, []), (68, 2, 0, 0, 0, []), (69, 7, 2, 0, 0, []), (70, 0, 2, 0, 0, []), (71, 10, 38, 1, 0, []), (74, 1, 0, 0, 0, []), (75, 2, 0, 0, 1, []), (76, 12, 138, 1, 0, [5]), (79, 15, 0, 0, 0, []), (80, 1, 0, 0, 0, []), (81, 3, 5, 11, 0, []), (84, 2, 0, 0, 16, []), (86, 4, 46, 2, 0, []), (89, 1, 0, 0, 0, []), (90, 2, 0, 0, 3, []), (91, 12, 138, 1, 0, [5]), (94, 15, 0, 0, 0, []), (95, 1, 0, 0, 0, []), (96, 2, 0, 0, 0, []), (97, 1, 0, 0, 0, []), (98, 3, 5, 5, 0, []), (101, 12, 128, 2, 0, [5]), (104, 1, 0, 0, 0, []), (105, 12, 135, 0, 0, [5]), (108, 2, 0, 0, 1, []), (109, 15, 0, 0, 0, [])]
def tX5_plainLine : List PO := [(0, 0, 1, 0, 0, []), (1, 2, 0, 0, 2, []), (2, 4, 15, 1, 0, []), (5, 1, 0, 0, 0, []), (6, 2, 0, 0, 0, []), (7, 2, 0, 0, 999, []), (10, 12, 119, 2, 0, [5]), (13, 10, 13, 0, 0, []), (16, 1, 0, 0, 0, []), (17, 12, 134, 0, 0, [5]), (20, 10, 13, 0, 0, []), (23, 2, 0, 0, 1, []), (24, 9, 14, 0, 0, []), (27, 2, 0, 0, 0, []), (28, 15, 0, 0, 0, []), (29, 1, 0, 0, 0, []), (30, 3, 5, 6, 0, []), (33, 7, 2, 0, 0, []), (34, 1, 0, 0, 0, []), (35, 2, 0, 0, 0, []), (36, 1, 0, 0, 0, []), (37, 3, 5, 9, 0, []), (40, 2, 0, 0, 1, []), (41, 6, 1, 0, 0, []), (42, 12, 119, 2, 0, [5]), (45, 10, 28, 1, 0, []), (48, 2, 0, 0, 0, []), (49, 15, 0, 0, 0, []), (50, 0, 1, 0, 0, []), (51, 2, 0, 0, 1, []), (52, 4, 53, 1, 0, []), (55, 1, 0, 0, 0, []), (56, 2, 0, 0, 318, []), (59, 12, 133, 1, 0, [5]), (62, 10, 51, 0, 0, []), (65, 1, 0, 0, 0, []), (66, 2, 0, 0, 1, []), (67, 2, 0, 0, 11, []), (69, 12, 119, 2, 0, [5]), (72, 10, 51, 0, 0, []), (75, 1, 0, 0, 0, []), (76, 2, 0, 0, 319, []), (79, 12, 133, 1, 0, [5]), (82, 10, 51, 0, 0, []), (85, 1, 0, 0, 0, []), (86, 2, 0, 0, 2, []), (87, 2, 0, 0, 11, []), (89, 12, 119, 2, 0, [5]), (92, 10, 51, 0, 0, []), (95, 2, 0, 0, 1, []), (96, 9, 52, 0, 0, []), (99, 2, 0, 0, 0, []), (100, 15, 0, 0, 0, []), (101, 1, 0, 0, 0, []), (102, 2, 0, 0, 325, []), (105, 12, 133, 1, 0, [5]), (108, 10, 59, 1, 0, []), (111, 2, 0, 0, 0, []), (112, 15, 0, 0, 0, []), (113, 1, 0, 0, 0, []), (114, 3, 5, 5, 0, []), (117, 2, 0, 0, 1, []), (118, 4, 71, 1, 0, []), (121, 1, 0, 0, 0, []), (122, 3, 5, 6, 0, []), (125, 0, 2, 0, 0, []), (126, 4, 71, 1, 0, []), (129, 1, 0, 0, 0, []), (130, 2, 0, 0, 2, []), (131, 12, 138, 1, 0, [5]), (134, 15, 0, 0, 0, []), (135, 1, 0, 0, 0, []), (136, 2, 0, 0, 1, []), (137, 1, 0, 0, 0, []), (138, 3, 5, 9, 0, []), (141, 2, 0, 0, 1, []), (142, 6, 1, 0, 0, []), (143, 12, 119, 2, 0, [5]), (146, 15, 0, 0, 0, [])]
def tX5_put : List PO := [(0, 1, 0, 0, 0, []), (1, 3, 5, 11, 0, []), (4, 10, 22, 2, 0, []), (7, 1, 0, 0, 0, []), (8, 3, 5, 11, 0, []), (11, 2, 0, 0, 16, []), (13, 4, 22, 3, 0, []), (16, 0, 1, 0, 0, []), (17, 10, 22, 2, 0, []), (20, 0, 1, 0, 0, []), (21, 2, 0, 0, 5, []), (22, 4, 22, 3, 0, []), (25, 1, 0, 0, 0, []), (26, 3, 5, 10, 0, []), (29, 1, 0, 0, 0, []), (30, 3, 5, 11, 0, []), (33, 2, 0, 0, 5, []), (34, 6, 2, 0, 0, []), (35, 0, 1, 0, 0, []), (36, 6, 0, 0, 0, []), (37, 0, 2, 0, 0, []), (38, 11, 0, 0, 0, []), (39, 16, 0, 0, 0, [])]
def tX5_readChoice : List PO := [(0, 2, 0, 0, 0, []), (1, 7, 2, 0, 0, []), (2, 2, 0, 0, 0, []), (3, 7, 3, 0, 0, []), (4, 2, 0, 0, 0, []), (5, 7, 4, 0, 0, []), (7, 0, 4, 0, 0, []), (9, 2, 0, 0, 400, []), (12, 4, 53, 3, 0, []), (15, 1, 0, 0, 0, []), (16, 0, 1, 0, 0, []), (17, 12, 132, 1, 0, [5]), (20, 10, 15, 1, 0, []), (23, 2, 0, 0, 0, []), (24, 15, 0, 0, 0, []), (25, 0, 3, 0, 0, []), (26, 10, 21, 0, 0, []), (29, 1, 0, 0, 0, []), (30, 2, 0, 0, 10, []), (32, 2, 0, 0, 0, []), (33, 12, 121, 2, 0, [5]), (36, 1, 0, 0, 0, []), (37, 3, 5, 5, 0, []), (40, 2, 0, 0, 315, []), (43, 4, 27, 1, 0, []), (46, 2, 0, 0, 1, []), (47, 9, 28, 0, 0, []), (50, 2, 0, 0, 0, []), (51, 7, 3, 0, 0, []), (52, 0, 3, 0, 0, []), (53, 10, 49, 1, 0, []), (56, 0, 2, 0, 0, []), (57, 10, 37, 0, 0, []), (60, 1, 0, 0, 0, []), (61, 2, 0, 0, 11, []), (63, 2, 0, 0, 0, []), (64, 12, 121, 2, 0, [5]), (67, 1, 0, 0, 0, []), (68, 3, 5, 5, 0, []), (71, 2, 0, 0, 314, []), (74, 4, 43, 1, 0, []), (77, 2, 0, 0, 1, []), (78, 9, 44, 0, 0, []), (81, 2, 0, 0, 0, []), (82, 7, 2, 0, 0, []), (83, 0, 2, 0, 0, []), (84, 10, 49, 1, 0, []), (87, 2, 0, 0, 1, []), (88, 15, 0, 0, 0, []), (89, 1, 0, 0, 0, []), (90, 12, 135, 0, 0, [5]), (93, 8, 4, 0, 1, []), (96, 9, 6, 0, 0, []), (99, 1, 0, 0, 0, []), (100, 2, 0, 0, 1, []), (101, 12, 138, 1, 0, [5]), (104, 15, 0, 0, 0, [])]
def tX5_readSum : List PO := [(0, 2, 0, 0, 0, []), (1, 7, 1, 0, 0, []), (2, 2, 0, 0, 0, []), (3, 7, 2, 0, 0, []), (4, 2, 0, 0, 0, []), (5, 7, 3, 0, 0, []), (6, 0, 3, 0, 0, []), (7, 2, 0, 0, 400, []), (10, 4, 54, 3, 0, []), (13, 1, 0, 0, 0, []), (14, 0, 2, 0, 0, []), (15, 12, 122, 1, 0, [5]), (18, 10, 15, 1, 0, []), (21, 2, 0, 0, 0, []), (22, 15, 0, 0, 0, []), (23, 1, 0, 0, 0, []), (24, 12, 135, 0, 0, [5]), (27, 1, 0, 0, 0, []), (28, 3, 5, 5, 0, []), (31, 7, 2, 0, 0, []), (32, 0, 2, 0, 0, []), (33, 2, 0, 0, 42, []), (35, 4, 50, 0, 0, []), (38, 0, 2, 0, 0, []), (39, 2, 0, 0, 47, []), (41, 4, 50, 0, 0, []), (44, 0, 1, 0, 0, []), (45, 10, 32, 0, 0, []), (48, 1, 0, 0, 0, []), (49, 0, 1, 0, 0, []), (50, 2, 0, 0, 0, []), (51, 12, 121, 2, 0, [5]), (54, 1, 0, 0, 0, []), (55, 3, 5, 5, 0, []), (58, 2, 0, 0, 43, []), (60, 4, 42, 0, 0, []), (63, 1, 0, 0, 0, []), (64, 3, 5, 5, 0, []), (67, 2, 0, 0, 45, []), (69, 4, 42, 0, 0, []), (72, 2, 0, 0, 1, []), (73, 15, 0, 0, 0, []), (74, 1, 0, 0, 0, []), (75, 3, 5, 5, 0, []), (78, 2, 0, 0, 43, []), (80, 4, 48, 1, 0, []), (83, 2, 0, 0, 4, []), (84, 9, 49, 0, 0, []), (87, 2, 0, 0, 5, []), (88, 7, 1, 0, 0, []), (89, 1, 0, 0, 0, []), (90, 12, 135, 0, 0, [5]), (93, 8, 3, 0, 1, []), (96, 9, 6, 0, 0, []), (99, 1, 0, 0, 0, []), (100, 2, 0, 0, 1, []), (101, 12, 138, 1, 0, [5]), (104, 15, 0, 0, 0, [])]
def tX5_readTape : List PO := [(0, 1, 0, 0, 0, []), (1, 1, 0, 0, 0, []), (2, 3, 5, 1, 0, []), (5, 19, 5, 2, 0, []), (8, 1, 0, 0, 0, []), (9, 2, 0, 0, 0, []), (10, 19, 5, 1, 0, []), (13, 1, 0, 0, 0, []), (14, 2, 0, 0, 0, []), (15, 19, 5, 4, 0, []), (18, 1, 0, 0, 0, []), (19, 2, 0, 0, 0, []), (20, 19, 5, 11, 0, []), (23, 1, 0, 0, 0, []), (24, 2, 0, 0, 0, []), (25, 19, 5, 13, 0, []), (28, 1, 0, 0, 0, []), (29, 0, 2, 0, 0, []), (30, 19, 5, 9, 0, []), (33, 1, 0, 0, 0, []), (34, 2, 0, 0, 0, []), (35, 19, 5, 7, 0, []), (38, 1, 0, 0, 0, []), (39, 2, 0, 0, (-1), []), (40, 19, 5, 8, 0, []), (43, 0, 1, 0, 0, []), (44, 10, 30, 2, 0, []), (47, 0, 1, 0, 0, []), (48, 2, 0, 0, 4, []), (49, 4, 32, 2, 0, []), (52, 32, 0, 0, 0, []), (53, 99, 0, 0, 0, []), (54, 1, 0, 0, 0, []), (55, 12, 135, 0, 0, [5]), (58, 2, 0, 0, 1, []), (59, 7, 3, 0, 0, []), (60, 2, 0, 0, 0, []), (61, 7, 4, 0, 0, []), (63, 0, 4, 0, 0, []), (65, 2, 0, 0, 16, []), (67, 4, 77, 4, 0, []), (70, 0, 3, 0, 0, []), (71, 10, 77, 0, 0, []), (74, 1, 0, 0, 0, []), (75, 3, 5, 5, 0, []), (78, 2, 0, 0, 2, []), (79, 4, 77, 0, 0, []), (82, 1, 0, 0, 0, []), (83, 0, 1, 0, 0, []), (84, 12, 126, 1, 0, [5]), (87, 10, 67, 0, 0, []), (90, 0, 1, 0, 0, []), (91, 10, 57, 1, 0, []), (94, 1, 0, 0, 0, []), (95, 12, 123, 0, 0, [5]), (98, 10, 67, 0, 0, []), (101, 9, 61, 0, 0, []), (104, 1, 0, 0, 0, []), (105, 0, 1, 0, 0, []), (106, 12, 127, 1, 0, [5]), (109, 10, 67, 0, 0, []), (112, 1, 0, 0, 0, []), (113, 2, 0, 0, 59, []), (115, 12, 133, 1, 0, [5]), (118, 10, 67, 0, 0, []), (121, 2, 0, 0, 1, []), (122, 9, 68, 0, 0, []), (125, 2, 0, 0, 0, []), (126, 7, 3, 0, 0, []), (127, 1, 0, 0, 0, []), (128, 21, 0, 0, 0, []), (129, 3, 5, 11, 0, []), (132, 2, 0, 0, 1, []), (133, 6, 0, 0, 0, []), (134, 19, 5, 11, 0, []), (137, 8, 4, 0, 1, []), (140, 9, 38, 0, 0, []), (143, 0, 3, 0, 0, []), (144, 10, 81, 1, 0, []), (147, 32, 0, 0, 0, []), (148, 99, 0, 0, 0, []), (149, 99, 0, 0, 0, []), (152, 21, 0, 0, 0, []), (153, 1, 0, 0, 0, []), (154, 3, 5, 10, 0, []), (157, 1, 0, 0, 0, []), (158, 3, 5, 11, 0, []), (161, 2, 0, 0, 5, []), (162, 6, 2, 0, 0, []), (163, 99, 0, 0, 0, []), (166, 1, 0, 0, 0, []), (167, 3, 5, 11, 0, []), (170, 1, 0, 0, 0, []), (171, 3, 5, 12, 0, []), (174, 1, 0, 0, 0, []), (175, 3, 5, 13, 0, []), (178, 99, 0, 0, 0, []), (181, 99, 0, 0, 0, []), (184, 99, 0, 0, 0, [])]
def tX5_readTest : List PO := [(0, 1, 0, 0, 0, []), (1, 3, 5, 5, 0, []), (4, 2, 0, 0, 316, []), (7, 4, 6, 1, 0, []), (10, 2, 0, 0, 1, []), (11, 9, 7, 0, 0, []), (14, 2, 0, 0, 0, []), (15, 7, 2, 0, 0, []), (16, 0, 2, 0, 0, []), (17, 10, 14, 1, 0, []), (20, 1, 0, 0, 0, []), (21, 3, 5, 5, 0, []), (24, 2, 0, 0, 40, []), (26, 4, 53, 1, 0, []), (29, 0, 1, 0, 0, []), (30, 2, 0, 0, 8, []), (32, 4, 21, 2, 0, []), (35, 1, 0, 0, 0, []), (36, 2, 0, 0, 3, []), (37, 12, 138, 1, 0, [5]), (40, 15, 0, 0, 0, []), (41, 1, 0, 0, 0, []), (42, 12, 135, 0, 0, [5]), (45, 0, 2, 0, 0, []), (46, 10, 39, 1, 0, []), (49, 1, 0, 0, 0, []), (50, 0, 1, 0, 0, []), (51, 2, 0, 0, 1, []), (52, 6, 0, 0, 0, []), (53, 12, 129, 1, 0, [5]), (56, 10, 37, 0, 0, []), (59, 1, 0, 0, 0, []), (60, 2, 0, 0, 41, []), (62, 12, 133, 1, 0, [5]), (65, 10, 37, 0, 0, []), (68, 2, 0, 0, 1, []), (69, 9, 38, 0, 0, []), (72, 2, 0, 0, 0, []), (73, 15, 0, 0, 0, []), (74, 1, 0, 0, 0, []), (75, 0, 1, 0, 0, []), (76, 2, 0, 0, 1, []), (77, 6, 0, 0, 0, []), (78, 12, 132, 1, 0, [5]), (81, 10, 47, 1, 0, []), (84, 2, 0, 0, 0, []), (85, 15, 0, 0, 0, []), (86, 1, 0, 0, 0, []), (87, 2, 0, 0, 3, []), (88, 2, 0, 0, 0, []), (89, 12, 121, 2, 0, [5]), (92, 2, 0, 0, 1, []), (93, 15, 0, 0, 0, []), (94, 1, 0, 0, 0, []), (95, 12, 130, 0, 0, [5]), (98, 10, 58, 1, 0, []), (101, 2, 0, 0, 0, []), (102, 15, 0, 0, 0, []), (103, 1, 0, 0, 0, []), (104, 3, 5, 5, 0, []), (107, 2, 0, 0, 60, []), (109, 4, 74, 0, 0, []), (112, 1, 0, 0, 0, []), (113, 3, 5, 5, 0, []), (116, 2, 0, 0, 61, []), (118, 4, 74, 0, 0, []), (121, 1, 0, 0, 0, []), (122, 3, 5, 5, 0, []), (125, 2, 0, 0, 62, []), (127, 4, 74, 0, 0, []), (130, 1, 0, 0, 0, []), (131, 2, 0, 0, 1, []), (132, 12, 138, 1, 0, [5]), (135, 15, 0, 0, 0, []), (136, 2, 0, 0, 8, []), (138, 1, 0, 0, 0, []), (139, 3, 5, 5, 0, []), (142, 6, 0, 0, 0, []), (143, 2, 0, 0, 61, []), (145, 6, 1, 0, 0, []), (146, 7, 3, 0, 0, []), (147, 1, 0, 0, 0, []), (148, 12, 135, 0, 0, [5]), (151, 1, 0, 0, 0, []), (152, 12, 130, 0, 0, [5]), (155, 10, 88, 1, 0, []), (158, 2, 0, 0, 0, []), (159, 15, 0, 0, 0, []), (160, 1, 0, 0, 0, []), (161, 0, 3, 0, 0, []), (162, 2, 0, 0, 0, []), (163, 12, 121, 2, 0, [5]), (166, 2, 0, 0, 1, []), (167, 15, 0, 0, 0, [])]
def tX5_sign : List PO := [(0, 1, 0, 0, 0, []), (1, 3, 5, 5, 0, []), (4, 0, 1, 0, 0, []), (5, 4, 8, 0, 0, []), (8, 1, 0, 0, 0, []), (9, 2, 0, 0, 1, []), (10, 12, 138, 1, 0, [5]), (13, 15, 0, 0, 0, []), (14, 1, 0, 0, 0, []), (15, 12, 135, 0, 0, [5]), (18, 2, 0, 0, 1, []), (19, 15, 0, 0, 0, [])]
def tX5_skyLine : List PO := [(0, 1, 0, 0, 0, []), (1, 2, 0, 0, 1, []), (2, 1, 0, 0, 0, []), (3, 3, 5, 5, 0, []), (6, 12, 128, 2, 0, [5]), (9, 1, 0, 0, 0, []), (10, 3, 5, 5, 0, []), (13, 2, 0, 0, 307, []), (16, 4, 29, 1, 0, []), (19, 1, 0, 0, 0, []), (20, 12, 135, 0, 0, [5]), (23, 1, 0, 0, 0, []), (24, 2, 0, 0, 3, []), (25, 2, 0, 0, 9, []), (27, 12, 119, 2, 0, [5]), (30, 10, 27, 0, 0, []), (33, 1, 0, 0, 0, []), (34, 2, 0, 0, 318, []), (37, 12, 133, 1, 0, [5]), (40, 10, 27, 0, 0, []), (43, 1, 0, 0, 0, []), (44, 2, 0, 0, 2, []), (45, 2, 0, 0, 11, []), (47, 12, 119, 2, 0, [5]), (50, 10, 27, 0, 0, []), (53, 2, 0, 0, 1, []), (54, 9, 28, 0, 0, []), (57, 2, 0, 0, 0, []), (58, 15, 0, 0, 0, []), (59, 1, 0, 0, 0, []), (60, 3, 5, 5, 0, []), (63, 2, 0, 0, 321, []), (66, 4, 58, 1, 0, []), (69, 1, 0, 0, 0, []), (70, 12, 135, 0, 0, [5]), (73, 1, 0, 0, 0, []), (74, 2, 0, 0, 318, []), (77, 12, 133, 1, 0, [5]), (80, 10, 56, 0, 0, []), (83, 1, 0, 0, 0, []), (84, 2, 0, 0, 2, []), (85, 2, 0, 0, 11, []), (87, 12, 119, 2, 0, [5]), (90, 10, 56, 0, 0, []), (93, 1, 0, 0, 0, []), (94, 2, 0, 0, 3, []), (95, 2, 0, 0, 11, []), (97, 12, 119, 2, 0, [5]), (100, 10, 56, 0, 0, []), (103, 1, 0, 0, 0, []), (104, 2, 0, 0, 4, []), (105, 2, 0, 0, 11, []), (107, 12, 119, 2, 0, [5]), (110, 10, 56, 0, 0, []), (113, 2, 0, 0, 1, []), (114, 9, 57, 0, 0, []), (117, 2, 0, 0, 0, []), (118, 15, 0, 0, 0, []), (119, 1, 0, 0, 0, []), (120, 3, 5, 5, 0, []), (123, 2, 0, 0, 303, []), (126, 4, 83, 1, 0, []), (129, 1, 0, 0, 0, []), (130, 12, 135, 0, 0, [5]), (133, 1, 0, 0, 0, []), (134, 2, 0, 0, 2, []), (135, 2, 0, 0, 0, []), (136, 12, 128, 2, 0, [5]), (139, 1, 0, 0, 0, []), (140, 2, 0, 0, 3, []), (141, 1, 0, 0, 0, []), (142, 3, 5, 9, 0, []), (145, 2, 0, 0, 1, []), (146, 6, 1, 0, 0, []), (147, 12, 119, 2, 0, [5]), (150, 10, 81, 0, 0, []), (153, 1, 0, 0, 0, []), (154, 12, 125, 0, 0, [5]), (157, 10, 81, 0, 0, []), (160, 2, 0, 0, 1, []), (161, 9, 82, 0, 0, []), (164, 2, 0, 0, 0, []), (165, 15, 0, 0, 0, []), (166, 1, 0, 0, 0, []), (167, 2, 0, 0, 1, []), (168, 12, 138, 1, 0, [5]), (171, 15, 0, 0, 0, [])]
def tX5_step : List PO := [(0, 1, 0, 0, 0, []), (1, 3, 5, 4, 0, []), (4, 1, 0, 0, 0, []), (5, 3, 5, 2, 0, []), (8, 4, 26, 3, 0, []), (11, 1, 0, 0, 0, []), (12, 3, 5, 0, 0, []), (15, 1, 0, 0, 0, []), (16, 3, 5, 4, 0, []), (19, 5, 0, 0, 0, []), (20, 2, 0, 0, 32, []), (22, 4, 19, 0, 0, []), (25, 1, 0, 0, 0, []), (26, 3, 5, 0, 0, []), (29, 1, 0, 0, 0, []), (30, 3, 5, 4, 0, []), (33, 5, 0, 0, 0, []), (34, 2, 0, 0, 10, []), (36, 4, 26, 1, 0, []), (39, 1, 0, 0, 0, []), (40, 21, 0, 0, 0, []), (41, 3, 5, 4, 0, []), (44, 2, 0, 0, 1, []), (45, 6, 0, 0, 0, []), (46, 19, 5, 4, 0, []), (49, 9, 0, 0, 0, []), (52, 1, 0, 0, 0, []), (53, 1, 0, 0, 0, []), (54, 3, 5, 4, 0, []), (57, 19, 5, 3, 0, []), (60, 1, 0, 0, 0, []), (61, 3, 5, 4, 0, []), (64, 1, 0, 0, 0, []), (65, 3, 5, 2, 0, []), (68, 4, 39, 2, 0, []), (71, 1, 0, 0, 0, []), (72, 2, 0, 0, 2, []), (73, 19, 5, 5, 0, []), (76, 9, 159, 0, 0, []), (79, 1, 0, 0, 0, []), (80, 3, 5, 0, 0, []), (83, 1, 0, 0, 0, []), (84, 3, 5, 4, 0, []), (87, 5, 0, 0, 0, []), (88, 13, 124, 1, 0, []), (91, 10, 74, 0, 0, []), (94, 1, 0, 0, 0, []), (95, 3, 5, 4, 0, []), (98, 1, 0, 0, 0, []), (99, 3, 5, 2, 0, []), (102, 4, 65, 3, 0, []), (105, 1, 0, 0, 0, []), (106, 3, 5, 0, 0, []), (109, 1, 0, 0, 0, []), (110, 3, 5, 4, 0, []), (113, 5, 0, 0, 0, []), (114, 13, 124, 1, 0, []), (117, 10, 65, 0, 0, []), (120, 1, 0, 0, 0, []), (121, 21, 0, 0, 0, []), (122, 3, 5, 4, 0, []), (125, 2, 0, 0, 1, []), (126, 6, 0, 0, 0, []), (127, 19, 5, 4, 0, []), (130, 9, 46, 0, 0, []), (133, 1, 0, 0, 0, []), (134, 1, 0, 0, 0, []), (135, 1, 0, 0, 0, []), (136, 3, 5, 3, 0, []), (139, 1, 0, 0, 0, []), (140, 3, 5, 4, 0, []), (143, 12, 137, 2, 0, [5]), (146, 19, 5, 5, 0, []), (149, 9, 159, 0, 0, []), (152, 1, 0, 0, 0, []), (153, 3, 5, 0, 0, []), (156, 1, 0, 0, 0, []), (157, 3, 5, 4, 0, []), (160, 5, 0, 0, 0, []), (161, 13, 120, 1, 0, []), (164, 10, 130, 0, 0, []), (167, 1, 0, 0, 0, []), (168, 2, 0, 0, 0, []), (169, 19, 5, 6, 0, []), (172, 1, 0, 0, 0, []), (173, 3, 5, 4, 0, []), (176, 1, 0, 0, 0, []), (177, 3, 5, 2, 0, []), (180, 4, 117, 3, 0, []), (183, 1, 0, 0, 0, []), (184, 3, 5, 0, 0, []), (187, 1, 0, 0, 0, []), (188, 3, 5, 4, 0, []), (191, 5, 0, 0, 0, []), (192, 13, 120, 1, 0, []), (195, 10, 117, 0, 0, []), (198, 1, 0, 0, 0, []), (199, 1, 0, 0, 0, []), (200, 3, 5, 6, 0, []), (203, 2, 0, 0, 10, []), (205, 6, 2, 0, 0, []), (206, 1, 0, 0, 0, []), (207, 3, 5, 0, 0, []), (210, 1, 0, 0, 0, []), (211, 3, 5, 4, 0, []), (214, 5, 0, 0, 0, []), (215, 6, 0, 0, 0, []), (216, 2, 0, 0, 48, []), (218, 6, 1, 0, 0, []), (219, 19, 5, 6, 0, []), (222, 1, 0, 0, 0, []), (223, 21, 0, 0, 0, []), (224, 3, 5, 4, 0, []), (227, 2, 0, 0, 1, []), (228, 6, 0, 0, 0, []), (229, 19, 5, 4, 0, []), (232, 9, 84, 0, 0, []), (235, 1, 0, 0, 0, []), (236, 1, 0, 0, 0, []), (237, 3, 5, 4, 0, []), (240, 1, 0, 0, 0, []), (241, 3, 5, 3, 0, []), (244, 6, 1, 0, 0, []), (245, 2, 0, 0, 4, []), (246, 4, 127, 4, 0, []), (249, 2, 0, 0, 1, []), (250, 9, 128, 0, 0, []), (253, 2, 0, 0, 3, []), (254, 19, 5, 5, 0, []), (257, 9, 159, 0, 0, []), (260, 1, 0, 0, 0, []), (261, 1, 0, 0, 0, []), (262, 3, 5, 0, 0, []), (265, 1, 0, 0, 0, []), (266, 3, 5, 4, 0, []), (269, 5, 0, 0, 0, []), (270, 2, 0, 0, 40, []), (272, 4, 151, 2, 0, []), (275, 1, 0, 0, 0, []), (276, 3, 5, 0, 0, []), (279, 1, 0, 0, 0, []), (280, 3, 5, 4, 0, []), (283, 5, 0, 0, 0, []), (284, 2, 0, 0, 62, []), (286, 4, 151, 4, 0, []), (289, 1, 0, 0, 0, []), (290, 3, 5, 0, 0, []), (293, 1, 0, 0, 0, []), (294, 3, 5, 4, 0, []), (297, 5, 0, 0, 0, []), (298, 9, 152, 0, 0, []), (301, 2, 0, 0, 3, []), (302, 19, 5, 5, 0, []), (305, 1, 0, 0, 0, []), (306, 21, 0, 0, 0, []), (307, 3, 5, 4, 0, []), (310, 2, 0, 0, 1, []), (311, 6, 0, 0, 0, []), (312, 19, 5, 4, 0, []), (315, 16, 0, 0, 0, [])]
def tX5_take : List PO := [(0, 2, 0, 0, 24, []), (2, 7, 2, 0, 0, []), (3, 0, 2, 0, 0, []), (4, 10, 26, 2, 0, []), (7, 1, 0, 0, 0, []), (8, 3, 5, 1, 0, []), (11, 2, 0, 0, 400, []), (14, 4, 24, 3, 0, []), (17, 1, 0, 0, 0, []), (18, 3, 5, 0, 0, []), (21, 1, 0, 0, 0, []), (22, 3, 5, 1, 0, []), (25, 0, 1, 0, 0, []), (26, 0, 2, 0, 0, []), (27, 6, 8, 0, 0, []), (28, 2, 0, 0, 255, []), (31, 6, 3, 0, 0, []), (32, 11, 0, 0, 0, []), (33, 1, 0, 0, 0, []), (34, 21, 0, 0, 0, []), (35, 3, 5, 1, 0, []), (38, 2, 0, 0, 1, []), (39, 6, 0, 0, 0, []), (40, 19, 5, 1, 0, []), (43, 8, 2, 0, (-8), []), (46, 9, 2, 0, 0, []), (49, 16, 0, 0, 0, [])]
def tX5_wordOf : List PO := [(0, 2, 0, 0, 300, []), (3, 7, 3, 0, 0, []), (4, 0, 1, 0, 0, []), (5, 7, 4, 0, 0, []), (7, 2, 0, 0, 1, []), (8, 7, 5, 0, 0, []), (10, 2, 0, 0, 0, []), (11, 7, 6, 0, 0, []), (13, 0, 6, 0, 0, []), (15, 99, 0, 0, 0, []), (17, 99, 0, 0, 0, []), (20, 4, 54, 3, 0, []), (23, 99, 0, 0, 0, []), (25, 0, 6, 0, 0, []), (27, 99, 0, 0, 0, []), (30, 7, 7, 0, 0, []), (32, 0, 7, 0, 0, []), (34, 2, 0, 0, 32, []), (36, 4, 32, 1, 0, []), (39, 0, 5, 0, 0, []), (41, 10, 26, 0, 0, []), (44, 0, 4, 0, 0, []), (46, 0, 2, 0, 0, []), (47, 4, 26, 1, 0, []), (50, 0, 3, 0, 0, []), (51, 14, 0, 0, 0, []), (52, 8, 3, 0, 1, []), (55, 0, 1, 0, 0, []), (56, 7, 4, 0, 0, []), (58, 2, 0, 0, 1, []), (59, 7, 5, 0, 0, []), (61, 9, 52, 0, 0, []), (64, 0, 5, 0, 0, []), (66, 10, 49, 0, 0, []), (69, 0, 4, 0, 0, []), (71, 0, 2, 0, 0, []), (72, 4, 49, 3, 0, []), (75, 0, 4, 0, 0, []), (77, 1, 0, 0, 0, []), (78, 3, 5, 2, 0, []), (81, 4, 49, 3, 0, []), (84, 1, 0, 0, 0, []), (85, 3, 5, 0, 0, []), (88, 0, 4, 0, 0, []), (90, 5, 0, 0, 0, []), (91, 0, 7, 0, 0, []), (93, 4, 49, 1, 0, []), (96, 2, 0, 0, 1, []), (97, 9, 50, 0, 0, []), (100, 2, 0, 0, 0, []), (101, 7, 5, 0, 0, []), (103, 8, 4, 0, 1, []), (106, 8, 6, 0, 1, []), (109, 9, 8, 0, 0, []), (112, 0, 5, 0, 0, []), (114, 10, 61, 0, 0, []), (117, 0, 4, 0, 0, []), (119, 0, 2, 0, 0, []), (120, 4, 61, 1, 0, []), (123, 0, 3, 0, 0, []), (124, 9, 62, 0, 0, []), (127, 2, 0, 0, 3, []), (128, 14, 0, 0, 0, [])]
def tX5_wrong : List PO := [(0, 1, 0, 0, 0, []), (1, 0, 1, 0, 0, []), (2, 19, 5, 7, 0, []), (5, 1, 0, 0, 0, []), (6, 1, 0, 0, 0, []), (7, 3, 5, 3, 0, []), (10, 19, 5, 8, 0, []), (13, 2, 0, 0, 0, []), (14, 15, 0, 0, 0, [])]
def tX7_forget : List PO := [(0, 1, 0, 0, 0, []), (1, 2, 0, 0, 0, []), (2, 19, 7, 2, 0, []), (5, 16, 0, 0, 0, [])]
def tX7_goBack : List PO := [(0, 1, 0, 0, 0, []), (1, 3, 7, 2, 0, []), (4, 10, 10, 0, 0, []), (7, 1, 0, 0, 0, []), (8, 3, 7, 1, 0, []), (11, 10, 10, 2, 0, []), (14, 1, 0, 0, 0, []), (15, 3, 7, 1, 0, []), (18, 2, 0, 0, 6, []), (20, 4, 12, 2, 0, []), (23, 2, 0, 0, 0, []), (24, 15, 0, 0, 0, []), (25, 1, 0, 0, 0, []), (26, 1, 0, 0, 0, []), (27, 3, 7, 1, 0, []), (30, 10, 21, 5, 0, []), (33, 1, 0, 0, 0, []), (34, 3, 7, 1, 0, []), (37, 2, 0, 0, 1, []), (38, 6, 1, 0, 0, []), (39, 9, 22, 0, 0, []), (42, 2, 0, 0, 5, []), (43, 19, 7, 1, 0, []), (46, 1, 0, 0, 0, []), (47, 21, 0, 0, 0, []), (48, 3, 7, 2, 0, []), (51, 2, 0, 0, 1, []), (52, 6, 1, 0, 0, []), (53, 19, 7, 2, 0, []), (56, 1, 1, 0, 0, []), (57, 1, 0, 0, 0, []), (58, 3, 7, 0, 0, []), (61, 1, 0, 0, 0, []), (62, 3, 7, 1, 0, []), (65, 25, 0, 0, 0, []), (66, 12, 90, 1, 0, [0]), (69, 2, 0, 0, 1, []), (70, 15, 0, 0, 0, [])]
def tX7_keep : List PO := [(0, 1, 0, 0, 0, []), (1, 3, 7, 1, 0, []), (4, 10, 7, 2, 0, []), (7, 1, 0, 0, 0, []), (8, 3, 7, 1, 0, []), (11, 2, 0, 0, 6, []), (13, 4, 8, 2, 0, []), (16, 16, 0, 0, 0, []), (17, 1, 0, 0, 0, []), (18, 3, 7, 0, 0, []), (21, 1, 0, 0, 0, []), (22, 3, 7, 1, 0, []), (25, 25, 0, 0, 0, []), (26, 1, 1, 0, 0, []), (27, 12, 90, 1, 0, [0]), (30, 1, 0, 0, 0, []), (31, 1, 0, 0, 0, []), (32, 3, 7, 1, 0, []), (35, 2, 0, 0, 1, []), (36, 6, 0, 0, 0, []), (37, 2, 0, 0, 6, []), (39, 4, 27, 3, 0, []), (42, 1, 0, 0, 0, []), (43, 3, 7, 1, 0, []), (46, 2, 0, 0, 1, []), (47, 6, 0, 0, 0, []), (48, 9, 28, 0, 0, []), (51, 2, 0, 0, 0, []), (52, 19, 7, 1, 0, []), (55, 1, 0, 0, 0, []), (56, 1, 0, 0, 0, []), (57, 3, 7, 2, 0, []), (60, 2, 0, 0, 1, []), (61, 6, 0, 0, 0, []), (62, 2, 0, 0, 6, []), (64, 28, 0, 0, 0, []), (67, 19, 7, 2, 0, []), (70, 16, 0, 0, 0, [])]
def tX9_add : List PO := [(0, 1, 0, 0, 0, []), (1, 3, 9, 1, 0, []), (4, 10, 9, 2, 0, []), (7, 1, 0, 0, 0, []), (8, 3, 9, 1, 0, []), (11, 1, 0, 0, 0, []), (12, 3, 9, 0, 0, []), (15, 24, 0, 0, 0, []), (16, 4, 11, 2, 0, []), (19, 2, 0, 0, (-1), []), (20, 14, 0, 0, 0, []), (21, 1, 0, 0, 0, []), (22, 3, 9, 0, 0, []), (25, 1, 0, 0, 0, []), (26, 3, 9, 1, 0, []), (29, 0, 1, 0, 0, []), (30, 11, 0, 0, 0, []), (31, 1, 0, 0, 0, []), (32, 21, 0, 0, 0, []), (33, 3, 9, 1, 0, []), (36, 2, 0, 0, 1, []), (37, 6, 0, 0, 0, []), (38, 19, 9, 1, 0, []), (41, 1, 0, 0, 0, []), (42, 3, 9, 1, 0, []), (45, 14, 0, 0, 0, [])]
def tX9_takeList : List PO := [(0, 1, 0, 0, 0, []), (1, 1, 1, 0, 0, []), (2, 3, 9, 1, 0, []), (5, 1, 0, 0, 0, []), (6, 3, 9, 0, 0, []), (9, 24, 0, 0, 0, []), (10, 28, 0, 0, 0, []), (13, 19, 9, 1, 0, []), (16, 2, 0, 0, 0, []), (17, 7, 2, 0, 0, []), (18, 0, 2, 0, 0, []), (19, 1, 0, 0, 0, []), (20, 3, 9, 1, 0, []), (23, 4, 23, 3, 0, []), (26, 1, 0, 0, 0, []), (27, 3, 9, 0, 0, []), (30, 0, 2, 0, 0, []), (31, 1, 1, 0, 0, []), (32, 0, 2, 0, 0, []), (33, 12, 3, 1, 0, [9]), (36, 11, 0, 0, 0, []), (37, 8, 2, 0, 1, []), (40, 9, 10, 0, 0, []), (43, 16, 0, 0, 0, [])]
def tX10_linesOf : List PO := [(0, 0, 1, 0, 0, []), (1, 10, 11, 2, 0, []), (4, 0, 1, 0, 0, []), (5, 2, 0, 0, 4, []), (6, 4, 11, 3, 0, []), (9, 1, 0, 0, 0, []), (10, 3, 10, 2, 0, []), (13, 0, 1, 0, 0, []), (14, 25, 0, 0, 0, []), (15, 3, 8, 1, 0, []), (18, 9, 12, 0, 0, []), (21, 2, 0, 0, 0, []), (22, 14, 0, 0, 0, [])]
def tX10_takeAll : List PO := [(0, 1, 0, 0, 0, []), (1, 3, 10, 0, 0, []), (4, 1, 1, 0, 0, []), (5, 3, 10, 0, 0, []), (8, 12, 90, 1, 0, [0]), (11, 1, 0, 0, 0, []), (12, 3, 10, 1, 0, []), (15, 1, 1, 0, 0, []), (16, 3, 10, 1, 0, []), (19, 12, 104, 1, 0, [3]), (22, 2, 0, 0, 0, []), (23, 7, 2, 0, 0, []), (24, 0, 2, 0, 0, []), (25, 2, 0, 0, 4, []), (26, 4, 25, 3, 0, []), (29, 1, 0, 0, 0, []), (30, 3, 10, 2, 0, []), (33, 0, 2, 0, 0, []), (34, 1, 1, 0, 0, []), (35, 3, 10, 2, 0, []), (38, 0, 2, 0, 0, []), (39, 25, 0, 0, 0, []), (40, 36, 0, 0, 0, []), (41, 8, 2, 0, 1, []), (44, 9, 12, 0, 0, []), (47, 2, 0, 0, 0, []), (48, 7, 2, 0, 0, []), (49, 0, 2, 0, 0, []), (50, 2, 0, 0, 9, []), (52, 4, 41, 3, 0, []), (55, 1, 0, 0, 0, []), (56, 3, 10, 3, 0, []), (59, 0, 2, 0, 0, []), (60, 25, 0, 0, 0, []), (61, 1, 1, 0, 0, []), (62, 3, 10, 3, 0, []), (65, 0, 2, 0, 0, []), (66, 25, 0, 0, 0, []), (67, 12, 143, 1, 0, [9]), (70, 8, 2, 0, 1, []), (73, 9, 27, 0, 0, []), (76, 16, 0, 0, 0, [])]
def tX10_takenFor : List PO := [(0, 2, 0, 0, 1, []), (1, 0, 1, 0, 0, []), (2, 6, 6, 0, 0, []), (3, 7, 2, 0, 0, []), (4, 2, 0, 0, 0, []), (5, 7, 3, 0, 0, []), (6, 0, 3, 0, 0, []), (7, 2, 0, 0, 20, []), (9, 4, 40, 3, 0, []), (12, 0, 2, 0, 0, []), (13, 7, 4, 0, 0, []), (15, 2, 0, 0, 0, []), (16, 7, 5, 0, 0, []), (18, 0, 5, 0, 0, []), (20, 2, 0, 0, 20, []), (22, 4, 31, 3, 0, []), (25, 0, 2, 0, 0, []), (26, 0, 5, 0, 0, []), (28, 6, 7, 0, 0, []), (29, 2, 0, 0, 1, []), (30, 6, 3, 0, 0, []), (31, 2, 0, 0, 1, []), (32, 4, 29, 1, 0, []), (35, 0, 4, 0, 0, []), (37, 1, 0, 0, 0, []), (38, 0, 5, 0, 0, []), (40, 12, 148, 1, 0, [10]), (43, 6, 4, 0, 0, []), (44, 7, 4, 0, 0, []), (46, 8, 5, 0, 1, []), (49, 9, 13, 0, 0, []), (52, 0, 4, 0, 0, []), (54, 0, 2, 0, 0, []), (55, 4, 36, 1, 0, []), (58, 0, 2, 0, 0, []), (59, 14, 0, 0, 0, []), (60, 0, 4, 0, 0, []), (62, 7, 2, 0, 0, []), (63, 8, 3, 0, 1, []), (66, 9, 6, 0, 0, []), (69, 0, 2, 0, 0, []), (70, 14, 0, 0, 0, [])]
def tX10_tell : List PO := [(0, 0, 1, 0, 0, []), (1, 10, 5, 2, 0, []), (4, 0, 1, 0, 0, []), (5, 2, 0, 0, 9, []), (7, 4, 7, 2, 0, []), (10, 2, 0, 0, (-1), []), (11, 14, 0, 0, 0, []), (12, 0, 2, 0, 0, []), (13, 10, 17, 0, 0, []), (16, 1, 0, 0, 0, []), (17, 3, 10, 3, 0, []), (20, 0, 1, 0, 0, []), (21, 25, 0, 0, 0, []), (22, 2, 0, 0, 0, []), (23, 19, 9, 1, 0, []), (26, 2, 0, 0, 0, []), (27, 14, 0, 0, 0, []), (28, 0, 3, 0, 0, []), (29, 10, 26, 0, 0, []), (32, 1, 0, 0, 0, []), (33, 3, 10, 3, 0, []), (36, 0, 1, 0, 0, []), (37, 25, 0, 0, 0, []), (38, 0, 4, 0, 0, []), (40, 12, 142, 1, 0, [9]), (43, 9, 27, 0, 0, []), (46, 2, 0, 0, (-1), []), (47, 14, 0, 0, 0, [])]
def tX10_twinsOf : List PO := [(0, 1, 0, 0, 0, []), (1, 3, 10, 2, 0, []), (4, 2, 0, 0, 3, []), (5, 25, 0, 0, 0, []), (6, 31, 2, 0, 0, []), (7, 2, 0, 0, 0, []), (8, 7, 3, 0, 0, []), (9, 2, 0, 0, 0, []), (10, 7, 4, 0, 0, []), (12, 0, 4, 0, 0, []), (14, 1, 2, 0, 0, []), (15, 3, 8, 1, 0, []), (18, 4, 43, 3, 0, []), (21, 1, 2, 0, 0, []), (22, 0, 4, 0, 0, []), (24, 2, 0, 0, 0, []), (25, 12, 18, 2, 0, [8]), (28, 7, 5, 0, 0, []), (30, 1, 2, 0, 0, []), (31, 0, 4, 0, 0, []), (33, 2, 0, 0, 1, []), (34, 12, 18, 2, 0, [8]), (37, 7, 6, 0, 0, []), (39, 0, 5, 0, 0, []), (41, 0, 1, 0, 0, []), (42, 4, 32, 1, 0, []), (45, 0, 3, 0, 0, []), (46, 2, 0, 0, 1, []), (47, 0, 6, 0, 0, []), (49, 6, 6, 0, 0, []), (50, 6, 4, 0, 0, []), (51, 7, 3, 0, 0, []), (52, 0, 6, 0, 0, []), (54, 0, 1, 0, 0, []), (55, 4, 41, 1, 0, []), (58, 0, 3, 0, 0, []), (59, 2, 0, 0, 1, []), (60, 0, 5, 0, 0, []), (62, 6, 6, 0, 0, []), (63, 6, 4, 0, 0, []), (64, 7, 3, 0, 0, []), (65, 8, 4, 0, 1, []), (68, 9, 9, 0, 0, []), (71, 0, 3, 0, 0, []), (72, 14, 0, 0, 0, [])]
def tX11_before : List PO := [(0, 1, 0, 0, 0, []), (1, 3, 11, 0, 0, []), (4, 2, 0, 0, 8, []), (6, 0, 1, 0, 0, []), (7, 2, 0, 0, (-1), []), (8, 4, 8, 1, 0, []), (11, 2, 0, 0, 1, []), (12, 9, 9, 0, 0, []), (15, 2, 0, 0, 0, []), (16, 0, 1, 0, 0, []), (17, 0, 2, 0, 0, []), (18, 13, 183, 2, 0, []), (21, 0, 1, 0, 0, []), (22, 2, 0, 0, 256, []), (25, 6, 2, 0, 0, []), (26, 0, 2, 0, 0, []), (27, 6, 0, 0, 0, []), (28, 12, 147, 4, 0, [10]), (31, 14, 0, 0, 0, [])]
def tX11_bill : List PO := [(0, 1, 0, 0, 0, []), (1, 3, 11, 0, 0, []), (4, 2, 0, 0, 7, []), (6, 0, 1, 0, 0, []), (7, 2, 0, 0, (-1), []), (8, 4, 8, 1, 0, []), (11, 2, 0, 0, 1, []), (12, 9, 9, 0, 0, []), (15, 2, 0, 0, 0, []), (16, 0, 1, 0, 0, []), (17, 0, 2, 0, 0, []), (18, 13, 183, 2, 0, []), (21, 0, 1, 0, 0, []), (22, 2, 0, 0, 256, []), (25, 6, 2, 0, 0, []), (26, 0, 2, 0, 0, []), (27, 6, 0, 0, 0, []), (28, 12, 147, 4, 0, [10]), (31, 14, 0, 0, 0, [])]
def tX11_bills : List PO := [(0, 0, 1, 0, 0, []), (1, 10, 5, 2, 0, []), (4, 0, 1, 0, 0, []), (5, 2, 0, 0, 2, []), (6, 4, 7, 5, 0, []), (9, 2, 0, 0, (-1), []), (10, 14, 0, 0, 0, []), (11, 1, 0, 0, 0, []), (12, 3, 11, 9, 0, []), (15, 1, 0, 0, 0, []), (16, 3, 11, 0, 0, []), (19, 3, 10, 3, 0, []), (22, 2, 0, 0, 7, []), (24, 25, 0, 0, 0, []), (25, 0, 1, 0, 0, []), (26, 12, 118, 2, 0, [4]), (29, 14, 0, 0, 0, [])]
def tX11_book : List PO := [(0, 0, 1, 0, 0, []), (1, 10, 13, 2, 0, []), (4, 0, 1, 0, 0, []), (5, 1, 0, 0, 0, []), (6, 3, 11, 0, 0, []), (9, 3, 10, 0, 0, []), (12, 3, 0, 9, 0, []), (15, 4, 13, 3, 0, []), (18, 0, 2, 0, 0, []), (19, 10, 13, 2, 0, []), (22, 0, 2, 0, 0, []), (23, 2, 0, 0, 5, []), (24, 4, 15, 2, 0, []), (27, 2, 0, 0, (-10000), []), (30, 14, 0, 0, 0, []), (31, 1, 0, 0, 0, []), (32, 3, 11, 0, 0, []), (35, 3, 10, 1, 0, []), (38, 0, 1, 0, 0, []), (39, 0, 2, 0, 0, []), (40, 12, 103, 2, 0, [3]), (43, 14, 0, 0, 0, [])]
def tX11_candle : List PO := [(0, 1, 0, 0, 0, []), (1, 3, 11, 0, 0, []), (4, 2, 0, 0, 4, []), (5, 0, 1, 0, 0, []), (6, 2, 0, 0, (-1), []), (7, 4, 8, 1, 0, []), (10, 2, 0, 0, 1, []), (11, 9, 9, 0, 0, []), (14, 2, 0, 0, 0, []), (15, 0, 1, 0, 0, []), (16, 2, 0, 0, 1, []), (17, 4, 17, 2, 0, []), (20, 0, 1, 0, 0, []), (21, 2, 0, 0, 50, []), (23, 4, 17, 4, 0, []), (26, 2, 0, 0, 1, []), (27, 9, 18, 0, 0, []), (30, 2, 0, 0, 0, []), (31, 0, 1, 0, 0, []), (32, 12, 147, 4, 0, [10]), (35, 14, 0, 0, 0, [])]
def tX11_candles : List PO := [(0, 0, 1, 0, 0, []), (1, 10, 10, 2, 0, []), (4, 0, 1, 0, 0, []), (5, 2, 0, 0, 400, []), (8, 4, 10, 4, 0, []), (11, 0, 2, 0, 0, []), (12, 10, 10, 2, 0, []), (15, 0, 2, 0, 0, []), (16, 2, 0, 0, 1, []), (17, 4, 12, 5, 0, []), (20, 2, 0, 0, (-1), []), (21, 14, 0, 0, 0, []), (22, 1, 0, 0, 0, []), (23, 3, 11, 9, 0, []), (26, 1, 0, 0, 0, []), (27, 3, 11, 0, 0, []), (30, 3, 10, 3, 0, []), (33, 2, 0, 0, 4, []), (34, 25, 0, 0, 0, []), (35, 0, 1, 0, 0, []), (36, 0, 2, 0, 0, []), (37, 10, 24, 1, 0, []), (40, 2, 0, 0, 1, []), (41, 9, 25, 0, 0, []), (44, 2, 0, 0, 0, []), (45, 12, 116, 3, 0, [4]), (48, 14, 0, 0, 0, [])]
def tX11_cell : List PO := [(0, 0, 1, 0, 0, []), (1, 0, 2, 0, 0, []), (2, 13, 28, 2, 0, []), (5, 7, 4, 0, 0, []), (7, 0, 4, 0, 0, []), (9, 2, 0, 0, (-1), []), (10, 4, 12, 0, 0, []), (13, 0, 3, 0, 0, []), (14, 10, 12, 2, 0, []), (17, 0, 3, 0, 0, []), (18, 2, 0, 0, 4, []), (19, 4, 14, 5, 0, []), (22, 2, 0, 0, (-2), []), (24, 14, 0, 0, 0, []), (25, 1, 0, 0, 0, []), (26, 3, 11, 0, 0, []), (29, 3, 10, 0, 0, []), (32, 0, 4, 0, 0, []), (34, 12, 6, 1, 0, [0]), (37, 10, 22, 1, 0, []), (40, 2, 0, 0, 1, []), (41, 9, 23, 0, 0, []), (44, 2, 0, 0, 0, []), (45, 7, 5, 0, 0, []), (47, 0, 3, 0, 0, []), (48, 30, 0, 3, 0, [53, 26, 32, 38, 44]), (80, 1, 0, 0, 0, []), (81, 3, 11, 0, 0, []), (84, 3, 10, 0, 0, []), (87, 0, 4, 0, 0, []), (89, 12, 11, 1, 0, [0]), (92, 14, 0, 0, 0, []), (93, 1, 0, 0, 0, []), (94, 3, 11, 0, 0, []), (97, 3, 10, 0, 0, []), (100, 0, 4, 0, 0, []), (102, 12, 7, 1, 0, [0]), (105, 14, 0, 0, 0, []), (106, 1, 0, 0, 0, []), (107, 3, 11, 0, 0, []), (110, 3, 10, 0, 0, []), (113, 0, 4, 0, 0, []), (115, 12, 15, 1, 0, [0]), (118, 14, 0, 0, 0, []), (119, 0, 5, 0, 0, []), (121, 10, 48, 0, 0, []), (124, 2, 0, 0, (-1), []), (125, 9, 52, 0, 0, []), (128, 1, 0, 0, 0, []), (129, 3, 11, 6, 0, []), (132, 0, 4, 0, 0, []), (134, 12, 96, 1, 0, [1]), (137, 14, 0, 0, 0, []), (138, 0, 5, 0, 0, []), (140, 10, 57, 0, 0, []), (143, 2, 0, 0, (-1), []), (144, 9, 61, 0, 0, []), (147, 1, 0, 0, 0, []), (148, 3, 11, 6, 0, []), (151, 0, 4, 0, 0, []), (153, 12, 10, 1, 0, [1]), (156, 14, 0, 0, 0, [])]
def tX11_could : List PO := [(0, 1, 0, 0, 0, []), (1, 3, 11, 0, 0, []), (4, 3, 10, 0, 0, []), (7, 0, 1, 0, 0, []), (8, 12, 14, 1, 0, [0]), (11, 10, 11, 0, 0, []), (14, 1, 0, 0, 0, []), (15, 3, 11, 0, 0, []), (18, 0, 1, 0, 0, []), (19, 12, 146, 1, 0, [10]), (22, 9, 12, 0, 0, []), (25, 2, 0, 0, (-1), []), (26, 14, 0, 0, 0, [])]
def tX11_door : List PO := [(0, 0, 1, 0, 0, []), (1, 2, 0, 0, 1, []), (2, 4, 13, 2, 0, []), (5, 0, 1, 0, 0, []), (6, 2, 0, 0, 50, []), (8, 4, 13, 4, 0, []), (11, 0, 2, 0, 0, []), (12, 10, 13, 2, 0, []), (15, 0, 2, 0, 0, []), (16, 2, 0, 0, 200, []), (19, 4, 13, 4, 0, []), (22, 2, 0, 0, 1, []), (23, 9, 14, 0, 0, []), (26, 2, 0, 0, 0, []), (27, 7, 3, 0, 0, []), (28, 1, 0, 0, 0, []), (29, 3, 11, 0, 0, []), (32, 2, 0, 0, 5, []), (33, 0, 1, 0, 0, []), (34, 2, 0, 0, (-1), []), (35, 4, 23, 1, 0, []), (38, 2, 0, 0, 1, []), (39, 9, 24, 0, 0, []), (42, 2, 0, 0, 0, []), (43, 0, 3, 0, 0, []), (44, 0, 1, 0, 0, []), (45, 2, 0, 0, 256, []), (48, 6, 2, 0, 0, []), (49, 0, 2, 0, 0, []), (50, 6, 0, 0, 0, []), (51, 12, 147, 4, 0, [10]), (54, 14, 0, 0, 0, [])]
def tX11_end : List PO := [(0, 0, 1, 0, 0, []), (1, 10, 7, 2, 0, []), (4, 0, 1, 0, 0, []), (5, 1, 0, 0, 0, []), (6, 3, 11, 4, 0, []), (9, 3, 5, 1, 0, []), (12, 4, 9, 5, 0, []), (15, 2, 0, 0, 0, []), (16, 15, 0, 0, 0, []), (17, 1, 0, 0, 0, []), (18, 3, 11, 4, 0, []), (21, 0, 1, 0, 0, []), (22, 19, 5, 1, 0, []), (25, 2, 0, 0, 1, []), (26, 15, 0, 0, 0, [])]
def tX11_fault : List PO := [(0, 0, 1, 0, 0, []), (1, 10, 6, 1, 0, []), (4, 1, 0, 0, 0, []), (5, 3, 11, 4, 0, []), (8, 3, 5, 7, 0, []), (11, 14, 0, 0, 0, []), (12, 0, 1, 0, 0, []), (13, 2, 0, 0, 1, []), (14, 4, 13, 1, 0, []), (17, 1, 0, 0, 0, []), (18, 3, 11, 4, 0, []), (21, 3, 5, 8, 0, []), (24, 9, 14, 0, 0, []), (27, 2, 0, 0, (-1), []), (28, 14, 0, 0, 0, [])]
def tX11_feed : List PO := [(0, 1, 0, 0, 0, []), (1, 3, 11, 4, 0, []), (4, 3, 5, 1, 0, []), (7, 2, 0, 0, 20, []), (9, 6, 0, 0, 0, []), (10, 2, 0, 0, 400, []), (13, 4, 9, 5, 0, []), (16, 2, 0, 0, (-1), []), (17, 14, 0, 0, 0, []), (18, 1, 0, 0, 0, []), (19, 3, 11, 4, 0, []), (22, 0, 1, 0, 0, []), (23, 12, 136, 1, 0, [5]), (26, 1, 0, 0, 0, []), (27, 3, 11, 4, 0, []), (30, 0, 2, 0, 0, []), (31, 12, 136, 1, 0, [5]), (34, 1, 0, 0, 0, []), (35, 3, 11, 4, 0, []), (38, 0, 3, 0, 0, []), (39, 12, 136, 1, 0, [5]), (42, 1, 0, 0, 0, []), (43, 3, 11, 4, 0, []), (46, 0, 4, 0, 0, []), (48, 12, 136, 1, 0, [5]), (51, 1, 0, 0, 0, []), (52, 3, 11, 4, 0, []), (55, 0, 5, 0, 0, []), (57, 12, 136, 1, 0, [5]), (60, 1, 0, 0, 0, []), (61, 3, 11, 4, 0, []), (64, 3, 5, 1, 0, []), (67, 14, 0, 0, 0, [])]
def tX11_goes : List PO := [(0, 0, 1, 0, 0, []), (1, 2, 0, 0, 1, []), (2, 4, 11, 2, 0, []), (5, 0, 1, 0, 0, []), (6, 2, 0, 0, 60, []), (8, 4, 11, 4, 0, []), (11, 0, 2, 0, 0, []), (12, 10, 11, 2, 0, []), (15, 0, 2, 0, 0, []), (16, 2, 0, 0, 3, []), (17, 4, 13, 5, 0, []), (20, 2, 0, 0, (-100000), []), (22, 14, 0, 0, 0, []), (23, 1, 0, 0, 0, []), (24, 3, 11, 5, 0, []), (27, 1, 0, 0, 0, []), (28, 3, 11, 0, 0, []), (31, 3, 10, 0, 0, []), (34, 12, 90, 1, 0, [0]), (37, 2, 0, 0, 0, []), (38, 7, 3, 0, 0, []), (39, 0, 3, 0, 0, []), (40, 0, 1, 0, 0, []), (41, 4, 30, 3, 0, []), (44, 1, 0, 0, 0, []), (45, 3, 11, 7, 0, []), (48, 12, 98, 0, 0, [1]), (51, 23, 0, 0, 0, []), (52, 8, 3, 0, 1, []), (55, 9, 21, 0, 0, []), (58, 0, 2, 0, 0, []), (59, 30, 0, 2, 0, [44, 32, 36, 40]), (84, 1, 0, 0, 0, []), (85, 3, 11, 5, 0, []), (88, 3, 0, 6, 0, []), (91, 14, 0, 0, 0, []), (92, 1, 0, 0, 0, []), (93, 3, 11, 5, 0, []), (96, 12, 82, 0, 0, [0]), (99, 14, 0, 0, 0, []), (100, 1, 0, 0, 0, []), (101, 3, 11, 7, 0, []), (104, 12, 5, 0, 0, [1]), (107, 14, 0, 0, 0, []), (108, 1, 0, 0, 0, []), (109, 3, 11, 5, 0, []), (112, 12, 81, 0, 0, [0]), (115, 14, 0, 0, 0, [])]
def tX11_hand : List PO := [(0, 1, 0, 0, 0, []), (1, 3, 11, 0, 0, []), (4, 3, 10, 0, 0, []), (7, 0, 1, 0, 0, []), (8, 12, 14, 1, 0, [0]), (11, 10, 19, 0, 0, []), (14, 0, 2, 0, 0, []), (15, 10, 19, 2, 0, []), (18, 0, 2, 0, 0, []), (19, 2, 0, 0, 2, []), (20, 4, 19, 4, 0, []), (23, 1, 0, 0, 0, []), (24, 3, 11, 0, 0, []), (27, 3, 10, 0, 0, []), (30, 0, 1, 0, 0, []), (31, 2, 0, 0, 4, []), (32, 12, 13, 2, 0, [0]), (35, 0, 2, 0, 0, []), (36, 4, 21, 1, 0, []), (39, 2, 0, 0, 0, []), (40, 15, 0, 0, 0, []), (41, 1, 0, 0, 0, []), (42, 3, 11, 3, 0, []), (45, 1, 0, 0, 0, []), (46, 3, 11, 0, 0, []), (49, 3, 10, 0, 0, []), (52, 12, 141, 1, 0, [7]), (55, 1, 0, 0, 0, []), (56, 3, 11, 0, 0, []), (59, 3, 10, 0, 0, []), (62, 0, 1, 0, 0, []), (63, 2, 0, 0, 4, []), (64, 0, 2, 0, 0, []), (65, 12, 87, 3, 0, [0]), (68, 2, 0, 0, 1, []), (69, 15, 0, 0, 0, [])]
def tX11_hours : List PO := [(0, 0, 1, 0, 0, []), (1, 2, 0, 0, 1, []), (2, 4, 21, 2, 0, []), (5, 0, 1, 0, 0, []), (6, 2, 0, 0, 60, []), (8, 4, 21, 4, 0, []), (11, 1, 0, 0, 0, []), (12, 3, 11, 0, 0, []), (15, 3, 10, 0, 0, []), (18, 3, 0, 5, 0, []), (21, 1, 0, 0, 0, []), (22, 3, 11, 0, 0, []), (25, 3, 10, 0, 0, []), (28, 3, 0, 4, 0, []), (31, 0, 1, 0, 0, []), (32, 6, 0, 0, 0, []), (33, 2, 0, 0, 12, []), (35, 17, 0, 0, 0, []), (36, 6, 0, 0, 0, []), (37, 2, 0, 0, 9990, []), (40, 4, 23, 5, 0, []), (43, 2, 0, 0, (-1), []), (44, 14, 0, 0, 0, []), (45, 2, 0, 0, 0, []), (46, 7, 2, 0, 0, []), (47, 2, 0, 0, 0, []), (48, 7, 3, 0, 0, []), (49, 0, 3, 0, 0, []), (50, 0, 1, 0, 0, []), (51, 4, 49, 3, 0, []), (54, 0, 1, 0, 0, []), (55, 0, 3, 0, 0, []), (56, 6, 1, 0, 0, []), (57, 2, 0, 0, 6, []), (59, 4, 41, 4, 0, []), (62, 1, 0, 0, 0, []), (63, 3, 11, 3, 0, []), (66, 1, 0, 0, 0, []), (67, 3, 11, 0, 0, []), (70, 3, 10, 0, 0, []), (73, 12, 141, 1, 0, [7]), (76, 0, 2, 0, 0, []), (77, 1, 0, 0, 0, []), (78, 3, 11, 6, 0, []), (81, 12, 98, 0, 0, [1]), (84, 6, 0, 0, 0, []), (85, 7, 2, 0, 0, []), (86, 8, 3, 0, 1, []), (89, 9, 27, 0, 0, []), (92, 0, 2, 0, 0, []), (93, 14, 0, 0, 0, [])]
def tX11_house : List PO := [(0, 1, 0, 0, 0, []), (1, 3, 11, 0, 0, []), (4, 2, 0, 0, 1, []), (5, 0, 1, 0, 0, []), (6, 2, 0, 0, (-1), []), (7, 4, 8, 1, 0, []), (10, 2, 0, 0, 1, []), (11, 9, 9, 0, 0, []), (14, 2, 0, 0, 0, []), (15, 0, 1, 0, 0, []), (16, 10, 14, 0, 0, []), (19, 0, 1, 0, 0, []), (20, 2, 0, 0, 1, []), (21, 4, 16, 1, 0, []), (24, 2, 0, 0, 1, []), (25, 9, 17, 0, 0, []), (28, 2, 0, 0, 0, []), (29, 0, 1, 0, 0, []), (30, 12, 147, 4, 0, [10]), (33, 14, 0, 0, 0, [])]
def tX11_image : List PO := [(0, 0, 1, 0, 0, []), (1, 10, 12, 0, 0, []), (4, 1, 0, 0, 0, []), (5, 3, 11, 1, 0, []), (8, 1, 0, 0, 0, []), (9, 3, 11, 0, 0, []), (12, 12, 145, 1, 0, [10]), (15, 1, 0, 0, 0, []), (16, 2, 0, 0, 1, []), (17, 19, 11, 2, 1, []), (20, 2, 0, 0, 1, []), (21, 15, 0, 0, 0, []), (22, 1, 0, 0, 0, []), (23, 3, 11, 2, 0, []), (26, 10, 23, 0, 0, []), (29, 1, 0, 0, 0, []), (30, 3, 11, 0, 0, []), (33, 1, 0, 0, 0, []), (34, 3, 11, 1, 0, []), (37, 12, 145, 1, 0, [10]), (40, 1, 0, 0, 0, []), (41, 3, 11, 3, 0, []), (44, 12, 139, 0, 0, [7]), (47, 1, 0, 0, 0, []), (48, 3, 11, 2, 0, []), (51, 15, 0, 0, 0, [])]
def tX11_lantern : List PO := [(0, 0, 1, 0, 0, []), (1, 10, 10, 2, 0, []), (4, 0, 1, 0, 0, []), (5, 2, 0, 0, 40, []), (7, 4, 10, 4, 0, []), (10, 0, 2, 0, 0, []), (11, 10, 10, 2, 0, []), (14, 0, 2, 0, 0, []), (15, 2, 0, 0, 1, []), (16, 4, 12, 5, 0, []), (19, 2, 0, 0, (-1), []), (20, 14, 0, 0, 0, []), (21, 1, 0, 0, 0, []), (22, 3, 11, 9, 0, []), (25, 1, 0, 0, 0, []), (26, 3, 11, 0, 0, []), (29, 3, 10, 3, 0, []), (32, 2, 0, 0, 6, []), (34, 25, 0, 0, 0, []), (35, 0, 1, 0, 0, []), (36, 0, 2, 0, 0, []), (37, 10, 24, 1, 0, []), (40, 2, 0, 0, 1, []), (41, 9, 25, 0, 0, []), (44, 2, 0, 0, 0, []), (45, 12, 115, 3, 0, [4]), (48, 14, 0, 0, 0, [])]
def tX11_lift : List PO := [(0, 0, 1, 0, 0, []), (1, 0, 2, 0, 0, []), (2, 13, 28, 2, 0, []), (5, 7, 3, 0, 0, []), (6, 1, 0, 0, 0, []), (7, 3, 11, 0, 0, []), (10, 3, 10, 0, 0, []), (13, 0, 3, 0, 0, []), (14, 12, 6, 1, 0, [0]), (17, 10, 12, 1, 0, []), (20, 2, 0, 0, 0, []), (21, 15, 0, 0, 0, []), (22, 1, 0, 0, 0, []), (23, 3, 11, 3, 0, []), (26, 1, 0, 0, 0, []), (27, 3, 11, 0, 0, []), (30, 3, 10, 0, 0, []), (33, 12, 141, 1, 0, [7]), (36, 1, 0, 0, 0, []), (37, 3, 11, 6, 0, []), (40, 0, 3, 0, 0, []), (41, 2, 0, 0, 3, []), (42, 12, 101, 2, 0, [1]), (45, 2, 0, 0, 1, []), (46, 15, 0, 0, 0, [])]
def tX11_look : List PO := [(0, 0, 1, 0, 0, []), (1, 2, 0, 0, 9, []), (3, 4, 13, 2, 0, []), (6, 0, 1, 0, 0, []), (7, 2, 0, 0, 12, []), (9, 4, 13, 4, 0, []), (12, 1, 0, 0, 0, []), (13, 3, 11, 0, 0, []), (16, 0, 1, 0, 0, []), (17, 2, 0, 0, 9, []), (19, 6, 1, 0, 0, []), (20, 12, 144, 1, 0, [10]), (23, 14, 0, 0, 0, []), (24, 0, 1, 0, 0, []), (25, 30, 0, 13, 0, [64, 15, 20, 25, 30, 35, 40, 45, 50, 55, 64, 64, 64, 64, 60]), (96, 1, 0, 0, 0, []), (97, 3, 11, 0, 0, []), (100, 3, 10, 0, 0, []), (103, 3, 0, 2, 0, []), (106, 14, 0, 0, 0, []), (107, 1, 0, 0, 0, []), (108, 3, 11, 0, 0, []), (111, 3, 10, 0, 0, []), (114, 12, 82, 0, 0, [0]), (117, 14, 0, 0, 0, []), (118, 1, 0, 0, 0, []), (119, 3, 11, 0, 0, []), (122, 3, 10, 0, 0, []), (125, 3, 0, 3, 0, []), (128, 14, 0, 0, 0, []), (129, 1, 0, 0, 0, []), (130, 3, 11, 0, 0, []), (133, 3, 10, 0, 0, []), (136, 3, 0, 4, 0, []), (139, 14, 0, 0, 0, []), (140, 1, 0, 0, 0, []), (141, 3, 11, 0, 0, []), (144, 3, 10, 0, 0, []), (147, 3, 0, 5, 0, []), (150, 14, 0, 0, 0, []), (151, 1, 0, 0, 0, []), (152, 3, 11, 0, 0, []), (155, 3, 10, 0, 0, []), (158, 3, 0, 6, 0, []), (161, 14, 0, 0, 0, []), (162, 1, 0, 0, 0, []), (163, 3, 11, 0, 0, []), (166, 3, 10, 0, 0, []), (169, 3, 0, 7, 0, []), (172, 14, 0, 0, 0, []), (173, 1, 0, 0, 0, []), (174, 3, 11, 0, 0, []), (177, 3, 10, 0, 0, []), (180, 3, 0, 9, 0, []), (183, 14, 0, 0, 0, []), (184, 1, 0, 0, 0, []), (185, 3, 11, 0, 0, []), (188, 3, 10, 0, 0, []), (191, 3, 0, 8, 0, []), (194, 14, 0, 0, 0, []), (195, 1, 0, 0, 0, []), (196, 3, 11, 3, 0, []), (199, 3, 7, 2, 0, []), (202, 14, 0, 0, 0, []), (203, 2, 0, 0, (-1), []), (204, 14, 0, 0, 0, [])]
def tX11_middle : List PO := [(0, 0, 1, 0, 0, []), (1, 30, 0, 3, 0, [38, 2, 11, 20, 29]), (32, 1, 0, 0, 0, []), (33, 3, 11, 9, 0, []), (36, 1, 0, 0, 0, []), (37, 3, 11, 0, 0, []), (40, 3, 10, 3, 0, []), (43, 2, 0, 0, 2, []), (44, 25, 0, 0, 0, []), (45, 12, 109, 1, 0, [4]), (48, 14, 0, 0, 0, []), (49, 1, 0, 0, 0, []), (50, 3, 11, 9, 0, []), (53, 1, 0, 0, 0, []), (54, 3, 11, 0, 0, []), (57, 3, 10, 3, 0, []), (60, 2, 0, 0, 2, []), (61, 25, 0, 0, 0, []), (62, 12, 106, 1, 0, [4]), (65, 14, 0, 0, 0, []), (66, 1, 0, 0, 0, []), (67, 3, 11, 9, 0, []), (70, 1, 0, 0, 0, []), (71, 3, 11, 0, 0, []), (74, 3, 10, 3, 0, []), (77, 2, 0, 0, 3, []), (78, 25, 0, 0, 0, []), (79, 12, 110, 1, 0, [4]), (82, 14, 0, 0, 0, []), (83, 1, 0, 0, 0, []), (84, 3, 11, 9, 0, []), (87, 1, 0, 0, 0, []), (88, 3, 11, 0, 0, []), (91, 3, 10, 3, 0, []), (94, 2, 0, 0, 3, []), (95, 25, 0, 0, 0, []), (96, 12, 112, 1, 0, [4]), (99, 14, 0, 0, 0, []), (100, 2, 0, 0, (-1), []), (101, 14, 0, 0, 0, [])]
def tX11_name : List PO := [(0, 1, 0, 0, 0, []), (1, 3, 11, 0, 0, []), (4, 2, 0, 0, 3, []), (5, 0, 1, 0, 0, []), (6, 2, 0, 0, (-1), []), (7, 4, 8, 1, 0, []), (10, 2, 0, 0, 1, []), (11, 9, 9, 0, 0, []), (14, 2, 0, 0, 0, []), (15, 0, 1, 0, 0, []), (16, 10, 16, 2, 0, []), (19, 0, 1, 0, 0, []), (20, 2, 0, 0, 9, []), (22, 4, 16, 4, 0, []), (25, 2, 0, 0, 1, []), (26, 9, 17, 0, 0, []), (29, 2, 0, 0, 0, []), (30, 0, 1, 0, 0, []), (31, 12, 147, 4, 0, [10]), (34, 14, 0, 0, 0, [])]
def tX11_of : List PO := [(0, 1, 0, 0, 0, []), (1, 3, 11, 0, 0, []), (4, 3, 10, 0, 0, []), (7, 0, 1, 0, 0, []), (8, 12, 14, 1, 0, [0]), (11, 10, 11, 0, 0, []), (14, 0, 2, 0, 0, []), (15, 10, 11, 2, 0, []), (18, 0, 2, 0, 0, []), (19, 2, 0, 0, 7, []), (21, 4, 13, 5, 0, []), (24, 2, 0, 0, (-2), []), (26, 14, 0, 0, 0, []), (27, 0, 2, 0, 0, []), (28, 2, 0, 0, 6, []), (30, 4, 21, 1, 0, []), (33, 1, 0, 0, 0, []), (34, 3, 11, 6, 0, []), (37, 0, 1, 0, 0, []), (38, 12, 92, 1, 0, [1]), (41, 14, 0, 0, 0, []), (42, 0, 2, 0, 0, []), (43, 2, 0, 0, 7, []), (45, 4, 29, 1, 0, []), (48, 1, 0, 0, 0, []), (49, 3, 11, 0, 0, []), (52, 0, 1, 0, 0, []), (53, 12, 148, 1, 0, [10]), (56, 9, 35, 0, 0, []), (59, 1, 0, 0, 0, []), (60, 3, 11, 0, 0, []), (63, 3, 10, 0, 0, []), (66, 0, 1, 0, 0, []), (67, 0, 2, 0, 0, []), (68, 12, 13, 2, 0, [0]), (71, 14, 0, 0, 0, [])]
def tX11_parishes : List PO := [(0, 1, 0, 0, 0, []), (1, 3, 11, 0, 0, []), (4, 3, 10, 3, 0, []), (7, 2, 0, 0, 1, []), (8, 25, 0, 0, 0, []), (9, 31, 3, 0, 0, []), (10, 0, 1, 0, 0, []), (11, 2, 0, 0, 1, []), (12, 4, 21, 2, 0, []), (15, 0, 1, 0, 0, []), (16, 2, 0, 0, 8, []), (18, 4, 21, 4, 0, []), (21, 0, 1, 0, 0, []), (22, 1, 3, 0, 0, []), (23, 3, 9, 1, 0, []), (26, 4, 21, 4, 0, []), (29, 0, 2, 0, 0, []), (30, 10, 21, 2, 0, []), (33, 0, 2, 0, 0, []), (34, 2, 0, 0, 1, []), (35, 4, 23, 5, 0, []), (38, 2, 0, 0, (-1), []), (39, 14, 0, 0, 0, []), (40, 1, 0, 0, 0, []), (41, 3, 11, 9, 0, []), (44, 1, 3, 0, 0, []), (45, 0, 1, 0, 0, []), (46, 0, 2, 0, 0, []), (47, 10, 31, 1, 0, []), (50, 2, 0, 0, 1, []), (51, 9, 32, 0, 0, []), (54, 2, 0, 0, 0, []), (55, 12, 113, 3, 0, [4]), (58, 14, 0, 0, 0, [])]
def tX11_party : List PO := [(0, 1, 0, 0, 0, []), (1, 3, 11, 0, 0, []), (4, 2, 0, 0, 0, []), (5, 0, 1, 0, 0, []), (6, 2, 0, 0, (-1), []), (7, 4, 8, 1, 0, []), (10, 2, 0, 0, 1, []), (11, 9, 9, 0, 0, []), (14, 2, 0, 0, 0, []), (15, 0, 1, 0, 0, []), (16, 10, 16, 2, 0, []), (19, 0, 1, 0, 0, []), (20, 2, 0, 0, 999, []), (23, 4, 16, 4, 0, []), (26, 2, 0, 0, 1, []), (27, 9, 17, 0, 0, []), (30, 2, 0, 0, 0, []), (31, 0, 1, 0, 0, []), (32, 12, 147, 4, 0, [10]), (35, 14, 0, 0, 0, [])]
def tX11_press : List PO := [(0, 1, 0, 0, 0, []), (1, 3, 11, 0, 0, []), (4, 3, 10, 0, 0, []), (7, 0, 1, 0, 0, []), (8, 12, 84, 1, 0, [0]), (11, 10, 11, 0, 0, []), (14, 0, 2, 0, 0, []), (15, 10, 11, 2, 0, []), (18, 0, 2, 0, 0, []), (19, 2, 0, 0, 12, []), (21, 4, 13, 2, 0, []), (24, 2, 0, 0, (-1), []), (25, 14, 0, 0, 0, []), (26, 1, 0, 0, 0, []), (27, 3, 11, 3, 0, []), (30, 1, 0, 0, 0, []), (31, 3, 11, 0, 0, []), (34, 3, 10, 0, 0, []), (37, 12, 141, 1, 0, [7]), (40, 1, 0, 0, 0, []), (41, 3, 11, 6, 0, []), (44, 0, 1, 0, 0, []), (45, 0, 2, 0, 0, []), (46, 12, 94, 2, 0, [1]), (49, 14, 0, 0, 0, [])]
def tX11_seats : List PO := [(0, 1, 0, 0, 0, []), (1, 3, 11, 0, 0, []), (4, 3, 10, 3, 0, []), (7, 2, 0, 0, 0, []), (8, 25, 0, 0, 0, []), (9, 31, 4, 0, 0, []), (11, 0, 1, 0, 0, []), (12, 2, 0, 0, 1, []), (13, 4, 23, 2, 0, []), (16, 0, 1, 0, 0, []), (17, 2, 0, 0, 40, []), (19, 4, 23, 4, 0, []), (22, 0, 2, 0, 0, []), (23, 10, 23, 2, 0, []), (26, 0, 2, 0, 0, []), (27, 2, 0, 0, 1, []), (28, 4, 23, 4, 0, []), (31, 0, 3, 0, 0, []), (32, 10, 23, 2, 0, []), (35, 0, 3, 0, 0, []), (36, 1, 4, 0, 0, []), (38, 3, 9, 1, 0, []), (41, 4, 25, 2, 0, []), (44, 2, 0, 0, (-1), []), (45, 14, 0, 0, 0, []), (46, 1, 0, 0, 0, []), (47, 3, 11, 9, 0, []), (50, 1, 4, 0, 0, []), (52, 0, 1, 0, 0, []), (53, 0, 2, 0, 0, []), (54, 0, 3, 0, 0, []), (55, 12, 114, 4, 0, [4]), (58, 14, 0, 0, 0, [])]
def tX11_set : List PO := [(0, 0, 1, 0, 0, []), (1, 2, 0, 0, 4, []), (2, 4, 16, 1, 0, []), (5, 0, 3, 0, 0, []), (6, 10, 8, 2, 0, []), (9, 0, 3, 0, 0, []), (10, 2, 0, 0, 9, []), (12, 4, 10, 5, 0, []), (15, 2, 0, 0, 0, []), (16, 15, 0, 0, 0, []), (17, 1, 0, 0, 0, []), (18, 3, 11, 0, 0, []), (21, 3, 10, 0, 0, []), (24, 0, 3, 0, 0, []), (25, 19, 0, 3, 0, []), (28, 9, 35, 0, 0, []), (31, 1, 0, 0, 0, []), (32, 3, 11, 0, 0, []), (35, 3, 10, 0, 0, []), (38, 0, 2, 0, 0, []), (39, 12, 14, 1, 0, [0]), (42, 10, 26, 0, 0, []), (45, 0, 1, 0, 0, []), (46, 0, 3, 0, 0, []), (47, 13, 181, 2, 0, []), (50, 10, 28, 1, 0, []), (53, 2, 0, 0, 0, []), (54, 15, 0, 0, 0, []), (55, 1, 0, 0, 0, []), (56, 3, 11, 0, 0, []), (59, 3, 10, 0, 0, []), (62, 0, 2, 0, 0, []), (63, 0, 1, 0, 0, []), (64, 0, 3, 0, 0, []), (65, 12, 87, 3, 0, [0]), (68, 1, 0, 0, 0, []), (69, 3, 11, 3, 0, []), (72, 12, 139, 0, 0, [7]), (75, 2, 0, 0, 1, []), (76, 15, 0, 0, 0, [])]
def tX11_stack : List PO := [(0, 1, 0, 0, 0, []), (1, 3, 11, 9, 0, []), (4, 1, 0, 0, 0, []), (5, 3, 11, 0, 0, []), (8, 3, 10, 3, 0, []), (11, 2, 0, 0, 5, []), (12, 25, 0, 0, 0, []), (13, 12, 111, 1, 0, [4]), (16, 14, 0, 0, 0, [])]
def tX11_stands : List PO := [(0, 1, 0, 0, 0, []), (1, 3, 11, 0, 0, []), (4, 2, 0, 0, 6, []), (6, 0, 1, 0, 0, []), (7, 2, 0, 0, (-1), []), (8, 4, 8, 1, 0, []), (11, 2, 0, 0, 1, []), (12, 9, 9, 0, 0, []), (15, 2, 0, 0, 0, []), (16, 0, 1, 0, 0, []), (17, 10, 16, 2, 0, []), (20, 0, 1, 0, 0, []), (21, 2, 0, 0, 30, []), (23, 4, 16, 4, 0, []), (26, 2, 0, 0, 1, []), (27, 9, 17, 0, 0, []), (30, 2, 0, 0, 0, []), (31, 0, 1, 0, 0, []), (32, 12, 147, 4, 0, [10]), (35, 14, 0, 0, 0, [])]
def tX11_state : List PO := [(0, 1, 0, 0, 0, []), (1, 3, 11, 0, 0, []), (4, 3, 10, 0, 0, []), (7, 3, 0, 8, 0, []), (10, 7, 2, 0, 0, []), (11, 1, 0, 0, 0, []), (12, 3, 11, 0, 0, []), (15, 3, 10, 0, 0, []), (18, 0, 1, 0, 0, []), (19, 19, 0, 8, 0, []), (22, 1, 0, 0, 0, []), (23, 3, 11, 3, 0, []), (26, 12, 139, 0, 0, [7]), (29, 0, 2, 0, 0, []), (30, 14, 0, 0, 0, [])]
def tX11_text : List PO := [(0, 1, 0, 0, 0, []), (1, 3, 11, 4, 0, []), (4, 0, 1, 0, 0, []), (5, 1, 0, 0, 0, []), (6, 3, 11, 0, 0, []), (9, 3, 10, 0, 0, []), (12, 3, 0, 2, 0, []), (15, 12, 131, 2, 0, [5]), (18, 31, 2, 0, 0, []), (19, 1, 2, 0, 0, []), (20, 33, 16, 0, 0, []), (23, 0, 1, 0, 0, []), (24, 10, 16, 2, 0, []), (27, 0, 1, 0, 0, []), (28, 2, 0, 0, 4, []), (29, 4, 18, 2, 0, []), (32, 2, 0, 0, (-1), []), (33, 14, 0, 0, 0, []), (34, 1, 0, 0, 0, []), (35, 3, 11, 0, 0, []), (38, 3, 10, 2, 0, []), (41, 0, 1, 0, 0, []), (42, 1, 2, 0, 0, []), (43, 36, 0, 0, 0, []), (44, 0, 1, 0, 0, []), (45, 2, 0, 0, 1, []), (46, 4, 30, 0, 0, []), (49, 0, 1, 0, 0, []), (50, 2, 0, 0, 2, []), (51, 4, 33, 1, 0, []), (54, 1, 0, 0, 0, []), (55, 3, 11, 3, 0, []), (58, 12, 139, 0, 0, [7]), (61, 1, 2, 0, 0, []), (62, 3, 8, 1, 0, []), (65, 14, 0, 0, 0, [])]
def tX11_traitCan : List PO := [(0, 0, 0, 0, 0, []), (1, 30, 0, 3, 0, [39, 2, 11, 21, 30]), (32, 0, 1, 0, 0, []), (33, 10, 9, 2, 0, []), (36, 0, 1, 0, 0, []), (37, 2, 0, 0, 255, []), (40, 4, 9, 4, 0, []), (43, 2, 0, 0, 1, []), (44, 9, 10, 0, 0, []), (47, 2, 0, 0, 0, []), (48, 15, 0, 0, 0, []), (49, 0, 1, 0, 0, []), (50, 2, 0, 0, (-1), []), (51, 4, 19, 2, 0, []), (54, 0, 1, 0, 0, []), (55, 2, 0, 0, 1, []), (56, 4, 19, 4, 0, []), (59, 2, 0, 0, 1, []), (60, 9, 20, 0, 0, []), (63, 2, 0, 0, 0, []), (64, 15, 0, 0, 0, []), (65, 0, 1, 0, 0, []), (66, 10, 28, 2, 0, []), (69, 0, 1, 0, 0, []), (70, 2, 0, 0, 12, []), (72, 4, 28, 3, 0, []), (75, 2, 0, 0, 1, []), (76, 9, 29, 0, 0, []), (79, 2, 0, 0, 0, []), (80, 15, 0, 0, 0, []), (81, 0, 1, 0, 0, []), (82, 10, 37, 2, 0, []), (85, 0, 1, 0, 0, []), (86, 2, 0, 0, 9, []), (88, 4, 37, 4, 0, []), (91, 2, 0, 0, 1, []), (92, 9, 38, 0, 0, []), (95, 2, 0, 0, 0, []), (96, 15, 0, 0, 0, []), (97, 2, 0, 0, 0, []), (98, 15, 0, 0, 0, [])]
def tX11_undo : List PO := [(0, 1, 0, 0, 0, []), (1, 3, 11, 3, 0, []), (4, 1, 0, 0, 0, []), (5, 3, 11, 0, 0, []), (8, 3, 10, 0, 0, []), (11, 12, 140, 1, 0, [7]), (14, 15, 0, 0, 0, [])]
def tX11_unlikeBills : List PO := [(0, 0, 0, 0, 0, []), (1, 10, 15, 2, 0, []), (4, 0, 0, 0, 0, []), (5, 2, 0, 0, 8, []), (7, 4, 15, 3, 0, []), (10, 0, 1, 0, 0, []), (11, 10, 15, 2, 0, []), (14, 0, 1, 0, 0, []), (15, 2, 0, 0, 8, []), (17, 4, 15, 3, 0, []), (20, 0, 0, 0, 0, []), (21, 0, 1, 0, 0, []), (22, 4, 15, 0, 0, []), (25, 2, 0, 0, 1, []), (26, 9, 16, 0, 0, []), (29, 2, 0, 0, 0, []), (30, 15, 0, 0, 0, [])]
def tX11_voter : List PO := [(0, 2, 0, 0, 0, []), (1, 0, 1, 0, 0, []), (2, 13, 181, 2, 0, []), (5, 10, 18, 0, 0, []), (8, 2, 0, 0, 1, []), (9, 0, 2, 0, 0, []), (10, 13, 181, 2, 0, []), (13, 10, 18, 0, 0, []), (16, 2, 0, 0, 2, []), (17, 0, 3, 0, 0, []), (18, 13, 181, 2, 0, []), (21, 10, 18, 0, 0, []), (24, 2, 0, 0, 3, []), (25, 0, 4, 0, 0, []), (27, 13, 181, 2, 0, []), (30, 10, 18, 0, 0, []), (33, 2, 0, 0, 1, []), (34, 9, 19, 0, 0, []), (37, 2, 0, 0, 0, []), (38, 7, 5, 0, 0, []), (40, 0, 5, 0, 0, []), (42, 10, 28, 0, 0, []), (45, 1, 0, 0, 0, []), (46, 3, 11, 0, 0, []), (49, 3, 10, 0, 0, []), (52, 3, 0, 2, 0, []), (55, 2, 0, 0, 20, []), (57, 4, 30, 2, 0, []), (60, 2, 0, 0, (-1), []), (61, 14, 0, 0, 0, []), (62, 1, 0, 0, 0, []), (63, 3, 11, 0, 0, []), (66, 3, 10, 0, 0, []), (69, 3, 0, 2, 0, []), (72, 7, 6, 0, 0, []), (74, 1, 0, 0, 0, []), (75, 3, 11, 0, 0, []), (78, 3, 10, 0, 0, []), (81, 0, 6, 0, 0, []), (83, 2, 0, 0, 1, []), (84, 6, 0, 0, 0, []), (85, 19, 0, 2, 0, []), (88, 1, 0, 0, 0, []), (89, 3, 11, 0, 0, []), (92, 3, 10, 0, 0, []), (95, 0, 6, 0, 0, []), (97, 2, 0, 0, 0, []), (98, 0, 1, 0, 0, []), (99, 12, 87, 3, 0, [0]), (102, 1, 0, 0, 0, []), (103, 3, 11, 0, 0, []), (106, 3, 10, 0, 0, []), (109, 0, 6, 0, 0, []), (111, 2, 0, 0, 1, []), (112, 0, 2, 0, 0, []), (113, 12, 87, 3, 0, [0]), (116, 1, 0, 0, 0, []), (117, 3, 11, 0, 0, []), (120, 3, 10, 0, 0, []), (123, 0, 6, 0, 0, []), (125, 2, 0, 0, 2, []), (126, 0, 3, 0, 0, []), (127, 12, 87, 3, 0, [0]), (130, 1, 0, 0, 0, []), (131, 3, 11, 0, 0, []), (134, 3, 10, 0, 0, []), (137, 0, 6, 0, 0, []), (139, 2, 0, 0, 3, []), (140, 0, 4, 0, 0, []), (142, 12, 87, 3, 0, [0]), (145, 1, 0, 0, 0, []), (146, 3, 11, 0, 0, []), (149, 3, 10, 0, 0, []), (152, 0, 6, 0, 0, []), (154, 2, 0, 0, 4, []), (155, 2, 0, 0, 0, []), (156, 12, 87, 3, 0, [0]), (159, 1, 0, 0, 0, []), (160, 3, 11, 0, 0, []), (163, 3, 10, 0, 0, []), (166, 0, 6, 0, 0, []), (168, 2, 0, 0, 5, []), (169, 2, 0, 0, 0, []), (170, 12, 87, 3, 0, [0]), (173, 1, 0, 0, 0, []), (174, 3, 11, 3, 0, []), (177, 12, 139, 0, 0, [7]), (180, 0, 6, 0, 0, []), (182, 14, 0, 0, 0, [])]
def tX11_whose : List PO := [(0, 0, 1, 0, 0, []), (1, 10, 11, 2, 0, []), (4, 0, 1, 0, 0, []), (5, 2, 0, 0, 255, []), (8, 4, 11, 4, 0, []), (11, 0, 2, 0, 0, []), (12, 2, 0, 0, (-1), []), (13, 4, 11, 2, 0, []), (16, 0, 2, 0, 0, []), (17, 2, 0, 0, 8, []), (19, 4, 13, 5, 0, []), (22, 2, 0, 0, (-1), []), (23, 14, 0, 0, 0, []), (24, 0, 2, 0, 0, []), (25, 2, 0, 0, (-1), []), (26, 4, 22, 1, 0, []), (29, 1, 0, 0, 0, []), (30, 3, 11, 0, 0, []), (33, 3, 10, 0, 0, []), (36, 0, 1, 0, 0, []), (37, 12, 85, 1, 0, [0]), (40, 9, 28, 0, 0, []), (43, 1, 0, 0, 0, []), (44, 3, 11, 0, 0, []), (47, 3, 10, 0, 0, []), (50, 0, 1, 0, 0, []), (51, 0, 2, 0, 0, []), (52, 12, 80, 2, 0, [0]), (55, 14, 0, 0, 0, [])]
def tX11_wish : List PO := [(0, 1, 0, 0, 0, []), (1, 3, 11, 0, 0, []), (4, 2, 0, 0, 2, []), (5, 0, 1, 0, 0, []), (6, 2, 0, 0, (-1), []), (7, 4, 8, 1, 0, []), (10, 2, 0, 0, 1, []), (11, 9, 9, 0, 0, []), (14, 2, 0, 0, 0, []), (15, 0, 1, 0, 0, []), (16, 10, 16, 2, 0, []), (19, 0, 1, 0, 0, []), (20, 2, 0, 0, 99, []), (22, 4, 16, 4, 0, []), (25, 2, 0, 0, 1, []), (26, 9, 17, 0, 0, []), (29, 2, 0, 0, 0, []), (30, 0, 1, 0, 0, []), (31, 12, 147, 4, 0, [10]), (34, 14, 0, 0, 0, [])]
def tX12_apart : List PO := [(0, 0, 1, 0, 0, []), (1, 0, 2, 0, 0, []), (2, 4, 7, 5, 0, []), (5, 0, 1, 0, 0, []), (6, 0, 2, 0, 0, []), (7, 6, 1, 0, 0, []), (8, 9, 10, 0, 0, []), (11, 0, 2, 0, 0, []), (12, 0, 1, 0, 0, []), (13, 6, 1, 0, 0, []), (14, 14, 0, 0, 0, [])]
def tX12_before : List PO := [(0, 1, 0, 0, 0, []), (1, 2, 0, 0, 0, []), (2, 19, 12, 0, 0, []), (5, 0, 1, 0, 0, []), (6, 2, 0, 0, (-1), []), (7, 4, 23, 1, 0, []), (10, 1, 0, 0, 0, []), (11, 2, 0, 0, 0, []), (12, 19, 12, 65, 0, []), (15, 2, 0, 0, 0, []), (16, 7, 3, 0, 0, []), (17, 0, 3, 0, 0, []), (18, 2, 0, 0, 8, []), (20, 4, 21, 3, 0, []), (23, 1, 0, 0, 0, []), (24, 3, 12, 66, 0, []), (27, 0, 3, 0, 0, []), (28, 2, 0, 0, 0, []), (29, 11, 0, 0, 0, []), (30, 8, 3, 0, 1, []), (33, 9, 11, 0, 0, []), (36, 2, 0, 0, 0, []), (37, 14, 0, 0, 0, []), (38, 1, 0, 0, 0, []), (39, 0, 1, 0, 0, []), (40, 2, 0, 0, 0, []), (41, 2, 0, 0, 7, []), (43, 12, 47, 3, 0, [12]), (46, 10, 42, 0, 0, []), (49, 1, 0, 0, 0, []), (50, 0, 2, 0, 0, []), (51, 2, 0, 0, 0, []), (52, 2, 0, 0, 7, []), (54, 12, 47, 3, 0, [12]), (57, 10, 42, 0, 0, []), (60, 0, 1, 0, 0, []), (61, 0, 2, 0, 0, []), (62, 4, 42, 0, 0, []), (65, 1, 0, 0, 0, []), (66, 3, 12, 65, 0, []), (69, 2, 0, 0, 12, []), (71, 4, 44, 1, 0, []), (74, 2, 0, 0, (-1), []), (75, 14, 0, 0, 0, []), (76, 1, 0, 0, 0, []), (77, 3, 12, 66, 0, []), (80, 0, 2, 0, 0, []), (81, 1, 0, 0, 0, []), (82, 3, 12, 66, 0, []), (85, 0, 2, 0, 0, []), (86, 5, 0, 0, 0, []), (87, 2, 0, 0, 1, []), (88, 0, 1, 0, 0, []), (89, 6, 6, 0, 0, []), (90, 6, 4, 0, 0, []), (91, 11, 0, 0, 0, []), (92, 1, 0, 0, 0, []), (93, 1, 0, 0, 0, []), (94, 3, 12, 65, 0, []), (97, 2, 0, 0, 1, []), (98, 6, 0, 0, 0, []), (99, 19, 12, 65, 0, []), (102, 1, 0, 0, 0, []), (103, 3, 12, 65, 0, []), (106, 14, 0, 0, 0, [])]
def tX12_bill : List PO := [(0, 1, 0, 0, 0, []), (1, 2, 0, 0, 0, []), (2, 19, 12, 0, 0, []), (5, 0, 1, 0, 0, []), (6, 2, 0, 0, (-1), []), (7, 4, 23, 1, 0, []), (10, 1, 0, 0, 0, []), (11, 2, 0, 0, 0, []), (12, 19, 12, 63, 0, []), (15, 2, 0, 0, 0, []), (16, 7, 3, 0, 0, []), (17, 0, 3, 0, 0, []), (18, 2, 0, 0, 8, []), (20, 4, 21, 3, 0, []), (23, 1, 0, 0, 0, []), (24, 3, 12, 64, 0, []), (27, 0, 3, 0, 0, []), (28, 2, 0, 0, 0, []), (29, 11, 0, 0, 0, []), (30, 8, 3, 0, 1, []), (33, 9, 11, 0, 0, []), (36, 2, 0, 0, 0, []), (37, 14, 0, 0, 0, []), (38, 1, 0, 0, 0, []), (39, 0, 1, 0, 0, []), (40, 2, 0, 0, 0, []), (41, 2, 0, 0, 7, []), (43, 12, 47, 3, 0, [12]), (46, 10, 42, 0, 0, []), (49, 1, 0, 0, 0, []), (50, 0, 2, 0, 0, []), (51, 2, 0, 0, 0, []), (52, 2, 0, 0, 7, []), (54, 12, 47, 3, 0, [12]), (57, 10, 42, 0, 0, []), (60, 0, 1, 0, 0, []), (61, 0, 2, 0, 0, []), (62, 4, 42, 0, 0, []), (65, 1, 0, 0, 0, []), (66, 3, 12, 63, 0, []), (69, 2, 0, 0, 12, []), (71, 4, 44, 1, 0, []), (74, 2, 0, 0, (-1), []), (75, 14, 0, 0, 0, []), (76, 1, 0, 0, 0, []), (77, 3, 12, 64, 0, []), (80, 0, 1, 0, 0, []), (81, 1, 0, 0, 0, []), (82, 3, 12, 64, 0, []), (85, 0, 1, 0, 0, []), (86, 5, 0, 0, 0, []), (87, 2, 0, 0, 1, []), (88, 0, 2, 0, 0, []), (89, 6, 6, 0, 0, []), (90, 6, 4, 0, 0, []), (91, 11, 0, 0, 0, []), (92, 1, 0, 0, 0, []), (93, 3, 12, 64, 0, []), (96, 0, 2, 0, 0, []), (97, 1, 0, 0, 0, []), (98, 3, 12, 64, 0, []), (101, 0, 2, 0, 0, []), (102, 5, 0, 0, 0, []), (103, 2, 0, 0, 1, []), (104, 0, 1, 0, 0, []), (105, 6, 6, 0, 0, []), (106, 6, 4, 0, 0, []), (107, 11, 0, 0, 0, []), (108, 1, 0, 0, 0, []), (109, 1, 0, 0, 0, []), (110, 3, 12, 63, 0, []), (113, 2, 0, 0, 1, []), (114, 6, 0, 0, 0, []), (115, 19, 12, 63, 0, []), (118, 1, 0, 0, 0, []), (119, 3, 12, 63, 0, []), (122, 14, 0, 0, 0, [])]
def tX12_bills : List PO := [(0, 1, 0, 0, 0, []), (1, 2, 0, 0, 0, []), (2, 19, 12, 0, 0, []), (5, 1, 0, 0, 0, []), (6, 0, 1, 0, 0, []), (7, 2, 0, 0, 0, []), (8, 2, 0, 0, 2, []), (9, 12, 47, 3, 0, [12]), (12, 10, 11, 1, 0, []), (15, 2, 0, 0, (-1), []), (16, 14, 0, 0, 0, []), (17, 2, 0, 0, 0, []), (18, 7, 2, 0, 0, []), (19, 2, 0, 0, 0, []), (20, 7, 3, 0, 0, []), (21, 2, 0, 0, 0, []), (22, 7, 4, 0, 0, []), (24, 0, 4, 0, 0, []), (26, 2, 0, 0, 256, []), (29, 4, 40, 3, 0, []), (32, 1, 0, 0, 0, []), (33, 0, 4, 0, 0, []), (35, 12, 201, 1, 0, [12]), (38, 10, 25, 1, 0, []), (41, 9, 38, 0, 0, []), (44, 0, 3, 0, 0, []), (45, 2, 0, 0, 1, []), (46, 6, 0, 0, 0, []), (47, 7, 3, 0, 0, []), (48, 1, 0, 0, 0, []), (49, 0, 4, 0, 0, []), (51, 12, 245, 1, 0, [12]), (54, 1, 0, 0, 0, []), (55, 0, 2, 0, 0, []), (56, 12, 245, 1, 0, [12]), (59, 4, 38, 5, 0, []), (62, 0, 4, 0, 0, []), (64, 7, 2, 0, 0, []), (65, 8, 4, 0, 1, []), (68, 9, 17, 0, 0, []), (71, 0, 1, 0, 0, []), (72, 2, 0, 0, 2, []), (73, 4, 45, 1, 0, []), (76, 0, 3, 0, 0, []), (77, 9, 53, 0, 0, []), (80, 0, 1, 0, 0, []), (81, 2, 0, 0, 1, []), (82, 4, 50, 1, 0, []), (85, 0, 2, 0, 0, []), (86, 9, 53, 0, 0, []), (89, 1, 0, 0, 0, []), (90, 0, 2, 0, 0, []), (91, 12, 245, 1, 0, [12]), (94, 14, 0, 0, 0, [])]
def tX12_book : List PO := [(0, 1, 0, 0, 0, []), (1, 2, 0, 0, 0, []), (2, 19, 12, 0, 0, []), (5, 1, 0, 0, 0, []), (6, 0, 1, 0, 0, []), (7, 2, 0, 0, 0, []), (8, 1, 0, 0, 0, []), (9, 3, 12, 1, 0, []), (12, 2, 0, 0, 3, []), (13, 5, 0, 0, 0, []), (14, 2, 0, 0, 1, []), (15, 6, 1, 0, 0, []), (16, 12, 47, 3, 0, [12]), (19, 10, 29, 0, 0, []), (22, 1, 0, 0, 0, []), (23, 0, 2, 0, 0, []), (24, 2, 0, 0, 0, []), (25, 2, 0, 0, 4, []), (26, 12, 47, 3, 0, [12]), (29, 10, 29, 0, 0, []), (32, 1, 0, 0, 0, []), (33, 3, 12, 10, 0, []), (36, 2, 0, 0, 5, []), (37, 0, 1, 0, 0, []), (38, 6, 2, 0, 0, []), (39, 0, 2, 0, 0, []), (40, 6, 0, 0, 0, []), (41, 5, 0, 0, 0, []), (42, 9, 30, 0, 0, []), (45, 2, 0, 0, (-10000), []), (48, 14, 0, 0, 0, [])]
def tX12_canAsk : List PO := [(0, 1, 0, 0, 0, []), (1, 0, 1, 0, 0, []), (2, 2, 0, 0, 7, []), (4, 2, 0, 0, 16, []), (6, 12, 47, 3, 0, [12]), (9, 15, 0, 0, 0, [])]
def tX12_canPress : List PO := [(0, 1, 0, 0, 0, []), (1, 3, 12, 1, 0, []), (4, 2, 0, 0, 27, []), (6, 0, 1, 0, 0, []), (7, 6, 0, 0, 0, []), (8, 5, 0, 0, 0, []), (9, 10, 16, 1, 0, []), (12, 1, 0, 0, 0, []), (13, 3, 12, 1, 0, []), (16, 2, 0, 0, 7, []), (18, 0, 1, 0, 0, []), (19, 6, 0, 0, 0, []), (20, 5, 0, 0, 0, []), (21, 10, 16, 0, 0, []), (24, 2, 0, 0, 1, []), (25, 9, 17, 0, 0, []), (28, 2, 0, 0, 0, []), (29, 15, 0, 0, 0, [])]
def tX12_canSet : List PO := [(0, 0, 1, 0, 0, []), (1, 2, 0, 0, 4, []), (2, 4, 9, 1, 0, []), (5, 1, 0, 0, 0, []), (6, 0, 3, 0, 0, []), (7, 2, 0, 0, 0, []), (8, 2, 0, 0, 9, []), (10, 12, 47, 3, 0, [12]), (13, 15, 0, 0, 0, []), (14, 1, 0, 0, 0, []), (15, 0, 1, 0, 0, []), (16, 2, 0, 0, 0, []), (17, 2, 0, 0, 3, []), (18, 12, 47, 3, 0, [12]), (21, 10, 19, 0, 0, []), (24, 1, 0, 0, 0, []), (25, 0, 2, 0, 0, []), (26, 12, 227, 1, 0, [12]), (29, 10, 21, 1, 0, []), (32, 2, 0, 0, 0, []), (33, 15, 0, 0, 0, []), (34, 1, 0, 0, 0, []), (35, 0, 3, 0, 0, []), (36, 0, 1, 0, 0, []), (37, 2, 0, 0, 1, []), (38, 4, 28, 1, 0, []), (41, 2, 0, 0, (-1), []), (42, 9, 29, 0, 0, []), (45, 2, 0, 0, 0, []), (46, 0, 1, 0, 0, []), (47, 10, 33, 1, 0, []), (50, 2, 0, 0, 255, []), (53, 9, 44, 0, 0, []), (56, 0, 1, 0, 0, []), (57, 2, 0, 0, 1, []), (58, 4, 38, 1, 0, []), (61, 2, 0, 0, 1, []), (62, 9, 44, 0, 0, []), (65, 0, 1, 0, 0, []), (66, 2, 0, 0, 2, []), (67, 4, 43, 1, 0, []), (70, 2, 0, 0, 11, []), (72, 9, 44, 0, 0, []), (75, 2, 0, 0, 9, []), (77, 12, 47, 3, 0, [12]), (80, 15, 0, 0, 0, [])]
def tX12_candle : List PO := [(0, 1, 0, 0, 0, []), (1, 2, 0, 0, 0, []), (2, 19, 12, 0, 0, []), (5, 0, 1, 0, 0, []), (6, 2, 0, 0, (-1), []), (7, 4, 11, 1, 0, []), (10, 1, 0, 0, 0, []), (11, 2, 0, 0, 0, []), (12, 19, 12, 54, 0, []), (15, 2, 0, 0, 0, []), (16, 14, 0, 0, 0, []), (17, 1, 0, 0, 0, []), (18, 0, 1, 0, 0, []), (19, 2, 0, 0, 1, []), (20, 2, 0, 0, 50, []), (22, 12, 47, 3, 0, [12]), (25, 10, 21, 0, 0, []), (28, 1, 0, 0, 0, []), (29, 3, 12, 54, 0, []), (32, 2, 0, 0, 8, []), (34, 4, 23, 1, 0, []), (37, 2, 0, 0, (-1), []), (38, 14, 0, 0, 0, []), (39, 1, 0, 0, 0, []), (40, 3, 12, 55, 0, []), (43, 1, 0, 0, 0, []), (44, 3, 12, 54, 0, []), (47, 0, 1, 0, 0, []), (48, 11, 0, 0, 0, []), (49, 1, 0, 0, 0, []), (50, 1, 0, 0, 0, []), (51, 3, 12, 54, 0, []), (54, 2, 0, 0, 1, []), (55, 6, 0, 0, 0, []), (56, 19, 12, 54, 0, []), (59, 1, 0, 0, 0, []), (60, 3, 12, 54, 0, []), (63, 14, 0, 0, 0, [])]
def tX12_candles : List PO := [(0, 1, 0, 0, 0, []), (1, 2, 0, 0, 0, []), (2, 19, 12, 0, 0, []), (5, 1, 0, 0, 0, []), (6, 0, 1, 0, 0, []), (7, 2, 0, 0, 0, []), (8, 2, 0, 0, 400, []), (11, 12, 47, 3, 0, [12]), (14, 10, 15, 0, 0, []), (17, 1, 0, 0, 0, []), (18, 0, 2, 0, 0, []), (19, 2, 0, 0, 0, []), (20, 2, 0, 0, 1, []), (21, 12, 47, 3, 0, [12]), (24, 10, 17, 1, 0, []), (27, 2, 0, 0, (-1), []), (28, 14, 0, 0, 0, []), (29, 2, 0, 0, 0, []), (30, 7, 3, 0, 0, []), (31, 0, 3, 0, 0, []), (32, 2, 0, 0, 400, []), (35, 4, 33, 4, 0, []), (38, 1, 0, 0, 0, []), (39, 3, 12, 56, 0, []), (42, 0, 3, 0, 0, []), (43, 0, 3, 0, 0, []), (44, 10, 29, 1, 0, []), (47, 2, 0, 0, 1, []), (48, 9, 30, 0, 0, []), (51, 2, 0, 0, 0, []), (52, 11, 0, 0, 0, []), (53, 8, 3, 0, 1, []), (56, 9, 19, 0, 0, []), (59, 2, 0, 0, 0, []), (60, 7, 3, 0, 0, []), (61, 0, 3, 0, 0, []), (62, 1, 0, 0, 0, []), (63, 3, 12, 54, 0, []), (66, 4, 67, 3, 0, []), (69, 2, 0, 0, 400, []), (72, 7, 4, 0, 0, []), (74, 0, 4, 0, 0, []), (76, 1, 0, 0, 0, []), (77, 3, 12, 55, 0, []), (80, 0, 3, 0, 0, []), (81, 5, 0, 0, 0, []), (82, 4, 65, 2, 0, []), (85, 1, 0, 0, 0, []), (86, 3, 12, 56, 0, []), (89, 0, 4, 0, 0, []), (91, 1, 0, 0, 0, []), (92, 3, 12, 55, 0, []), (95, 0, 3, 0, 0, []), (96, 5, 0, 0, 0, []), (97, 6, 1, 0, 0, []), (98, 5, 0, 0, 0, []), (99, 2, 0, 0, 1, []), (100, 4, 63, 1, 0, []), (103, 1, 0, 0, 0, []), (104, 3, 12, 56, 0, []), (107, 0, 4, 0, 0, []), (109, 2, 0, 0, 1, []), (110, 11, 0, 0, 0, []), (111, 8, 4, 0, (-1), []), (114, 9, 41, 0, 0, []), (117, 8, 3, 0, 1, []), (120, 9, 35, 0, 0, []), (123, 2, 0, 0, 0, []), (124, 7, 3, 0, 0, []), (125, 2, 0, 0, 0, []), (126, 7, 4, 0, 0, []), (128, 2, 0, 0, 0, []), (129, 7, 5, 0, 0, []), (131, 0, 5, 0, 0, []), (133, 0, 1, 0, 0, []), (134, 4, 93, 4, 0, []), (137, 0, 3, 0, 0, []), (138, 1, 0, 0, 0, []), (139, 3, 12, 56, 0, []), (142, 0, 5, 0, 0, []), (144, 5, 0, 0, 0, []), (145, 6, 0, 0, 0, []), (146, 7, 3, 0, 0, []), (147, 1, 0, 0, 0, []), (148, 3, 12, 56, 0, []), (151, 0, 5, 0, 0, []), (153, 5, 0, 0, 0, []), (154, 2, 0, 0, 1, []), (155, 4, 91, 1, 0, []), (158, 0, 5, 0, 0, []), (160, 7, 4, 0, 0, []), (162, 8, 5, 0, 1, []), (165, 9, 73, 0, 0, []), (168, 0, 2, 0, 0, []), (169, 10, 97, 1, 0, []), (172, 0, 3, 0, 0, []), (173, 9, 98, 0, 0, []), (176, 0, 4, 0, 0, []), (178, 14, 0, 0, 0, [])]
def tX12_cell : List PO := [(0, 1, 0, 0, 0, []), (1, 2, 0, 0, 0, []), (2, 19, 12, 0, 0, []), (5, 1, 0, 0, 0, []), (6, 0, 1, 0, 0, []), (7, 2, 0, 0, 0, []), (8, 2, 0, 0, 11, []), (10, 12, 47, 3, 0, [12]), (13, 10, 21, 0, 0, []), (16, 1, 0, 0, 0, []), (17, 0, 2, 0, 0, []), (18, 2, 0, 0, 0, []), (19, 2, 0, 0, 11, []), (21, 12, 47, 3, 0, [12]), (24, 10, 21, 0, 0, []), (27, 1, 0, 0, 0, []), (28, 0, 3, 0, 0, []), (29, 2, 0, 0, 0, []), (30, 2, 0, 0, 4, []), (31, 12, 47, 3, 0, [12]), (34, 10, 23, 1, 0, []), (37, 2, 0, 0, (-2), []), (39, 14, 0, 0, 0, []), (40, 2, 0, 0, 12, []), (42, 0, 1, 0, 0, []), (43, 6, 2, 0, 0, []), (44, 0, 2, 0, 0, []), (45, 6, 0, 0, 0, []), (46, 7, 4, 0, 0, []), (48, 0, 3, 0, 0, []), (49, 10, 40, 1, 0, []), (52, 1, 0, 0, 0, []), (53, 3, 12, 1, 0, []), (56, 2, 0, 0, 67, []), (58, 0, 4, 0, 0, []), (60, 6, 0, 0, 0, []), (61, 5, 0, 0, 0, []), (62, 2, 0, 0, 1, []), (63, 6, 1, 0, 0, []), (64, 14, 0, 0, 0, []), (65, 0, 3, 0, 0, []), (66, 2, 0, 0, 1, []), (67, 4, 50, 1, 0, []), (70, 1, 0, 0, 0, []), (71, 3, 12, 1, 0, []), (74, 2, 0, 0, 211, []), (77, 0, 4, 0, 0, []), (79, 6, 0, 0, 0, []), (80, 5, 0, 0, 0, []), (81, 14, 0, 0, 0, []), (82, 0, 3, 0, 0, []), (83, 2, 0, 0, 2, []), (84, 4, 60, 1, 0, []), (87, 1, 0, 0, 0, []), (88, 3, 12, 1, 0, []), (91, 2, 0, 0, 355, []), (94, 0, 4, 0, 0, []), (96, 6, 0, 0, 0, []), (97, 5, 0, 0, 0, []), (98, 14, 0, 0, 0, []), (99, 1, 0, 0, 0, []), (100, 0, 4, 0, 0, []), (102, 12, 49, 1, 0, [12]), (105, 10, 66, 1, 0, []), (108, 2, 0, 0, (-1), []), (109, 9, 76, 0, 0, []), (112, 0, 3, 0, 0, []), (113, 2, 0, 0, 3, []), (114, 4, 73, 1, 0, []), (117, 1, 0, 0, 0, []), (118, 0, 4, 0, 0, []), (120, 12, 238, 1, 0, [12]), (123, 9, 76, 0, 0, []), (126, 1, 0, 0, 0, []), (127, 0, 4, 0, 0, []), (129, 12, 50, 1, 0, [12]), (132, 14, 0, 0, 0, [])]
def tX12_comesOf : List PO := [(0, 1, 0, 0, 0, []), (1, 0, 1, 0, 0, []), (2, 1, 0, 0, 0, []), (3, 3, 12, 1, 0, []), (6, 2, 0, 0, 7, []), (8, 0, 1, 0, 0, []), (9, 6, 0, 0, 0, []), (10, 5, 0, 0, 0, []), (11, 12, 52, 2, 0, [12]), (14, 1, 0, 0, 0, []), (15, 2, 0, 0, 0, []), (16, 2, 0, 0, 500, []), (19, 2, 0, 0, 50, []), (21, 1, 0, 0, 0, []), (22, 3, 12, 40, 0, []), (25, 2, 0, 0, 1, []), (26, 5, 0, 0, 0, []), (27, 6, 2, 0, 0, []), (28, 6, 0, 0, 0, []), (29, 2, 0, 0, 1000, []), (32, 12, 54, 3, 0, [12]), (35, 14, 0, 0, 0, [])]
def tX12_could : List PO := [(0, 1, 0, 0, 0, []), (1, 2, 0, 0, 0, []), (2, 19, 12, 0, 0, []), (5, 1, 0, 0, 0, []), (6, 0, 1, 0, 0, []), (7, 12, 227, 1, 0, [12]), (10, 10, 9, 1, 0, []), (13, 2, 0, 0, (-1), []), (14, 14, 0, 0, 0, []), (15, 2, 0, 0, 1, []), (16, 0, 1, 0, 0, []), (17, 6, 6, 0, 0, []), (18, 7, 2, 0, 0, []), (19, 2, 0, 0, 0, []), (20, 7, 3, 0, 0, []), (21, 0, 3, 0, 0, []), (22, 2, 0, 0, 20, []), (24, 4, 40, 3, 0, []), (27, 2, 0, 0, 0, []), (28, 7, 4, 0, 0, []), (30, 0, 4, 0, 0, []), (32, 1, 0, 0, 0, []), (33, 3, 12, 6, 0, []), (36, 4, 38, 3, 0, []), (39, 1, 0, 0, 0, []), (40, 0, 2, 0, 0, []), (41, 0, 4, 0, 0, []), (43, 12, 45, 2, 0, [12]), (46, 10, 36, 0, 0, []), (49, 0, 2, 0, 0, []), (50, 1, 0, 0, 0, []), (51, 3, 12, 39, 0, []), (54, 0, 4, 0, 0, []), (56, 5, 0, 0, 0, []), (57, 6, 4, 0, 0, []), (58, 7, 2, 0, 0, []), (59, 8, 4, 0, 1, []), (62, 9, 20, 0, 0, []), (65, 8, 3, 0, 1, []), (68, 9, 15, 0, 0, []), (71, 0, 2, 0, 0, []), (72, 14, 0, 0, 0, [])]
def tX12_dearest : List PO := [(0, 2, 0, 0, 0, []), (1, 7, 2, 0, 0, []), (2, 2, 0, 0, (-1), []), (3, 7, 3, 0, 0, []), (4, 2, 0, 0, 0, []), (5, 7, 4, 0, 0, []), (7, 0, 4, 0, 0, []), (9, 2, 0, 0, 10, []), (11, 4, 44, 3, 0, []), (14, 2, 0, 0, 0, []), (15, 7, 5, 0, 0, []), (17, 2, 0, 0, 0, []), (18, 7, 6, 0, 0, []), (20, 0, 6, 0, 0, []), (22, 1, 0, 0, 0, []), (23, 3, 12, 52, 0, []), (26, 4, 29, 3, 0, []), (29, 1, 0, 0, 0, []), (30, 3, 12, 53, 0, []), (33, 0, 6, 0, 0, []), (35, 5, 0, 0, 0, []), (36, 0, 4, 0, 0, []), (38, 4, 27, 1, 0, []), (41, 0, 5, 0, 0, []), (43, 2, 0, 0, 1, []), (44, 6, 0, 0, 0, []), (45, 7, 5, 0, 0, []), (47, 8, 6, 0, 1, []), (50, 9, 13, 0, 0, []), (53, 2, 0, 0, 2, []), (54, 0, 5, 0, 0, []), (56, 6, 2, 0, 0, []), (57, 1, 0, 0, 0, []), (58, 3, 12, 52, 0, []), (61, 4, 37, 5, 0, []), (64, 0, 4, 0, 0, []), (66, 7, 3, 0, 0, []), (67, 1, 0, 0, 0, []), (68, 0, 2, 0, 0, []), (69, 0, 5, 0, 0, []), (71, 12, 68, 2, 0, [12]), (74, 7, 2, 0, 0, []), (75, 8, 4, 0, 1, []), (78, 9, 6, 0, 0, []), (81, 0, 1, 0, 0, []), (82, 10, 48, 0, 0, []), (85, 0, 3, 0, 0, []), (86, 9, 49, 0, 0, []), (89, 0, 2, 0, 0, []), (90, 14, 0, 0, 0, [])]
def tX12_doGoTogether : List PO := [(0, 2, 0, 0, 0, []), (1, 7, 2, 0, 0, []), (2, 0, 2, 0, 0, []), (3, 2, 0, 0, 8, []), (5, 4, 21, 3, 0, []), (8, 1, 0, 0, 0, []), (9, 0, 1, 0, 0, []), (10, 0, 2, 0, 0, []), (11, 12, 45, 2, 0, [12]), (14, 10, 19, 0, 0, []), (17, 1, 0, 0, 0, []), (18, 3, 12, 64, 0, []), (21, 0, 2, 0, 0, []), (22, 5, 0, 0, 0, []), (23, 0, 1, 0, 0, []), (24, 6, 3, 0, 0, []), (25, 10, 19, 0, 0, []), (28, 2, 0, 0, 0, []), (29, 15, 0, 0, 0, []), (30, 8, 2, 0, 1, []), (33, 9, 2, 0, 0, []), (36, 2, 0, 0, 1, []), (37, 15, 0, 0, 0, [])]
def tX12_does : List PO := [(0, 1, 0, 0, 0, []), (1, 3, 12, 37, 0, []), (4, 0, 1, 0, 0, []), (5, 2, 0, 0, 2, []), (6, 6, 0, 0, 0, []), (7, 5, 0, 0, 0, []), (8, 10, 17, 1, 0, []), (11, 1, 0, 0, 0, []), (12, 3, 12, 1, 0, []), (15, 2, 0, 0, 4, []), (16, 1, 0, 0, 0, []), (17, 3, 12, 37, 0, []), (20, 0, 1, 0, 0, []), (21, 2, 0, 0, 3, []), (22, 6, 0, 0, 0, []), (23, 5, 0, 0, 0, []), (24, 11, 0, 0, 0, []), (25, 1, 0, 0, 0, []), (26, 3, 12, 37, 0, []), (29, 0, 1, 0, 0, []), (30, 2, 0, 0, 2, []), (31, 6, 0, 0, 0, []), (32, 5, 0, 0, 0, []), (33, 2, 0, 0, 1, []), (34, 4, 42, 1, 0, []), (37, 1, 0, 0, 0, []), (38, 2, 0, 0, 12, []), (40, 1, 0, 0, 0, []), (41, 3, 12, 37, 0, []), (44, 0, 1, 0, 0, []), (45, 2, 0, 0, 4, []), (46, 6, 0, 0, 0, []), (47, 5, 0, 0, 0, []), (48, 6, 2, 0, 0, []), (49, 1, 0, 0, 0, []), (50, 3, 12, 37, 0, []), (53, 0, 1, 0, 0, []), (54, 2, 0, 0, 3, []), (55, 6, 0, 0, 0, []), (56, 5, 0, 0, 0, []), (57, 6, 0, 0, 0, []), (58, 12, 223, 1, 0, [12]), (61, 1, 0, 0, 0, []), (62, 3, 12, 37, 0, []), (65, 0, 1, 0, 0, []), (66, 2, 0, 0, 2, []), (67, 6, 0, 0, 0, []), (68, 5, 0, 0, 0, []), (69, 2, 0, 0, 2, []), (70, 4, 67, 1, 0, []), (73, 1, 0, 0, 0, []), (74, 3, 12, 1, 0, []), (77, 2, 0, 0, 7, []), (79, 1, 0, 0, 0, []), (80, 3, 12, 37, 0, []), (83, 0, 1, 0, 0, []), (84, 2, 0, 0, 3, []), (85, 6, 0, 0, 0, []), (86, 5, 0, 0, 0, []), (87, 6, 0, 0, 0, []), (88, 1, 0, 0, 0, []), (89, 3, 12, 37, 0, []), (92, 0, 1, 0, 0, []), (93, 2, 0, 0, 4, []), (94, 6, 0, 0, 0, []), (95, 5, 0, 0, 0, []), (96, 11, 0, 0, 0, []), (97, 16, 0, 0, 0, [])]
def tX12_door : List PO := [(0, 1, 0, 0, 0, []), (1, 2, 0, 0, 0, []), (2, 19, 12, 0, 0, []), (5, 0, 1, 0, 0, []), (6, 2, 0, 0, (-1), []), (7, 4, 11, 1, 0, []), (10, 1, 0, 0, 0, []), (11, 2, 0, 0, 0, []), (12, 19, 12, 57, 0, []), (15, 2, 0, 0, 0, []), (16, 14, 0, 0, 0, []), (17, 1, 0, 0, 0, []), (18, 0, 1, 0, 0, []), (19, 2, 0, 0, 1, []), (20, 2, 0, 0, 50, []), (22, 12, 47, 3, 0, [12]), (25, 10, 27, 0, 0, []), (28, 1, 0, 0, 0, []), (29, 0, 2, 0, 0, []), (30, 2, 0, 0, 0, []), (31, 2, 0, 0, 200, []), (34, 12, 47, 3, 0, [12]), (37, 10, 27, 0, 0, []), (40, 1, 0, 0, 0, []), (41, 3, 12, 57, 0, []), (44, 2, 0, 0, 8, []), (46, 4, 29, 1, 0, []), (49, 2, 0, 0, (-1), []), (50, 14, 0, 0, 0, []), (51, 1, 0, 0, 0, []), (52, 3, 12, 58, 0, []), (55, 1, 0, 0, 0, []), (56, 3, 12, 57, 0, []), (59, 0, 1, 0, 0, []), (60, 11, 0, 0, 0, []), (61, 1, 0, 0, 0, []), (62, 3, 12, 59, 0, []), (65, 1, 0, 0, 0, []), (66, 3, 12, 57, 0, []), (69, 0, 2, 0, 0, []), (70, 11, 0, 0, 0, []), (71, 1, 0, 0, 0, []), (72, 1, 0, 0, 0, []), (73, 3, 12, 57, 0, []), (76, 2, 0, 0, 1, []), (77, 6, 0, 0, 0, []), (78, 19, 12, 57, 0, []), (81, 1, 0, 0, 0, []), (82, 3, 12, 57, 0, []), (85, 14, 0, 0, 0, [])]
def tX12_draw : List PO := [(0, 1, 0, 0, 0, []), (1, 3, 12, 1, 0, []), (4, 2, 0, 0, 2, []), (5, 2, 0, 0, 1664525, []), (7, 1, 0, 0, 0, []), (8, 3, 12, 1, 0, []), (11, 2, 0, 0, 2, []), (12, 5, 0, 0, 0, []), (13, 6, 2, 0, 0, []), (14, 2, 0, 0, 1013904223, []), (16, 6, 0, 0, 0, []), (17, 11, 0, 0, 0, []), (18, 1, 0, 0, 0, []), (19, 3, 12, 1, 0, []), (22, 2, 0, 0, 2, []), (23, 5, 0, 0, 0, []), (24, 2, 0, 0, 8, []), (26, 6, 8, 0, 0, []), (27, 0, 1, 0, 0, []), (28, 18, 0, 0, 0, []), (29, 14, 0, 0, 0, [])]
def tX12_emits : List PO := [(0, 1, 0, 0, 0, []), (1, 3, 12, 23, 0, []), (4, 2, 0, 0, 800, []), (7, 1, 0, 0, 0, []), (8, 3, 12, 26, 0, []), (11, 6, 0, 0, 0, []), (12, 0, 1, 0, 0, []), (13, 11, 0, 0, 0, []), (14, 1, 0, 0, 0, []), (15, 3, 12, 24, 0, []), (18, 2, 0, 0, 800, []), (21, 1, 0, 0, 0, []), (22, 3, 12, 26, 0, []), (25, 6, 0, 0, 0, []), (26, 0, 2, 0, 0, []), (27, 11, 0, 0, 0, []), (28, 1, 0, 0, 0, []), (29, 1, 0, 0, 0, []), (30, 3, 12, 26, 0, []), (33, 2, 0, 0, 1, []), (34, 6, 0, 0, 0, []), (35, 19, 12, 26, 0, []), (38, 16, 0, 0, 0, [])]
def tX12_end : List PO := [(0, 1, 0, 0, 0, []), (1, 2, 0, 0, 0, []), (2, 19, 12, 0, 0, []), (5, 1, 0, 0, 0, []), (6, 0, 1, 0, 0, []), (7, 2, 0, 0, 0, []), (8, 1, 0, 0, 0, []), (9, 3, 12, 12, 0, []), (12, 12, 47, 3, 0, [12]), (15, 10, 12, 1, 0, []), (18, 2, 0, 0, 0, []), (19, 15, 0, 0, 0, []), (20, 1, 0, 0, 0, []), (21, 0, 1, 0, 0, []), (22, 19, 12, 12, 0, []), (25, 2, 0, 0, 1, []), (26, 15, 0, 0, 0, [])]
def tX12_endsThought : List PO := [(0, 2, 0, 0, 0, []), (1, 7, 1, 0, 0, []), (2, 0, 1, 0, 0, []), (3, 2, 0, 0, 499, []), (6, 4, 15, 3, 0, []), (9, 1, 0, 0, 0, []), (10, 3, 12, 1, 0, []), (13, 0, 1, 0, 0, []), (14, 1, 0, 0, 0, []), (15, 3, 12, 4, 0, []), (18, 0, 1, 0, 0, []), (19, 5, 0, 0, 0, []), (20, 11, 0, 0, 0, []), (21, 8, 1, 0, 1, []), (24, 9, 2, 0, 0, []), (27, 1, 0, 0, 0, []), (28, 2, 0, 0, 0, []), (29, 19, 12, 5, 1, []), (32, 16, 0, 0, 0, [])]
def tX12_errs : List PO := [(0, 1, 0, 0, 0, []), (1, 0, 1, 0, 0, []), (2, 19, 12, 30, 0, []), (5, 1, 0, 0, 0, []), (6, 1, 0, 0, 0, []), (7, 3, 12, 14, 0, []), (10, 19, 12, 31, 0, []), (13, 2, 0, 0, (-1), []), (14, 14, 0, 0, 0, [])]
def tX12_evening : List PO := [(0, 1, 0, 0, 0, []), (1, 12, 48, 0, 0, [12]), (4, 7, 1, 0, 0, []), (5, 1, 0, 0, 0, []), (6, 2, 0, 0, 4, []), (7, 2, 0, 0, (-1), []), (8, 0, 1, 0, 0, []), (9, 12, 243, 3, 0, [12]), (12, 0, 1, 0, 0, []), (13, 10, 21, 5, 0, []), (16, 1, 0, 0, 0, []), (17, 3, 12, 1, 0, []), (20, 2, 0, 0, 5, []), (21, 1, 0, 0, 0, []), (22, 3, 12, 1, 0, []), (25, 2, 0, 0, 5, []), (26, 5, 0, 0, 0, []), (27, 2, 0, 0, 1, []), (28, 6, 0, 0, 0, []), (29, 11, 0, 0, 0, []), (30, 9, 31, 0, 0, []), (33, 1, 0, 0, 0, []), (34, 3, 12, 1, 0, []), (37, 2, 0, 0, 6, []), (39, 1, 0, 0, 0, []), (40, 3, 12, 1, 0, []), (43, 2, 0, 0, 6, []), (45, 5, 0, 0, 0, []), (46, 2, 0, 0, 1, []), (47, 6, 0, 0, 0, []), (48, 11, 0, 0, 0, []), (49, 2, 0, 0, 0, []), (50, 7, 2, 0, 0, []), (51, 0, 2, 0, 0, []), (52, 2, 0, 0, 144, []), (55, 4, 41, 3, 0, []), (58, 1, 0, 0, 0, []), (59, 0, 2, 0, 0, []), (60, 12, 220, 1, 0, [12]), (63, 8, 2, 0, 1, []), (66, 9, 33, 0, 0, []), (69, 1, 0, 0, 0, []), (70, 3, 12, 1, 0, []), (73, 2, 0, 0, 1, []), (74, 2, 0, 0, 0, []), (75, 11, 0, 0, 0, []), (76, 1, 0, 0, 0, []), (77, 3, 12, 1, 0, []), (80, 2, 0, 0, 0, []), (81, 1, 0, 0, 0, []), (82, 3, 12, 1, 0, []), (85, 2, 0, 0, 0, []), (86, 5, 0, 0, 0, []), (87, 2, 0, 0, 1, []), (88, 6, 0, 0, 0, []), (89, 11, 0, 0, 0, []), (90, 16, 0, 0, 0, [])]
def tX12_fault : List PO := [(0, 1, 0, 0, 0, []), (1, 2, 0, 0, 0, []), (2, 19, 12, 0, 0, []), (5, 0, 1, 0, 0, []), (6, 10, 8, 1, 0, []), (9, 1, 0, 0, 0, []), (10, 3, 12, 32, 0, []), (13, 9, 15, 0, 0, []), (16, 0, 1, 0, 0, []), (17, 2, 0, 0, 1, []), (18, 4, 14, 1, 0, []), (21, 1, 0, 0, 0, []), (22, 3, 12, 33, 0, []), (25, 9, 15, 0, 0, []), (28, 2, 0, 0, (-1), []), (29, 14, 0, 0, 0, [])]
def tX12_feed : List PO := [(0, 1, 0, 0, 0, []), (1, 2, 0, 0, 0, []), (2, 19, 12, 0, 0, []), (5, 1, 0, 0, 0, []), (6, 3, 12, 12, 0, []), (9, 2, 0, 0, 380, []), (12, 4, 9, 5, 0, []), (15, 2, 0, 0, (-1), []), (16, 14, 0, 0, 0, []), (17, 1, 0, 0, 0, []), (18, 0, 1, 0, 0, []), (19, 12, 282, 1, 0, [12]), (22, 1, 0, 0, 0, []), (23, 0, 2, 0, 0, []), (24, 12, 282, 1, 0, [12]), (27, 1, 0, 0, 0, []), (28, 0, 3, 0, 0, []), (29, 12, 282, 1, 0, [12]), (32, 1, 0, 0, 0, []), (33, 0, 4, 0, 0, []), (35, 12, 282, 1, 0, [12]), (38, 1, 0, 0, 0, []), (39, 0, 5, 0, 0, []), (41, 12, 282, 1, 0, [12]), (44, 1, 0, 0, 0, []), (45, 3, 12, 12, 0, []), (48, 14, 0, 0, 0, [])]
def tX12_findsParishes : List PO := [(0, 0, 1, 0, 0, []), (1, 10, 8, 1, 0, []), (4, 0, 2, 0, 0, []), (5, 1, 0, 0, 0, []), (6, 3, 12, 46, 0, []), (9, 4, 8, 1, 0, []), (12, 2, 0, 0, 0, []), (13, 9, 9, 0, 0, []), (16, 2, 0, 0, (-100000000), []), (19, 7, 3, 0, 0, []), (20, 0, 1, 0, 0, []), (21, 10, 18, 1, 0, []), (24, 0, 2, 0, 0, []), (25, 1, 0, 0, 0, []), (26, 3, 12, 46, 0, []), (29, 4, 18, 1, 0, []), (32, 2, 0, 0, 0, []), (33, 9, 19, 0, 0, []), (36, 2, 0, 0, 100000000, []), (39, 7, 4, 0, 0, []), (41, 2, 0, 0, 0, []), (42, 7, 5, 0, 0, []), (44, 0, 2, 0, 0, []), (45, 2, 0, 0, 1, []), (46, 6, 0, 0, 0, []), (47, 7, 6, 0, 0, []), (49, 0, 6, 0, 0, []), (51, 1, 0, 0, 0, []), (52, 3, 12, 46, 0, []), (55, 4, 86, 4, 0, []), (58, 0, 1, 0, 0, []), (59, 10, 86, 5, 0, []), (62, 0, 5, 0, 0, []), (64, 1, 0, 0, 0, []), (65, 3, 12, 47, 0, []), (68, 0, 6, 0, 0, []), (70, 2, 0, 0, 1, []), (71, 6, 1, 0, 0, []), (72, 5, 0, 0, 0, []), (73, 6, 0, 0, 0, []), (74, 7, 5, 0, 0, []), (76, 2, 0, 0, 2, []), (77, 0, 5, 0, 0, []), (79, 6, 2, 0, 0, []), (80, 0, 6, 0, 0, []), (82, 0, 2, 0, 0, []), (83, 6, 1, 0, 0, []), (84, 4, 50, 5, 0, []), (87, 2, 0, 0, 1, []), (88, 9, 51, 0, 0, []), (91, 2, 0, 0, 0, []), (92, 7, 7, 0, 0, []), (94, 1, 0, 0, 0, []), (95, 0, 3, 0, 0, []), (96, 1, 0, 0, 0, []), (97, 3, 12, 48, 0, []), (100, 2, 0, 0, 17, []), (102, 0, 1, 0, 0, []), (103, 2, 0, 0, 1, []), (104, 6, 1, 0, 0, []), (105, 6, 2, 0, 0, []), (106, 0, 6, 0, 0, []), (108, 6, 0, 0, 0, []), (109, 5, 0, 0, 0, []), (110, 0, 7, 0, 0, []), (112, 6, 0, 0, 0, []), (113, 12, 68, 2, 0, [12]), (116, 7, 3, 0, 0, []), (117, 1, 0, 0, 0, []), (118, 0, 4, 0, 0, []), (120, 1, 0, 0, 0, []), (121, 3, 12, 49, 0, []), (124, 2, 0, 0, 17, []), (126, 0, 1, 0, 0, []), (127, 2, 0, 0, 1, []), (128, 6, 1, 0, 0, []), (129, 6, 2, 0, 0, []), (130, 0, 6, 0, 0, []), (132, 6, 0, 0, 0, []), (133, 5, 0, 0, 0, []), (134, 0, 7, 0, 0, []), (136, 6, 0, 0, 0, []), (137, 12, 62, 2, 0, [12]), (140, 7, 4, 0, 0, []), (142, 8, 6, 0, 1, []), (145, 9, 26, 0, 0, []), (148, 1, 0, 0, 0, []), (149, 3, 12, 48, 0, []), (152, 2, 0, 0, 17, []), (154, 0, 1, 0, 0, []), (155, 6, 2, 0, 0, []), (156, 0, 2, 0, 0, []), (157, 6, 0, 0, 0, []), (158, 0, 3, 0, 0, []), (159, 11, 0, 0, 0, []), (160, 1, 0, 0, 0, []), (161, 3, 12, 49, 0, []), (164, 2, 0, 0, 17, []), (166, 0, 1, 0, 0, []), (167, 6, 2, 0, 0, []), (168, 0, 2, 0, 0, []), (169, 6, 0, 0, 0, []), (170, 0, 4, 0, 0, []), (172, 11, 0, 0, 0, []), (173, 16, 0, 0, 0, [])]
def tX12_goes : List PO := [(0, 1, 0, 0, 0, []), (1, 2, 0, 0, 0, []), (2, 19, 12, 0, 0, []), (5, 1, 0, 0, 0, []), (6, 0, 1, 0, 0, []), (7, 2, 0, 0, 1, []), (8, 2, 0, 0, 60, []), (10, 12, 47, 3, 0, [12]), (13, 10, 15, 0, 0, []), (16, 1, 0, 0, 0, []), (17, 0, 2, 0, 0, []), (18, 2, 0, 0, 0, []), (19, 2, 0, 0, 3, []), (20, 12, 47, 3, 0, [12]), (23, 10, 17, 1, 0, []), (26, 2, 0, 0, (-100000), []), (29, 14, 0, 0, 0, []), (30, 1, 0, 0, 0, []), (31, 12, 281, 0, 0, [12]), (34, 2, 0, 0, 0, []), (35, 7, 3, 0, 0, []), (36, 0, 3, 0, 0, []), (37, 0, 1, 0, 0, []), (38, 4, 29, 3, 0, []), (41, 1, 0, 0, 0, []), (42, 12, 214, 0, 0, [12]), (45, 23, 0, 0, 0, []), (46, 8, 3, 0, 1, []), (49, 9, 21, 0, 0, []), (52, 0, 2, 0, 0, []), (53, 10, 36, 1, 0, []), (56, 1, 0, 0, 0, []), (57, 3, 12, 1, 0, []), (60, 2, 0, 0, 5, []), (61, 5, 0, 0, 0, []), (62, 9, 49, 0, 0, []), (65, 0, 2, 0, 0, []), (66, 2, 0, 0, 1, []), (67, 4, 42, 1, 0, []), (70, 1, 0, 0, 0, []), (71, 12, 237, 0, 0, [12]), (74, 9, 49, 0, 0, []), (77, 0, 2, 0, 0, []), (78, 2, 0, 0, 2, []), (79, 4, 48, 1, 0, []), (82, 1, 0, 0, 0, []), (83, 12, 48, 0, 0, [12]), (86, 9, 49, 0, 0, []), (89, 2, 0, 0, 0, []), (90, 7, 3, 0, 0, []), (91, 2, 0, 0, 0, []), (92, 7, 4, 0, 0, []), (94, 0, 4, 0, 0, []), (96, 1, 0, 0, 0, []), (97, 3, 12, 6, 0, []), (100, 4, 70, 3, 0, []), (103, 0, 2, 0, 0, []), (104, 2, 0, 0, 3, []), (105, 4, 70, 1, 0, []), (108, 0, 3, 0, 0, []), (109, 1, 0, 0, 0, []), (110, 3, 12, 1, 0, []), (113, 2, 0, 0, 47, []), (115, 0, 4, 0, 0, []), (117, 6, 0, 0, 0, []), (118, 5, 0, 0, 0, []), (119, 6, 0, 0, 0, []), (120, 7, 3, 0, 0, []), (121, 8, 4, 0, 1, []), (124, 9, 52, 0, 0, []), (127, 1, 0, 0, 0, []), (128, 12, 207, 0, 0, [12]), (131, 0, 3, 0, 0, []), (132, 14, 0, 0, 0, [])]
def tX12_goesBy : List PO := [(0, 2, 0, 0, 0, []), (1, 7, 1, 0, 0, []), (2, 0, 1, 0, 0, []), (3, 2, 0, 0, 5, []), (4, 1, 0, 0, 0, []), (5, 3, 12, 36, 0, []), (8, 6, 2, 0, 0, []), (9, 4, 36, 3, 0, []), (12, 1, 0, 0, 0, []), (13, 3, 12, 37, 0, []), (16, 0, 1, 0, 0, []), (17, 5, 0, 0, 0, []), (18, 1, 0, 0, 0, []), (19, 3, 12, 1, 0, []), (22, 2, 0, 0, 0, []), (23, 5, 0, 0, 0, []), (24, 4, 31, 1, 0, []), (27, 1, 0, 0, 0, []), (28, 3, 12, 37, 0, []), (31, 0, 1, 0, 0, []), (32, 2, 0, 0, 1, []), (33, 6, 0, 0, 0, []), (34, 5, 0, 0, 0, []), (35, 1, 0, 0, 0, []), (36, 3, 12, 1, 0, []), (39, 2, 0, 0, 1, []), (40, 5, 0, 0, 0, []), (41, 4, 31, 1, 0, []), (44, 1, 0, 0, 0, []), (45, 0, 1, 0, 0, []), (46, 12, 202, 1, 0, [12]), (49, 0, 1, 0, 0, []), (50, 2, 0, 0, 5, []), (51, 6, 0, 0, 0, []), (52, 7, 1, 0, 0, []), (53, 9, 2, 0, 0, []), (56, 2, 0, 0, 0, []), (57, 7, 1, 0, 0, []), (58, 2, 0, 0, 0, []), (59, 7, 2, 0, 0, []), (60, 0, 2, 0, 0, []), (61, 2, 0, 0, 3, []), (62, 1, 0, 0, 0, []), (63, 3, 12, 34, 0, []), (66, 6, 2, 0, 0, []), (67, 4, 96, 3, 0, []), (70, 1, 0, 0, 0, []), (71, 3, 12, 35, 0, []), (74, 0, 2, 0, 0, []), (75, 2, 0, 0, 1, []), (76, 6, 0, 0, 0, []), (77, 5, 0, 0, 0, []), (78, 1, 0, 0, 0, []), (79, 3, 12, 1, 0, []), (82, 2, 0, 0, 1, []), (83, 5, 0, 0, 0, []), (84, 4, 91, 1, 0, []), (87, 1, 0, 0, 0, []), (88, 1, 0, 0, 0, []), (89, 3, 12, 35, 0, []), (92, 0, 2, 0, 0, []), (93, 5, 0, 0, 0, []), (94, 12, 193, 1, 0, [12]), (97, 10, 91, 0, 0, []), (100, 1, 0, 0, 0, []), (101, 1, 0, 0, 0, []), (102, 1, 0, 0, 0, []), (103, 3, 12, 35, 0, []), (106, 0, 2, 0, 0, []), (107, 5, 0, 0, 0, []), (108, 12, 198, 1, 0, [12]), (111, 12, 216, 1, 0, [12]), (114, 10, 74, 1, 0, []), (117, 9, 91, 0, 0, []), (120, 1, 0, 0, 0, []), (121, 1, 0, 0, 0, []), (122, 3, 12, 35, 0, []), (125, 0, 2, 0, 0, []), (126, 5, 0, 0, 0, []), (127, 1, 0, 0, 0, []), (128, 3, 12, 35, 0, []), (131, 0, 2, 0, 0, []), (132, 2, 0, 0, 2, []), (133, 6, 0, 0, 0, []), (134, 5, 0, 0, 0, []), (135, 12, 249, 2, 0, [12]), (138, 23, 0, 0, 0, []), (139, 0, 1, 0, 0, []), (140, 2, 0, 0, 1, []), (141, 6, 0, 0, 0, []), (142, 7, 1, 0, 0, []), (143, 0, 2, 0, 0, []), (144, 2, 0, 0, 3, []), (145, 6, 0, 0, 0, []), (146, 7, 2, 0, 0, []), (147, 9, 40, 0, 0, []), (150, 2, 0, 0, 0, []), (151, 7, 2, 0, 0, []), (152, 0, 2, 0, 0, []), (153, 2, 0, 0, 144, []), (156, 4, 110, 3, 0, []), (159, 1, 0, 0, 0, []), (160, 0, 2, 0, 0, []), (161, 12, 49, 1, 0, [12]), (164, 10, 108, 0, 0, []), (167, 1, 0, 0, 0, []), (168, 0, 2, 0, 0, []), (169, 12, 241, 1, 0, [12]), (172, 8, 2, 0, 1, []), (175, 9, 98, 0, 0, []), (178, 1, 0, 0, 0, []), (179, 3, 12, 1, 0, []), (182, 2, 0, 0, 1, []), (183, 5, 0, 0, 0, []), (184, 2, 0, 0, 11, []), (186, 4, 119, 1, 0, []), (189, 1, 0, 0, 0, []), (190, 12, 209, 0, 0, [12]), (193, 9, 129, 0, 0, []), (196, 1, 0, 0, 0, []), (197, 3, 12, 1, 0, []), (200, 2, 0, 0, 1, []), (201, 1, 0, 0, 0, []), (202, 3, 12, 1, 0, []), (205, 2, 0, 0, 1, []), (206, 5, 0, 0, 0, []), (207, 2, 0, 0, 1, []), (208, 6, 0, 0, 0, []), (209, 11, 0, 0, 0, []), (210, 0, 1, 0, 0, []), (211, 14, 0, 0, 0, [])]
def tX12_hand : List PO := [(0, 1, 0, 0, 0, []), (1, 2, 0, 0, 0, []), (2, 19, 12, 0, 0, []), (5, 1, 0, 0, 0, []), (6, 0, 1, 0, 0, []), (7, 12, 227, 1, 0, [12]), (10, 10, 21, 0, 0, []), (13, 1, 0, 0, 0, []), (14, 0, 2, 0, 0, []), (15, 2, 0, 0, 0, []), (16, 2, 0, 0, 2, []), (17, 12, 47, 3, 0, [12]), (20, 10, 21, 0, 0, []), (23, 1, 0, 0, 0, []), (24, 3, 12, 1, 0, []), (27, 2, 0, 0, 27, []), (29, 0, 1, 0, 0, []), (30, 6, 0, 0, 0, []), (31, 5, 0, 0, 0, []), (32, 0, 2, 0, 0, []), (33, 4, 23, 1, 0, []), (36, 2, 0, 0, 0, []), (37, 15, 0, 0, 0, []), (38, 1, 0, 0, 0, []), (39, 12, 230, 0, 0, [12]), (42, 1, 0, 0, 0, []), (43, 3, 12, 1, 0, []), (46, 2, 0, 0, 27, []), (48, 0, 1, 0, 0, []), (49, 6, 0, 0, 0, []), (50, 0, 2, 0, 0, []), (51, 11, 0, 0, 0, []), (52, 2, 0, 0, 1, []), (53, 15, 0, 0, 0, [])]
def tX12_happens : List PO := [(0, 1, 0, 0, 0, []), (1, 3, 12, 5, 0, []), (4, 10, 12, 0, 0, []), (7, 2, 0, 0, 2, []), (8, 0, 1, 0, 0, []), (9, 6, 2, 0, 0, []), (10, 2, 0, 0, 1000, []), (13, 4, 10, 2, 0, []), (16, 2, 0, 0, 1, []), (17, 9, 22, 0, 0, []), (20, 2, 0, 0, 0, []), (21, 9, 22, 0, 0, []), (24, 0, 1, 0, 0, []), (25, 10, 21, 5, 0, []), (28, 1, 0, 0, 0, []), (29, 2, 0, 0, 1000, []), (32, 12, 204, 1, 0, [12]), (35, 0, 1, 0, 0, []), (36, 4, 21, 3, 0, []), (39, 2, 0, 0, 1, []), (40, 9, 22, 0, 0, []), (43, 2, 0, 0, 0, []), (44, 15, 0, 0, 0, [])]
def tX12_hours : List PO := [(0, 1, 0, 0, 0, []), (1, 2, 0, 0, 0, []), (2, 19, 12, 0, 0, []), (5, 1, 0, 0, 0, []), (6, 0, 1, 0, 0, []), (7, 2, 0, 0, 1, []), (8, 2, 0, 0, 60, []), (10, 12, 47, 3, 0, [12]), (13, 10, 24, 0, 0, []), (16, 1, 0, 0, 0, []), (17, 3, 12, 1, 0, []), (20, 2, 0, 0, 0, []), (21, 5, 0, 0, 0, []), (22, 1, 0, 0, 0, []), (23, 3, 12, 1, 0, []), (26, 2, 0, 0, 1, []), (27, 5, 0, 0, 0, []), (28, 0, 1, 0, 0, []), (29, 6, 0, 0, 0, []), (30, 2, 0, 0, 12, []), (32, 17, 0, 0, 0, []), (33, 6, 0, 0, 0, []), (34, 2, 0, 0, 9990, []), (37, 4, 26, 5, 0, []), (40, 2, 0, 0, (-1), []), (41, 14, 0, 0, 0, []), (42, 2, 0, 0, 0, []), (43, 7, 2, 0, 0, []), (44, 2, 0, 0, 0, []), (45, 7, 3, 0, 0, []), (46, 0, 3, 0, 0, []), (47, 0, 1, 0, 0, []), (48, 4, 42, 3, 0, []), (51, 1, 0, 0, 0, []), (52, 12, 230, 0, 0, [12]), (55, 0, 2, 0, 0, []), (56, 1, 0, 0, 0, []), (57, 12, 214, 0, 0, [12]), (60, 6, 0, 0, 0, []), (61, 7, 2, 0, 0, []), (62, 8, 3, 0, 1, []), (65, 9, 30, 0, 0, []), (68, 0, 2, 0, 0, []), (69, 14, 0, 0, 0, [])]
def tX12_house : List PO := [(0, 1, 0, 0, 0, []), (1, 2, 0, 0, 0, []), (2, 19, 12, 0, 0, []), (5, 0, 1, 0, 0, []), (6, 2, 0, 0, (-1), []), (7, 4, 11, 1, 0, []), (10, 1, 0, 0, 0, []), (11, 2, 0, 0, 0, []), (12, 19, 12, 46, 0, []), (15, 2, 0, 0, 0, []), (16, 14, 0, 0, 0, []), (17, 1, 0, 0, 0, []), (18, 0, 1, 0, 0, []), (19, 2, 0, 0, 0, []), (20, 2, 0, 0, 1, []), (21, 12, 47, 3, 0, [12]), (24, 10, 21, 0, 0, []), (27, 1, 0, 0, 0, []), (28, 3, 12, 46, 0, []), (31, 2, 0, 0, 16, []), (33, 4, 23, 1, 0, []), (36, 2, 0, 0, (-1), []), (37, 14, 0, 0, 0, []), (38, 1, 0, 0, 0, []), (39, 3, 12, 47, 0, []), (42, 1, 0, 0, 0, []), (43, 3, 12, 46, 0, []), (46, 0, 1, 0, 0, []), (47, 11, 0, 0, 0, []), (48, 1, 0, 0, 0, []), (49, 1, 0, 0, 0, []), (50, 3, 12, 46, 0, []), (53, 2, 0, 0, 1, []), (54, 6, 0, 0, 0, []), (55, 19, 12, 46, 0, []), (58, 1, 0, 0, 0, []), (59, 3, 12, 46, 0, []), (62, 14, 0, 0, 0, [])]
def tX12_image : List PO := [(0, 1, 0, 0, 0, []), (1, 2, 0, 0, 0, []), (2, 19, 12, 0, 0, []), (5, 0, 1, 0, 0, []), (6, 10, 10, 1, 0, []), (9, 1, 0, 0, 0, []), (10, 3, 12, 73, 0, []), (13, 10, 10, 1, 0, []), (16, 2, 0, 0, 0, []), (17, 15, 0, 0, 0, []), (18, 1, 0, 0, 0, []), (19, 0, 1, 0, 0, []), (20, 19, 12, 72, 1, []), (23, 1, 0, 0, 0, []), (24, 2, 0, 0, 1, []), (25, 19, 12, 73, 1, []), (28, 1, 0, 0, 0, []), (29, 2, 0, 0, 0, []), (30, 19, 12, 74, 0, []), (33, 2, 0, 0, 0, []), (34, 7, 2, 0, 0, []), (35, 0, 2, 0, 0, []), (36, 2, 0, 0, 499, []), (39, 4, 36, 3, 0, []), (42, 1, 0, 0, 0, []), (43, 3, 12, 1, 0, []), (46, 0, 2, 0, 0, []), (47, 1, 0, 0, 0, []), (48, 1, 0, 0, 0, []), (49, 3, 12, 1, 0, []), (52, 0, 2, 0, 0, []), (53, 5, 0, 0, 0, []), (54, 12, 229, 1, 0, [12]), (57, 11, 0, 0, 0, []), (58, 8, 2, 0, 1, []), (61, 9, 21, 0, 0, []), (64, 1, 0, 0, 0, []), (65, 12, 232, 0, 0, [12]), (68, 1, 0, 0, 0, []), (69, 12, 233, 0, 0, [12]), (72, 2, 0, 0, 0, []), (73, 7, 2, 0, 0, []), (74, 0, 2, 0, 0, []), (75, 2, 0, 0, 750, []), (78, 4, 57, 3, 0, []), (81, 1, 0, 0, 0, []), (82, 3, 12, 10, 0, []), (85, 0, 2, 0, 0, []), (86, 1, 0, 0, 0, []), (87, 1, 0, 0, 0, []), (88, 3, 12, 10, 0, []), (91, 0, 2, 0, 0, []), (92, 5, 0, 0, 0, []), (93, 12, 229, 1, 0, [12]), (96, 11, 0, 0, 0, []), (97, 8, 2, 0, 1, []), (100, 9, 42, 0, 0, []), (103, 1, 0, 0, 0, []), (104, 12, 231, 0, 0, [12]), (107, 0, 1, 0, 0, []), (108, 10, 64, 1, 0, []), (111, 1, 0, 0, 0, []), (112, 2, 0, 0, 0, []), (113, 19, 12, 3, 0, []), (116, 2, 0, 0, 1, []), (117, 15, 0, 0, 0, [])]
def tX12_isBare : List PO := [(0, 1, 0, 0, 0, []), (1, 3, 12, 1, 0, []), (4, 2, 0, 0, 67, []), (6, 0, 1, 0, 0, []), (7, 6, 0, 0, 0, []), (8, 2, 0, 0, 0, []), (9, 11, 0, 0, 0, []), (10, 1, 0, 0, 0, []), (11, 3, 12, 1, 0, []), (14, 2, 0, 0, 211, []), (17, 0, 1, 0, 0, []), (18, 6, 0, 0, 0, []), (19, 2, 0, 0, 0, []), (20, 11, 0, 0, 0, []), (21, 1, 0, 0, 0, []), (22, 3, 12, 1, 0, []), (25, 2, 0, 0, 355, []), (28, 0, 1, 0, 0, []), (29, 6, 0, 0, 0, []), (30, 2, 0, 0, 0, []), (31, 11, 0, 0, 0, []), (32, 16, 0, 0, 0, [])]
def tX12_isDigit : List PO := [(0, 1, 0, 0, 0, []), (1, 0, 1, 0, 0, []), (2, 2, 0, 0, 48, []), (4, 2, 0, 0, 57, []), (6, 12, 47, 3, 0, [12]), (9, 15, 0, 0, 0, [])]
def tX12_isLetter : List PO := [(0, 1, 0, 0, 0, []), (1, 0, 1, 0, 0, []), (2, 2, 0, 0, 97, []), (4, 2, 0, 0, 122, []), (6, 12, 47, 3, 0, [12]), (9, 10, 12, 1, 0, []), (12, 1, 0, 0, 0, []), (13, 0, 1, 0, 0, []), (14, 2, 0, 0, 65, []), (16, 2, 0, 0, 90, []), (18, 12, 47, 3, 0, [12]), (21, 10, 14, 0, 0, []), (24, 2, 0, 0, 1, []), (25, 9, 15, 0, 0, []), (28, 2, 0, 0, 0, []), (29, 15, 0, 0, 0, [])]
def tX12_isLifted : List PO := [(0, 1, 0, 0, 0, []), (1, 0, 1, 0, 0, []), (2, 12, 49, 1, 0, [12]), (5, 10, 5, 1, 0, []), (8, 16, 0, 0, 0, []), (9, 1, 0, 0, 0, []), (10, 2, 0, 0, 3, []), (11, 1, 0, 0, 0, []), (12, 3, 12, 1, 0, []), (15, 2, 0, 0, 67, []), (17, 0, 1, 0, 0, []), (18, 6, 0, 0, 0, []), (19, 5, 0, 0, 0, []), (20, 2, 0, 0, 1, []), (21, 6, 1, 0, 0, []), (22, 0, 1, 0, 0, []), (23, 12, 243, 3, 0, [12]), (26, 1, 0, 0, 0, []), (27, 0, 1, 0, 0, []), (28, 12, 220, 1, 0, [12]), (31, 16, 0, 0, 0, [])]
def tX12_isLineWord : List PO := [(0, 1, 0, 0, 0, []), (1, 3, 12, 15, 0, []), (4, 2, 0, 0, 2, []), (5, 4, 13, 1, 0, []), (8, 1, 0, 0, 0, []), (9, 1, 0, 0, 0, []), (10, 3, 12, 16, 0, []), (13, 2, 0, 0, 0, []), (14, 2, 0, 0, 2, []), (15, 12, 47, 3, 0, [12]), (18, 10, 13, 0, 0, []), (21, 2, 0, 0, 1, []), (22, 9, 14, 0, 0, []), (25, 2, 0, 0, 0, []), (26, 15, 0, 0, 0, [])]
def tX12_isMarkSign : List PO := [(0, 0, 1, 0, 0, []), (1, 2, 0, 0, 59, []), (3, 4, 30, 0, 0, []), (6, 0, 1, 0, 0, []), (7, 2, 0, 0, 43, []), (9, 4, 30, 0, 0, []), (12, 0, 1, 0, 0, []), (13, 2, 0, 0, 45, []), (15, 4, 30, 0, 0, []), (18, 0, 1, 0, 0, []), (19, 2, 0, 0, 42, []), (21, 4, 30, 0, 0, []), (24, 0, 1, 0, 0, []), (25, 2, 0, 0, 47, []), (27, 4, 30, 0, 0, []), (30, 0, 1, 0, 0, []), (31, 2, 0, 0, 40, []), (33, 4, 30, 0, 0, []), (36, 0, 1, 0, 0, []), (37, 2, 0, 0, 41, []), (39, 4, 30, 0, 0, []), (42, 0, 1, 0, 0, []), (43, 2, 0, 0, 60, []), (45, 4, 30, 0, 0, []), (48, 0, 1, 0, 0, []), (49, 2, 0, 0, 61, []), (51, 4, 30, 0, 0, []), (54, 0, 1, 0, 0, []), (55, 2, 0, 0, 62, []), (57, 4, 32, 1, 0, []), (60, 2, 0, 0, 1, []), (61, 9, 33, 0, 0, []), (64, 2, 0, 0, 0, []), (65, 15, 0, 0, 0, [])]
def tX12_isSign : List PO := [(0, 1, 0, 0, 0, []), (1, 3, 12, 15, 0, []), (4, 2, 0, 0, 4, []), (5, 4, 10, 1, 0, []), (8, 1, 0, 0, 0, []), (9, 3, 12, 16, 0, []), (12, 0, 1, 0, 0, []), (13, 4, 10, 1, 0, []), (16, 2, 0, 0, 1, []), (17, 9, 11, 0, 0, []), (20, 2, 0, 0, 0, []), (21, 15, 0, 0, 0, [])]
def tX12_isVoter : List PO := [(0, 0, 1, 0, 0, []), (1, 10, 8, 2, 0, []), (4, 0, 1, 0, 0, []), (5, 1, 0, 0, 0, []), (6, 3, 12, 6, 0, []), (9, 4, 8, 3, 0, []), (12, 2, 0, 0, 1, []), (13, 9, 9, 0, 0, []), (16, 2, 0, 0, 0, []), (17, 15, 0, 0, 0, [])]
def tX12_isWord : List PO := [(0, 1, 0, 0, 0, []), (1, 3, 12, 15, 0, []), (4, 2, 0, 0, 2, []), (5, 4, 10, 1, 0, []), (8, 1, 0, 0, 0, []), (9, 3, 12, 16, 0, []), (12, 0, 1, 0, 0, []), (13, 4, 10, 1, 0, []), (16, 2, 0, 0, 1, []), (17, 9, 11, 0, 0, []), (20, 2, 0, 0, 0, []), (21, 15, 0, 0, 0, [])]
def tX12_keeps : List PO := [(0, 1, 0, 0, 0, []), (1, 1, 0, 0, 0, []), (2, 3, 12, 74, 0, []), (5, 2, 0, 0, 1, []), (6, 6, 0, 0, 0, []), (7, 19, 12, 74, 0, []), (10, 1, 0, 0, 0, []), (11, 3, 12, 72, 0, []), (14, 10, 17, 1, 0, []), (17, 1, 0, 0, 0, []), (18, 3, 12, 75, 0, []), (21, 1, 0, 0, 0, []), (22, 3, 12, 74, 0, []), (25, 2, 0, 0, 1, []), (26, 6, 1, 0, 0, []), (27, 5, 0, 0, 0, []), (28, 14, 0, 0, 0, []), (29, 1, 0, 0, 0, []), (30, 3, 12, 75, 0, []), (33, 1, 0, 0, 0, []), (34, 3, 12, 74, 0, []), (37, 2, 0, 0, 1, []), (38, 6, 1, 0, 0, []), (39, 0, 1, 0, 0, []), (40, 11, 0, 0, 0, []), (41, 0, 1, 0, 0, []), (42, 14, 0, 0, 0, [])]
def tX12_keepsAhead : List PO := [(0, 1, 0, 0, 0, []), (1, 3, 12, 3, 0, []), (4, 2, 0, 0, 6, []), (6, 4, 30, 1, 0, []), (9, 1, 0, 0, 0, []), (10, 1, 0, 0, 0, []), (11, 3, 12, 3, 0, []), (14, 2, 0, 0, 1, []), (15, 6, 1, 0, 0, []), (16, 19, 12, 3, 0, []), (19, 2, 0, 0, 0, []), (20, 7, 1, 0, 0, []), (21, 0, 1, 0, 0, []), (22, 2, 0, 0, 499, []), (25, 1, 0, 0, 0, []), (26, 3, 12, 3, 0, []), (29, 6, 2, 0, 0, []), (30, 4, 30, 3, 0, []), (33, 1, 0, 0, 0, []), (34, 3, 12, 2, 0, []), (37, 0, 1, 0, 0, []), (38, 1, 0, 0, 0, []), (39, 3, 12, 2, 0, []), (42, 0, 1, 0, 0, []), (43, 2, 0, 0, 499, []), (46, 6, 0, 0, 0, []), (47, 5, 0, 0, 0, []), (48, 11, 0, 0, 0, []), (49, 8, 1, 0, 1, []), (52, 9, 12, 0, 0, []), (55, 2, 0, 0, 0, []), (56, 7, 1, 0, 0, []), (57, 0, 1, 0, 0, []), (58, 2, 0, 0, 499, []), (61, 4, 50, 3, 0, []), (64, 1, 0, 0, 0, []), (65, 3, 12, 2, 0, []), (68, 2, 0, 0, 499, []), (71, 1, 0, 0, 0, []), (72, 3, 12, 3, 0, []), (75, 6, 2, 0, 0, []), (76, 0, 1, 0, 0, []), (77, 6, 0, 0, 0, []), (78, 1, 0, 0, 0, []), (79, 3, 12, 1, 0, []), (82, 0, 1, 0, 0, []), (83, 5, 0, 0, 0, []), (84, 11, 0, 0, 0, []), (85, 8, 1, 0, 1, []), (88, 9, 32, 0, 0, []), (91, 1, 0, 0, 0, []), (92, 1, 0, 0, 0, []), (93, 3, 12, 3, 0, []), (96, 2, 0, 0, 1, []), (97, 6, 0, 0, 0, []), (98, 19, 12, 3, 0, []), (101, 16, 0, 0, 0, [])]
def tX12_keepsLaw : List PO := [(0, 1, 0, 0, 0, []), (1, 3, 12, 18, 0, []), (4, 2, 0, 0, 0, []), (5, 1, 0, 0, 0, []), (6, 1, 0, 0, 0, []), (7, 3, 12, 18, 0, []), (10, 2, 0, 0, 0, []), (11, 5, 0, 0, 0, []), (12, 12, 229, 1, 0, [12]), (15, 11, 0, 0, 0, []), (16, 2, 0, 0, 0, []), (17, 7, 1, 0, 0, []), (18, 0, 1, 0, 0, []), (19, 2, 0, 0, 16, []), (21, 4, 57, 3, 0, []), (24, 1, 0, 0, 0, []), (25, 3, 12, 19, 0, []), (28, 0, 1, 0, 0, []), (29, 1, 0, 0, 0, []), (30, 1, 0, 0, 0, []), (31, 3, 12, 19, 0, []), (34, 0, 1, 0, 0, []), (35, 5, 0, 0, 0, []), (36, 12, 229, 1, 0, [12]), (39, 11, 0, 0, 0, []), (40, 1, 0, 0, 0, []), (41, 3, 12, 20, 0, []), (44, 0, 1, 0, 0, []), (45, 1, 0, 0, 0, []), (46, 1, 0, 0, 0, []), (47, 3, 12, 20, 0, []), (50, 0, 1, 0, 0, []), (51, 5, 0, 0, 0, []), (52, 12, 229, 1, 0, [12]), (55, 11, 0, 0, 0, []), (56, 1, 0, 0, 0, []), (57, 3, 12, 21, 0, []), (60, 0, 1, 0, 0, []), (61, 1, 0, 0, 0, []), (62, 1, 0, 0, 0, []), (63, 3, 12, 21, 0, []), (66, 0, 1, 0, 0, []), (67, 5, 0, 0, 0, []), (68, 12, 229, 1, 0, [12]), (71, 11, 0, 0, 0, []), (72, 1, 0, 0, 0, []), (73, 3, 12, 22, 0, []), (76, 0, 1, 0, 0, []), (77, 1, 0, 0, 0, []), (78, 1, 0, 0, 0, []), (79, 3, 12, 22, 0, []), (82, 0, 1, 0, 0, []), (83, 5, 0, 0, 0, []), (84, 12, 229, 1, 0, [12]), (87, 11, 0, 0, 0, []), (88, 8, 1, 0, 1, []), (91, 9, 12, 0, 0, []), (94, 2, 0, 0, 0, []), (95, 7, 1, 0, 0, []), (96, 0, 1, 0, 0, []), (97, 2, 0, 0, 400, []), (100, 4, 84, 3, 0, []), (103, 1, 0, 0, 0, []), (104, 3, 12, 23, 0, []), (107, 0, 1, 0, 0, []), (108, 1, 0, 0, 0, []), (109, 1, 0, 0, 0, []), (110, 3, 12, 23, 0, []), (113, 0, 1, 0, 0, []), (114, 5, 0, 0, 0, []), (115, 12, 229, 1, 0, [12]), (118, 11, 0, 0, 0, []), (119, 1, 0, 0, 0, []), (120, 3, 12, 24, 0, []), (123, 0, 1, 0, 0, []), (124, 1, 0, 0, 0, []), (125, 1, 0, 0, 0, []), (126, 3, 12, 24, 0, []), (129, 0, 1, 0, 0, []), (130, 5, 0, 0, 0, []), (131, 12, 229, 1, 0, [12]), (134, 11, 0, 0, 0, []), (135, 8, 1, 0, 1, []), (138, 9, 59, 0, 0, []), (141, 16, 0, 0, 0, [])]
def tX12_keepsMany : List PO := [(0, 1, 0, 0, 0, []), (1, 1, 0, 0, 0, []), (2, 1, 0, 0, 0, []), (3, 3, 12, 6, 0, []), (6, 12, 229, 1, 0, [12]), (9, 19, 12, 6, 0, []), (12, 1, 0, 0, 0, []), (13, 1, 0, 0, 0, []), (14, 1, 0, 0, 0, []), (15, 3, 12, 34, 0, []), (18, 12, 229, 1, 0, [12]), (21, 19, 12, 34, 0, []), (24, 1, 0, 0, 0, []), (25, 1, 0, 0, 0, []), (26, 1, 0, 0, 0, []), (27, 3, 12, 36, 0, []), (30, 12, 229, 1, 0, [12]), (33, 19, 12, 36, 0, []), (36, 1, 0, 0, 0, []), (37, 1, 0, 0, 0, []), (38, 1, 0, 0, 0, []), (39, 3, 12, 38, 0, []), (42, 12, 229, 1, 0, [12]), (45, 19, 12, 38, 0, []), (48, 1, 0, 0, 0, []), (49, 1, 0, 0, 0, []), (50, 1, 0, 0, 0, []), (51, 3, 12, 43, 0, []), (54, 12, 229, 1, 0, [12]), (57, 19, 12, 43, 0, []), (60, 1, 0, 0, 0, []), (61, 1, 0, 0, 0, []), (62, 1, 0, 0, 0, []), (63, 3, 12, 46, 0, []), (66, 12, 229, 1, 0, [12]), (69, 19, 12, 46, 0, []), (72, 1, 0, 0, 0, []), (73, 1, 0, 0, 0, []), (74, 1, 0, 0, 0, []), (75, 3, 12, 50, 0, []), (78, 12, 229, 1, 0, [12]), (81, 19, 12, 50, 0, []), (84, 1, 0, 0, 0, []), (85, 1, 0, 0, 0, []), (86, 1, 0, 0, 0, []), (87, 3, 12, 52, 0, []), (90, 12, 229, 1, 0, [12]), (93, 19, 12, 52, 0, []), (96, 1, 0, 0, 0, []), (97, 1, 0, 0, 0, []), (98, 1, 0, 0, 0, []), (99, 3, 12, 54, 0, []), (102, 12, 229, 1, 0, [12]), (105, 19, 12, 54, 0, []), (108, 1, 0, 0, 0, []), (109, 1, 0, 0, 0, []), (110, 1, 0, 0, 0, []), (111, 3, 12, 57, 0, []), (114, 12, 229, 1, 0, [12]), (117, 19, 12, 57, 0, []), (120, 1, 0, 0, 0, []), (121, 1, 0, 0, 0, []), (122, 1, 0, 0, 0, []), (123, 3, 12, 61, 0, []), (126, 12, 229, 1, 0, [12]), (129, 19, 12, 61, 0, []), (132, 1, 0, 0, 0, []), (133, 1, 0, 0, 0, []), (134, 1, 0, 0, 0, []), (135, 3, 12, 63, 0, []), (138, 12, 229, 1, 0, [12]), (141, 19, 12, 63, 0, []), (144, 1, 0, 0, 0, []), (145, 1, 0, 0, 0, []), (146, 1, 0, 0, 0, []), (147, 3, 12, 65, 0, []), (150, 12, 229, 1, 0, [12]), (153, 19, 12, 65, 0, []), (156, 16, 0, 0, 0, [])]
def tX12_keepsTold : List PO := [(0, 2, 0, 0, 0, []), (1, 7, 1, 0, 0, []), (2, 0, 1, 0, 0, []), (3, 2, 0, 0, 20, []), (5, 4, 47, 3, 0, []), (8, 1, 0, 0, 0, []), (9, 3, 12, 7, 0, []), (12, 0, 1, 0, 0, []), (13, 1, 0, 0, 0, []), (14, 1, 0, 0, 0, []), (15, 3, 12, 7, 0, []), (18, 0, 1, 0, 0, []), (19, 5, 0, 0, 0, []), (20, 12, 229, 1, 0, [12]), (23, 11, 0, 0, 0, []), (24, 1, 0, 0, 0, []), (25, 3, 12, 8, 0, []), (28, 0, 1, 0, 0, []), (29, 1, 0, 0, 0, []), (30, 1, 0, 0, 0, []), (31, 3, 12, 8, 0, []), (34, 0, 1, 0, 0, []), (35, 5, 0, 0, 0, []), (36, 12, 229, 1, 0, [12]), (39, 11, 0, 0, 0, []), (40, 1, 0, 0, 0, []), (41, 3, 12, 9, 0, []), (44, 0, 1, 0, 0, []), (45, 1, 0, 0, 0, []), (46, 1, 0, 0, 0, []), (47, 3, 12, 9, 0, []), (50, 0, 1, 0, 0, []), (51, 5, 0, 0, 0, []), (52, 12, 229, 1, 0, [12]), (55, 11, 0, 0, 0, []), (56, 1, 0, 0, 0, []), (57, 3, 12, 39, 0, []), (60, 0, 1, 0, 0, []), (61, 1, 0, 0, 0, []), (62, 1, 0, 0, 0, []), (63, 3, 12, 39, 0, []), (66, 0, 1, 0, 0, []), (67, 5, 0, 0, 0, []), (68, 12, 229, 1, 0, [12]), (71, 11, 0, 0, 0, []), (72, 8, 1, 0, 1, []), (75, 9, 2, 0, 0, []), (78, 2, 0, 0, 0, []), (79, 7, 1, 0, 0, []), (80, 0, 1, 0, 0, []), (81, 2, 0, 0, 6, []), (83, 4, 64, 3, 0, []), (86, 1, 0, 0, 0, []), (87, 3, 12, 44, 0, []), (90, 0, 1, 0, 0, []), (91, 1, 0, 0, 0, []), (92, 1, 0, 0, 0, []), (93, 3, 12, 44, 0, []), (96, 0, 1, 0, 0, []), (97, 5, 0, 0, 0, []), (98, 12, 229, 1, 0, [12]), (101, 11, 0, 0, 0, []), (102, 8, 1, 0, 1, []), (105, 9, 49, 0, 0, []), (108, 2, 0, 0, 0, []), (109, 7, 1, 0, 0, []), (110, 0, 1, 0, 0, []), (111, 2, 0, 0, 16, []), (113, 4, 81, 3, 0, []), (116, 1, 0, 0, 0, []), (117, 3, 12, 47, 0, []), (120, 0, 1, 0, 0, []), (121, 1, 0, 0, 0, []), (122, 1, 0, 0, 0, []), (123, 3, 12, 47, 0, []), (126, 0, 1, 0, 0, []), (127, 5, 0, 0, 0, []), (128, 12, 229, 1, 0, [12]), (131, 11, 0, 0, 0, []), (132, 8, 1, 0, 1, []), (135, 9, 66, 0, 0, []), (138, 2, 0, 0, 0, []), (139, 7, 1, 0, 0, []), (140, 0, 1, 0, 0, []), (141, 2, 0, 0, 15, []), (143, 4, 108, 3, 0, []), (146, 1, 0, 0, 0, []), (147, 3, 12, 51, 0, []), (150, 0, 1, 0, 0, []), (151, 1, 0, 0, 0, []), (152, 1, 0, 0, 0, []), (153, 3, 12, 51, 0, []), (156, 0, 1, 0, 0, []), (157, 5, 0, 0, 0, []), (158, 12, 229, 1, 0, [12]), (161, 11, 0, 0, 0, []), (162, 1, 0, 0, 0, []), (163, 3, 12, 53, 0, []), (166, 0, 1, 0, 0, []), (167, 1, 0, 0, 0, []), (168, 1, 0, 0, 0, []), (169, 3, 12, 53, 0, []), (172, 0, 1, 0, 0, []), (173, 5, 0, 0, 0, []), (174, 12, 229, 1, 0, [12]), (177, 11, 0, 0, 0, []), (178, 8, 1, 0, 1, []), (181, 9, 83, 0, 0, []), (184, 2, 0, 0, 0, []), (185, 7, 1, 0, 0, []), (186, 0, 1, 0, 0, []), (187, 2, 0, 0, 8, []), (189, 4, 165, 3, 0, []), (192, 1, 0, 0, 0, []), (193, 3, 12, 55, 0, []), (196, 0, 1, 0, 0, []), (197, 1, 0, 0, 0, []), (198, 1, 0, 0, 0, []), (199, 3, 12, 55, 0, []), (202, 0, 1, 0, 0, []), (203, 5, 0, 0, 0, []), (204, 12, 229, 1, 0, [12]), (207, 11, 0, 0, 0, []), (208, 1, 0, 0, 0, []), (209, 3, 12, 58, 0, []), (212, 0, 1, 0, 0, []), (213, 1, 0, 0, 0, []), (214, 1, 0, 0, 0, []), (215, 3, 12, 58, 0, []), (218, 0, 1, 0, 0, []), (219, 5, 0, 0, 0, []), (220, 12, 229, 1, 0, [12]), (223, 11, 0, 0, 0, []), (224, 1, 0, 0, 0, []), (225, 3, 12, 59, 0, []), (228, 0, 1, 0, 0, []), (229, 1, 0, 0, 0, []), (230, 1, 0, 0, 0, []), (231, 3, 12, 59, 0, []), (234, 0, 1, 0, 0, []), (235, 5, 0, 0, 0, []), (236, 12, 229, 1, 0, [12]), (239, 11, 0, 0, 0, []), (240, 1, 0, 0, 0, []), (241, 3, 12, 64, 0, []), (244, 0, 1, 0, 0, []), (245, 1, 0, 0, 0, []), (246, 1, 0, 0, 0, []), (247, 3, 12, 64, 0, []), (250, 0, 1, 0, 0, []), (251, 5, 0, 0, 0, []), (252, 12, 229, 1, 0, [12]), (255, 11, 0, 0, 0, []), (256, 1, 0, 0, 0, []), (257, 3, 12, 66, 0, []), (260, 0, 1, 0, 0, []), (261, 1, 0, 0, 0, []), (262, 1, 0, 0, 0, []), (263, 3, 12, 66, 0, []), (266, 0, 1, 0, 0, []), (267, 5, 0, 0, 0, []), (268, 12, 229, 1, 0, [12]), (271, 11, 0, 0, 0, []), (272, 8, 1, 0, 1, []), (275, 9, 110, 0, 0, []), (278, 2, 0, 0, 0, []), (279, 7, 1, 0, 0, []), (280, 0, 1, 0, 0, []), (281, 2, 0, 0, 12, []), (283, 4, 182, 3, 0, []), (286, 1, 0, 0, 0, []), (287, 3, 12, 62, 0, []), (290, 0, 1, 0, 0, []), (291, 1, 0, 0, 0, []), (292, 1, 0, 0, 0, []), (293, 3, 12, 62, 0, []), (296, 0, 1, 0, 0, []), (297, 5, 0, 0, 0, []), (298, 12, 229, 1, 0, [12]), (301, 11, 0, 0, 0, []), (302, 8, 1, 0, 1, []), (305, 9, 167, 0, 0, []), (308, 2, 0, 0, 0, []), (309, 7, 1, 0, 0, []), (310, 0, 1, 0, 0, []), (311, 2, 0, 0, 48, []), (313, 4, 199, 3, 0, []), (316, 1, 0, 0, 0, []), (317, 3, 12, 35, 0, []), (320, 0, 1, 0, 0, []), (321, 1, 0, 0, 0, []), (322, 1, 0, 0, 0, []), (323, 3, 12, 35, 0, []), (326, 0, 1, 0, 0, []), (327, 5, 0, 0, 0, []), (328, 12, 229, 1, 0, [12]), (331, 11, 0, 0, 0, []), (332, 8, 1, 0, 1, []), (335, 9, 184, 0, 0, []), (338, 2, 0, 0, 0, []), (339, 7, 1, 0, 0, []), (340, 0, 1, 0, 0, []), (341, 2, 0, 0, 80, []), (343, 4, 216, 3, 0, []), (346, 1, 0, 0, 0, []), (347, 3, 12, 37, 0, []), (350, 0, 1, 0, 0, []), (351, 1, 0, 0, 0, []), (352, 1, 0, 0, 0, []), (353, 3, 12, 37, 0, []), (356, 0, 1, 0, 0, []), (357, 5, 0, 0, 0, []), (358, 12, 229, 1, 0, [12]), (361, 11, 0, 0, 0, []), (362, 8, 1, 0, 1, []), (365, 9, 201, 0, 0, []), (368, 16, 0, 0, 0, [])]
def tX12_lantern : List PO := [(0, 1, 0, 0, 0, []), (1, 2, 0, 0, 0, []), (2, 19, 12, 0, 0, []), (5, 1, 0, 0, 0, []), (6, 0, 1, 0, 0, []), (7, 2, 0, 0, 0, []), (8, 2, 0, 0, 40, []), (10, 12, 47, 3, 0, [12]), (13, 10, 15, 0, 0, []), (16, 1, 0, 0, 0, []), (17, 0, 2, 0, 0, []), (18, 2, 0, 0, 0, []), (19, 2, 0, 0, 1, []), (20, 12, 47, 3, 0, [12]), (23, 10, 17, 1, 0, []), (26, 2, 0, 0, (-1), []), (27, 14, 0, 0, 0, []), (28, 2, 0, 0, 0, []), (29, 7, 3, 0, 0, []), (30, 2, 0, 0, (-1), []), (31, 7, 4, 0, 0, []), (33, 2, 0, 0, (-1), []), (34, 7, 5, 0, 0, []), (36, 2, 0, 0, 0, []), (37, 7, 6, 0, 0, []), (39, 0, 6, 0, 0, []), (41, 1, 0, 0, 0, []), (42, 3, 12, 61, 0, []), (45, 4, 57, 3, 0, []), (48, 1, 0, 0, 0, []), (49, 3, 12, 62, 0, []), (52, 0, 6, 0, 0, []), (54, 5, 0, 0, 0, []), (55, 0, 5, 0, 0, []), (57, 4, 47, 5, 0, []), (60, 1, 0, 0, 0, []), (61, 3, 12, 62, 0, []), (64, 0, 6, 0, 0, []), (66, 5, 0, 0, 0, []), (67, 0, 1, 0, 0, []), (68, 4, 47, 4, 0, []), (71, 0, 3, 0, 0, []), (72, 2, 0, 0, 1, []), (73, 6, 0, 0, 0, []), (74, 7, 3, 0, 0, []), (75, 0, 6, 0, 0, []), (77, 7, 4, 0, 0, []), (79, 1, 0, 0, 0, []), (80, 0, 5, 0, 0, []), (82, 1, 0, 0, 0, []), (83, 3, 12, 62, 0, []), (86, 0, 6, 0, 0, []), (88, 5, 0, 0, 0, []), (89, 12, 68, 2, 0, [12]), (92, 7, 5, 0, 0, []), (94, 8, 6, 0, 1, []), (97, 9, 25, 0, 0, []), (100, 0, 2, 0, 0, []), (101, 10, 61, 1, 0, []), (104, 0, 3, 0, 0, []), (105, 9, 62, 0, 0, []), (108, 0, 4, 0, 0, []), (110, 14, 0, 0, 0, [])]
def tX12_lift : List PO := [(0, 1, 0, 0, 0, []), (1, 2, 0, 0, 0, []), (2, 19, 12, 0, 0, []), (5, 1, 0, 0, 0, []), (6, 0, 1, 0, 0, []), (7, 2, 0, 0, 0, []), (8, 2, 0, 0, 11, []), (10, 12, 47, 3, 0, [12]), (13, 10, 23, 0, 0, []), (16, 1, 0, 0, 0, []), (17, 0, 2, 0, 0, []), (18, 2, 0, 0, 0, []), (19, 2, 0, 0, 11, []), (21, 12, 47, 3, 0, [12]), (24, 10, 23, 0, 0, []), (27, 1, 0, 0, 0, []), (28, 2, 0, 0, 12, []), (30, 0, 1, 0, 0, []), (31, 6, 2, 0, 0, []), (32, 0, 2, 0, 0, []), (33, 6, 0, 0, 0, []), (34, 12, 49, 1, 0, [12]), (37, 10, 25, 1, 0, []), (40, 2, 0, 0, 0, []), (41, 15, 0, 0, 0, []), (42, 1, 0, 0, 0, []), (43, 12, 230, 0, 0, [12]), (46, 1, 0, 0, 0, []), (47, 2, 0, 0, 12, []), (49, 0, 1, 0, 0, []), (50, 6, 2, 0, 0, []), (51, 0, 2, 0, 0, []), (52, 6, 0, 0, 0, []), (53, 12, 223, 1, 0, [12]), (56, 2, 0, 0, 1, []), (57, 15, 0, 0, 0, [])]
def tX12_look : List PO := [(0, 1, 0, 0, 0, []), (1, 2, 0, 0, 0, []), (2, 19, 12, 0, 0, []), (5, 0, 1, 0, 0, []), (6, 10, 8, 1, 0, []), (9, 1, 0, 0, 0, []), (10, 3, 12, 6, 0, []), (13, 14, 0, 0, 0, []), (14, 0, 1, 0, 0, []), (15, 2, 0, 0, 1, []), (16, 4, 14, 1, 0, []), (19, 1, 0, 0, 0, []), (20, 12, 237, 0, 0, [12]), (23, 14, 0, 0, 0, []), (24, 0, 1, 0, 0, []), (25, 2, 0, 0, 2, []), (26, 4, 22, 1, 0, []), (29, 1, 0, 0, 0, []), (30, 3, 12, 1, 0, []), (33, 2, 0, 0, 4, []), (34, 5, 0, 0, 0, []), (35, 14, 0, 0, 0, []), (36, 0, 1, 0, 0, []), (37, 2, 0, 0, 3, []), (38, 4, 30, 1, 0, []), (41, 1, 0, 0, 0, []), (42, 3, 12, 1, 0, []), (45, 2, 0, 0, 1, []), (46, 5, 0, 0, 0, []), (47, 14, 0, 0, 0, []), (48, 0, 1, 0, 0, []), (49, 2, 0, 0, 4, []), (50, 4, 38, 1, 0, []), (53, 1, 0, 0, 0, []), (54, 3, 12, 1, 0, []), (57, 2, 0, 0, 0, []), (58, 5, 0, 0, 0, []), (59, 14, 0, 0, 0, []), (60, 0, 1, 0, 0, []), (61, 2, 0, 0, 5, []), (62, 4, 46, 1, 0, []), (65, 1, 0, 0, 0, []), (66, 3, 12, 1, 0, []), (69, 2, 0, 0, 5, []), (70, 5, 0, 0, 0, []), (71, 14, 0, 0, 0, []), (72, 0, 1, 0, 0, []), (73, 2, 0, 0, 6, []), (75, 4, 54, 1, 0, []), (78, 1, 0, 0, 0, []), (79, 3, 12, 1, 0, []), (82, 2, 0, 0, 6, []), (84, 5, 0, 0, 0, []), (85, 14, 0, 0, 0, []), (86, 0, 1, 0, 0, []), (87, 2, 0, 0, 7, []), (89, 4, 62, 1, 0, []), (92, 1, 0, 0, 0, []), (93, 3, 12, 1, 0, []), (96, 2, 0, 0, 3, []), (97, 5, 0, 0, 0, []), (98, 14, 0, 0, 0, []), (99, 0, 1, 0, 0, []), (100, 2, 0, 0, 8, []), (102, 4, 70, 1, 0, []), (105, 1, 0, 0, 0, []), (106, 3, 12, 1, 0, []), (109, 2, 0, 0, 2, []), (110, 5, 0, 0, 0, []), (111, 14, 0, 0, 0, []), (112, 0, 1, 0, 0, []), (113, 2, 0, 0, 9, []), (115, 4, 78, 1, 0, []), (118, 1, 0, 0, 0, []), (119, 3, 12, 18, 0, []), (122, 2, 0, 0, 0, []), (123, 5, 0, 0, 0, []), (124, 14, 0, 0, 0, []), (125, 0, 1, 0, 0, []), (126, 2, 0, 0, 10, []), (128, 4, 84, 1, 0, []), (131, 1, 0, 0, 0, []), (132, 3, 12, 34, 0, []), (135, 14, 0, 0, 0, []), (136, 0, 1, 0, 0, []), (137, 2, 0, 0, 11, []), (139, 4, 90, 1, 0, []), (142, 1, 0, 0, 0, []), (143, 3, 12, 36, 0, []), (146, 14, 0, 0, 0, []), (147, 0, 1, 0, 0, []), (148, 2, 0, 0, 12, []), (150, 4, 96, 1, 0, []), (153, 1, 0, 0, 0, []), (154, 3, 12, 38, 0, []), (157, 14, 0, 0, 0, []), (158, 0, 1, 0, 0, []), (159, 2, 0, 0, 13, []), (161, 4, 102, 1, 0, []), (164, 1, 0, 0, 0, []), (165, 3, 12, 3, 0, []), (168, 9, 103, 0, 0, []), (171, 2, 0, 0, (-1), []), (172, 14, 0, 0, 0, [])]
def tX12_markMany : List PO := [(0, 2, 0, 0, 0, []), (1, 7, 1, 0, 0, []), (2, 2, 0, 0, 0, []), (3, 7, 2, 0, 0, []), (4, 0, 2, 0, 0, []), (5, 2, 0, 0, 144, []), (8, 4, 17, 3, 0, []), (11, 1, 0, 0, 0, []), (12, 0, 2, 0, 0, []), (13, 12, 49, 1, 0, [12]), (16, 10, 15, 0, 0, []), (19, 0, 1, 0, 0, []), (20, 2, 0, 0, 1, []), (21, 6, 0, 0, 0, []), (22, 7, 1, 0, 0, []), (23, 8, 2, 0, 1, []), (26, 9, 4, 0, 0, []), (29, 0, 1, 0, 0, []), (30, 14, 0, 0, 0, [])]
def tX12_meltsOf : List PO := [(0, 1, 0, 0, 0, []), (1, 0, 1, 0, 0, []), (2, 12, 51, 1, 0, [12]), (5, 1, 0, 0, 0, []), (6, 2, 0, 0, 1, []), (7, 2, 0, 0, 100, []), (9, 1, 0, 0, 0, []), (10, 3, 12, 40, 0, []), (13, 2, 0, 0, 4, []), (14, 5, 0, 0, 0, []), (15, 6, 2, 0, 0, []), (16, 2, 0, 0, 50, []), (18, 1, 0, 0, 0, []), (19, 3, 12, 40, 0, []), (22, 2, 0, 0, 3, []), (23, 5, 0, 0, 0, []), (24, 6, 2, 0, 0, []), (25, 6, 1, 0, 0, []), (26, 2, 0, 0, 1000, []), (29, 12, 54, 3, 0, [12]), (32, 14, 0, 0, 0, [])]
def tX12_middle : List PO := [(0, 1, 0, 0, 0, []), (1, 2, 0, 0, 0, []), (2, 19, 12, 0, 0, []), (5, 1, 0, 0, 0, []), (6, 0, 1, 0, 0, []), (7, 2, 0, 0, 0, []), (8, 2, 0, 0, 3, []), (9, 12, 47, 3, 0, [12]), (12, 10, 11, 1, 0, []), (15, 2, 0, 0, (-1), []), (16, 14, 0, 0, 0, []), (17, 0, 1, 0, 0, []), (18, 2, 0, 0, 1, []), (19, 4, 23, 5, 0, []), (22, 1, 0, 0, 0, []), (23, 0, 1, 0, 0, []), (24, 2, 0, 0, 2, []), (25, 4, 20, 1, 0, []), (28, 2, 0, 0, 1, []), (29, 9, 21, 0, 0, []), (32, 2, 0, 0, 0, []), (33, 12, 200, 1, 0, [12]), (36, 14, 0, 0, 0, []), (37, 1, 0, 0, 0, []), (38, 12, 240, 0, 0, [12]), (41, 7, 2, 0, 0, []), (42, 0, 1, 0, 0, []), (43, 10, 30, 1, 0, []), (46, 0, 2, 0, 0, []), (47, 14, 0, 0, 0, []), (48, 2, 0, 0, 0, []), (49, 7, 3, 0, 0, []), (50, 2, 0, 0, 0, []), (51, 7, 4, 0, 0, []), (53, 0, 4, 0, 0, []), (55, 1, 0, 0, 0, []), (56, 3, 12, 50, 0, []), (59, 4, 50, 3, 0, []), (62, 0, 3, 0, 0, []), (63, 1, 0, 0, 0, []), (64, 1, 0, 0, 0, []), (65, 3, 12, 51, 0, []), (68, 0, 4, 0, 0, []), (70, 5, 0, 0, 0, []), (71, 0, 2, 0, 0, []), (72, 12, 187, 2, 0, [12]), (75, 6, 0, 0, 0, []), (76, 7, 3, 0, 0, []), (77, 8, 4, 0, 1, []), (80, 9, 34, 0, 0, []), (83, 0, 3, 0, 0, []), (84, 14, 0, 0, 0, [])]
def tX12_middleOf : List PO := [(0, 1, 0, 0, 0, []), (1, 3, 12, 50, 0, []), (4, 10, 5, 1, 0, []), (7, 2, 0, 0, (-1), []), (8, 14, 0, 0, 0, []), (9, 2, 0, 0, 0, []), (10, 7, 1, 0, 0, []), (11, 2, 0, 0, 0, []), (12, 7, 2, 0, 0, []), (13, 2, 0, 0, 0, []), (14, 7, 3, 0, 0, []), (15, 0, 3, 0, 0, []), (16, 1, 0, 0, 0, []), (17, 3, 12, 50, 0, []), (20, 4, 27, 3, 0, []), (23, 1, 0, 0, 0, []), (24, 3, 12, 51, 0, []), (27, 0, 3, 0, 0, []), (28, 5, 0, 0, 0, []), (29, 0, 1, 0, 0, []), (30, 4, 25, 4, 0, []), (33, 0, 2, 0, 0, []), (34, 2, 0, 0, 1, []), (35, 6, 0, 0, 0, []), (36, 7, 2, 0, 0, []), (37, 8, 3, 0, 1, []), (40, 9, 11, 0, 0, []), (43, 2, 0, 0, 2, []), (44, 0, 2, 0, 0, []), (45, 6, 2, 0, 0, []), (46, 1, 0, 0, 0, []), (47, 3, 12, 50, 0, []), (50, 4, 35, 2, 0, []), (53, 0, 1, 0, 0, []), (54, 14, 0, 0, 0, []), (55, 0, 1, 0, 0, []), (56, 2, 0, 0, 1, []), (57, 6, 0, 0, 0, []), (58, 7, 1, 0, 0, []), (59, 9, 7, 0, 0, [])]
def tX12_mightMelt : List PO := [(0, 1, 0, 0, 0, []), (1, 1, 0, 0, 0, []), (2, 0, 1, 0, 0, []), (3, 12, 238, 1, 0, [12]), (6, 12, 216, 1, 0, [12]), (9, 10, 7, 1, 0, []), (12, 16, 0, 0, 0, []), (13, 1, 0, 0, 0, []), (14, 3, 12, 1, 0, []), (17, 2, 0, 0, 355, []), (20, 0, 1, 0, 0, []), (21, 6, 0, 0, 0, []), (22, 1, 0, 0, 0, []), (23, 3, 12, 1, 0, []), (26, 2, 0, 0, 355, []), (29, 0, 1, 0, 0, []), (30, 6, 0, 0, 0, []), (31, 5, 0, 0, 0, []), (32, 2, 0, 0, 1, []), (33, 6, 1, 0, 0, []), (34, 11, 0, 0, 0, []), (35, 1, 0, 0, 0, []), (36, 3, 12, 1, 0, []), (39, 2, 0, 0, 355, []), (42, 0, 1, 0, 0, []), (43, 6, 0, 0, 0, []), (44, 5, 0, 0, 0, []), (45, 10, 29, 5, 0, []), (48, 16, 0, 0, 0, []), (49, 1, 0, 0, 0, []), (50, 2, 0, 0, 2, []), (51, 1, 0, 0, 0, []), (52, 3, 12, 1, 0, []), (55, 2, 0, 0, 67, []), (57, 0, 1, 0, 0, []), (58, 6, 0, 0, 0, []), (59, 5, 0, 0, 0, []), (60, 2, 0, 0, 1, []), (61, 6, 1, 0, 0, []), (62, 0, 1, 0, 0, []), (63, 12, 243, 3, 0, [12]), (66, 1, 0, 0, 0, []), (67, 0, 1, 0, 0, []), (68, 12, 220, 1, 0, [12]), (71, 16, 0, 0, 0, [])]
def tX12_name : List PO := [(0, 1, 0, 0, 0, []), (1, 2, 0, 0, 0, []), (2, 19, 12, 0, 0, []), (5, 0, 1, 0, 0, []), (6, 2, 0, 0, (-1), []), (7, 4, 11, 1, 0, []), (10, 1, 0, 0, 0, []), (11, 2, 0, 0, 0, []), (12, 19, 12, 52, 0, []), (15, 2, 0, 0, 0, []), (16, 14, 0, 0, 0, []), (17, 1, 0, 0, 0, []), (18, 0, 1, 0, 0, []), (19, 2, 0, 0, 0, []), (20, 2, 0, 0, 9, []), (22, 12, 47, 3, 0, [12]), (25, 10, 21, 0, 0, []), (28, 1, 0, 0, 0, []), (29, 3, 12, 52, 0, []), (32, 2, 0, 0, 15, []), (34, 4, 23, 1, 0, []), (37, 2, 0, 0, (-1), []), (38, 14, 0, 0, 0, []), (39, 1, 0, 0, 0, []), (40, 3, 12, 53, 0, []), (43, 1, 0, 0, 0, []), (44, 3, 12, 52, 0, []), (47, 0, 1, 0, 0, []), (48, 11, 0, 0, 0, []), (49, 1, 0, 0, 0, []), (50, 1, 0, 0, 0, []), (51, 3, 12, 52, 0, []), (54, 2, 0, 0, 1, []), (55, 6, 0, 0, 0, []), (56, 19, 12, 52, 0, []), (59, 1, 0, 0, 0, []), (60, 3, 12, 52, 0, []), (63, 14, 0, 0, 0, [])]
def tX12_notes : List PO := [(0, 1, 0, 0, 0, []), (1, 3, 12, 5, 0, []), (4, 10, 9, 1, 0, []), (7, 1, 0, 0, 0, []), (8, 3, 12, 1, 0, []), (11, 2, 0, 0, 3, []), (12, 5, 0, 0, 0, []), (13, 2, 0, 0, 150, []), (16, 4, 10, 1, 0, []), (19, 16, 0, 0, 0, []), (20, 2, 0, 0, 5, []), (21, 1, 0, 0, 0, []), (22, 3, 12, 1, 0, []), (25, 2, 0, 0, 3, []), (26, 5, 0, 0, 0, []), (27, 6, 2, 0, 0, []), (28, 7, 4, 0, 0, []), (30, 1, 0, 0, 0, []), (31, 3, 12, 10, 0, []), (34, 0, 4, 0, 0, []), (36, 1, 0, 0, 0, []), (37, 3, 12, 1, 0, []), (40, 2, 0, 0, 0, []), (41, 5, 0, 0, 0, []), (42, 11, 0, 0, 0, []), (43, 1, 0, 0, 0, []), (44, 3, 12, 10, 0, []), (47, 0, 4, 0, 0, []), (49, 2, 0, 0, 1, []), (50, 6, 0, 0, 0, []), (51, 1, 0, 0, 0, []), (52, 3, 12, 1, 0, []), (55, 2, 0, 0, 1, []), (56, 5, 0, 0, 0, []), (57, 11, 0, 0, 0, []), (58, 1, 0, 0, 0, []), (59, 3, 12, 10, 0, []), (62, 0, 4, 0, 0, []), (64, 2, 0, 0, 2, []), (65, 6, 0, 0, 0, []), (66, 0, 1, 0, 0, []), (67, 11, 0, 0, 0, []), (68, 1, 0, 0, 0, []), (69, 3, 12, 10, 0, []), (72, 0, 4, 0, 0, []), (74, 2, 0, 0, 3, []), (75, 6, 0, 0, 0, []), (76, 0, 2, 0, 0, []), (77, 11, 0, 0, 0, []), (78, 1, 0, 0, 0, []), (79, 3, 12, 10, 0, []), (82, 0, 4, 0, 0, []), (84, 2, 0, 0, 4, []), (85, 6, 0, 0, 0, []), (86, 0, 3, 0, 0, []), (87, 11, 0, 0, 0, []), (88, 1, 0, 0, 0, []), (89, 3, 12, 1, 0, []), (92, 2, 0, 0, 3, []), (93, 1, 0, 0, 0, []), (94, 3, 12, 1, 0, []), (97, 2, 0, 0, 3, []), (98, 5, 0, 0, 0, []), (99, 2, 0, 0, 1, []), (100, 6, 0, 0, 0, []), (101, 11, 0, 0, 0, []), (102, 16, 0, 0, 0, [])]
def tX12_of : List PO := [(0, 1, 0, 0, 0, []), (1, 2, 0, 0, 0, []), (2, 19, 12, 0, 0, []), (5, 1, 0, 0, 0, []), (6, 0, 1, 0, 0, []), (7, 12, 227, 1, 0, [12]), (10, 10, 9, 1, 0, []), (13, 2, 0, 0, (-2), []), (15, 14, 0, 0, 0, []), (16, 0, 2, 0, 0, []), (17, 10, 16, 1, 0, []), (20, 1, 0, 0, 0, []), (21, 3, 12, 7, 0, []), (24, 0, 1, 0, 0, []), (25, 5, 0, 0, 0, []), (26, 14, 0, 0, 0, []), (27, 0, 2, 0, 0, []), (28, 2, 0, 0, 1, []), (29, 4, 26, 1, 0, []), (32, 1, 0, 0, 0, []), (33, 3, 12, 1, 0, []), (36, 2, 0, 0, 7, []), (38, 0, 1, 0, 0, []), (39, 6, 0, 0, 0, []), (40, 5, 0, 0, 0, []), (41, 14, 0, 0, 0, []), (42, 0, 2, 0, 0, []), (43, 2, 0, 0, 2, []), (44, 4, 34, 1, 0, []), (47, 1, 0, 0, 0, []), (48, 3, 12, 8, 0, []), (51, 0, 1, 0, 0, []), (52, 5, 0, 0, 0, []), (53, 14, 0, 0, 0, []), (54, 0, 2, 0, 0, []), (55, 2, 0, 0, 3, []), (56, 4, 42, 1, 0, []), (59, 1, 0, 0, 0, []), (60, 3, 12, 9, 0, []), (63, 0, 1, 0, 0, []), (64, 5, 0, 0, 0, []), (65, 14, 0, 0, 0, []), (66, 0, 2, 0, 0, []), (67, 2, 0, 0, 4, []), (68, 4, 52, 1, 0, []), (71, 1, 0, 0, 0, []), (72, 3, 12, 1, 0, []), (75, 2, 0, 0, 27, []), (77, 0, 1, 0, 0, []), (78, 6, 0, 0, 0, []), (79, 5, 0, 0, 0, []), (80, 14, 0, 0, 0, []), (81, 0, 2, 0, 0, []), (82, 2, 0, 0, 5, []), (83, 4, 62, 1, 0, []), (86, 1, 0, 0, 0, []), (87, 3, 12, 1, 0, []), (90, 2, 0, 0, 47, []), (92, 0, 1, 0, 0, []), (93, 6, 0, 0, 0, []), (94, 5, 0, 0, 0, []), (95, 14, 0, 0, 0, []), (96, 0, 2, 0, 0, []), (97, 2, 0, 0, 6, []), (99, 4, 69, 1, 0, []), (102, 1, 0, 0, 0, []), (103, 0, 1, 0, 0, []), (104, 12, 198, 1, 0, [12]), (107, 9, 78, 0, 0, []), (110, 0, 2, 0, 0, []), (111, 2, 0, 0, 7, []), (113, 4, 77, 1, 0, []), (116, 1, 0, 0, 0, []), (117, 3, 12, 39, 0, []), (120, 0, 1, 0, 0, []), (121, 5, 0, 0, 0, []), (122, 9, 78, 0, 0, []), (125, 2, 0, 0, (-2), []), (127, 14, 0, 0, 0, [])]
def tX12_onesOf : List PO := [(0, 2, 0, 0, 0, []), (1, 7, 2, 0, 0, []), (2, 0, 1, 0, 0, []), (3, 7, 3, 0, 0, []), (4, 0, 3, 0, 0, []), (5, 10, 17, 0, 0, []), (8, 0, 2, 0, 0, []), (9, 2, 0, 0, 1, []), (10, 6, 0, 0, 0, []), (11, 7, 2, 0, 0, []), (12, 0, 3, 0, 0, []), (13, 0, 3, 0, 0, []), (14, 2, 0, 0, 1, []), (15, 6, 1, 0, 0, []), (16, 6, 3, 0, 0, []), (17, 7, 3, 0, 0, []), (18, 9, 4, 0, 0, []), (21, 0, 2, 0, 0, []), (22, 14, 0, 0, 0, [])]
def tX12_parishes : List PO := [(0, 1, 0, 0, 0, []), (1, 2, 0, 0, 0, []), (2, 19, 12, 0, 0, []), (5, 1, 0, 0, 0, []), (6, 0, 1, 0, 0, []), (7, 2, 0, 0, 1, []), (8, 2, 0, 0, 8, []), (10, 12, 47, 3, 0, [12]), (13, 10, 19, 0, 0, []), (16, 0, 1, 0, 0, []), (17, 1, 0, 0, 0, []), (18, 3, 12, 46, 0, []), (21, 4, 19, 4, 0, []), (24, 1, 0, 0, 0, []), (25, 0, 2, 0, 0, []), (26, 2, 0, 0, 0, []), (27, 2, 0, 0, 1, []), (28, 12, 47, 3, 0, [12]), (31, 10, 21, 1, 0, []), (34, 2, 0, 0, (-1), []), (35, 14, 0, 0, 0, []), (36, 2, 0, 0, 0, []), (37, 7, 3, 0, 0, []), (38, 0, 3, 0, 0, []), (39, 0, 1, 0, 0, []), (40, 4, 40, 4, 0, []), (43, 2, 0, 0, 0, []), (44, 7, 4, 0, 0, []), (46, 0, 4, 0, 0, []), (48, 1, 0, 0, 0, []), (49, 3, 12, 46, 0, []), (52, 4, 38, 4, 0, []), (55, 1, 0, 0, 0, []), (56, 0, 3, 0, 0, []), (57, 0, 4, 0, 0, []), (59, 12, 212, 2, 0, [12]), (62, 8, 4, 0, 1, []), (65, 9, 28, 0, 0, []), (68, 8, 3, 0, 1, []), (71, 9, 23, 0, 0, []), (74, 0, 2, 0, 0, []), (75, 10, 49, 1, 0, []), (78, 1, 0, 0, 0, []), (79, 3, 12, 48, 0, []), (82, 2, 0, 0, 17, []), (84, 0, 1, 0, 0, []), (85, 6, 2, 0, 0, []), (86, 5, 0, 0, 0, []), (87, 9, 55, 0, 0, []), (90, 1, 0, 0, 0, []), (91, 3, 12, 49, 0, []), (94, 2, 0, 0, 17, []), (96, 0, 1, 0, 0, []), (97, 6, 2, 0, 0, []), (98, 5, 0, 0, 0, []), (99, 14, 0, 0, 0, [])]
def tX12_party : List PO := [(0, 1, 0, 0, 0, []), (1, 2, 0, 0, 0, []), (2, 19, 12, 0, 0, []), (5, 0, 1, 0, 0, []), (6, 2, 0, 0, (-1), []), (7, 4, 11, 1, 0, []), (10, 1, 0, 0, 0, []), (11, 2, 0, 0, 0, []), (12, 19, 12, 43, 0, []), (15, 2, 0, 0, 0, []), (16, 14, 0, 0, 0, []), (17, 1, 0, 0, 0, []), (18, 0, 1, 0, 0, []), (19, 2, 0, 0, 0, []), (20, 2, 0, 0, 999, []), (23, 12, 47, 3, 0, [12]), (26, 10, 21, 0, 0, []), (29, 1, 0, 0, 0, []), (30, 3, 12, 43, 0, []), (33, 2, 0, 0, 6, []), (35, 4, 23, 1, 0, []), (38, 2, 0, 0, (-1), []), (39, 14, 0, 0, 0, []), (40, 1, 0, 0, 0, []), (41, 3, 12, 44, 0, []), (44, 1, 0, 0, 0, []), (45, 3, 12, 43, 0, []), (48, 0, 1, 0, 0, []), (49, 11, 0, 0, 0, []), (50, 1, 0, 0, 0, []), (51, 1, 0, 0, 0, []), (52, 3, 12, 43, 0, []), (55, 2, 0, 0, 1, []), (56, 6, 0, 0, 0, []), (57, 19, 12, 43, 0, []), (60, 1, 0, 0, 0, []), (61, 3, 12, 43, 0, []), (64, 14, 0, 0, 0, [])]
def tX12_press : List PO := [(0, 1, 0, 0, 0, []), (1, 2, 0, 0, 0, []), (2, 19, 12, 0, 0, []), (5, 1, 0, 0, 0, []), (6, 0, 1, 0, 0, []), (7, 12, 227, 1, 0, [12]), (10, 10, 17, 0, 0, []), (13, 1, 0, 0, 0, []), (14, 0, 2, 0, 0, []), (15, 2, 0, 0, 0, []), (16, 2, 0, 0, 11, []), (18, 12, 47, 3, 0, [12]), (21, 10, 17, 0, 0, []), (24, 1, 0, 0, 0, []), (25, 0, 1, 0, 0, []), (26, 12, 193, 1, 0, [12]), (29, 10, 19, 1, 0, []), (32, 2, 0, 0, (-1), []), (33, 14, 0, 0, 0, []), (34, 1, 0, 0, 0, []), (35, 12, 230, 0, 0, [12]), (38, 1, 0, 0, 0, []), (39, 0, 1, 0, 0, []), (40, 0, 2, 0, 0, []), (41, 12, 249, 2, 0, [12]), (44, 14, 0, 0, 0, [])]
def tX12_presses : List PO := [(0, 2, 0, 0, 0, []), (1, 7, 3, 0, 0, []), (2, 0, 3, 0, 0, []), (3, 1, 0, 0, 0, []), (4, 3, 12, 8, 0, []), (7, 0, 1, 0, 0, []), (8, 5, 0, 0, 0, []), (9, 4, 21, 3, 0, []), (12, 1, 0, 0, 0, []), (13, 2, 0, 0, 12, []), (15, 0, 3, 0, 0, []), (16, 6, 2, 0, 0, []), (17, 0, 2, 0, 0, []), (18, 6, 0, 0, 0, []), (19, 12, 49, 1, 0, [12]), (22, 10, 21, 0, 0, []), (25, 0, 3, 0, 0, []), (26, 2, 0, 0, 1, []), (27, 6, 0, 0, 0, []), (28, 7, 3, 0, 0, []), (29, 9, 2, 0, 0, []), (32, 2, 0, 0, 12, []), (34, 0, 3, 0, 0, []), (35, 6, 2, 0, 0, []), (36, 0, 2, 0, 0, []), (37, 6, 0, 0, 0, []), (38, 7, 4, 0, 0, []), (40, 1, 0, 0, 0, []), (41, 1, 0, 0, 0, []), (42, 0, 4, 0, 0, []), (44, 12, 49, 1, 0, [12]), (47, 10, 34, 0, 0, []), (50, 2, 0, 0, 1, []), (51, 9, 35, 0, 0, []), (54, 2, 0, 0, 0, []), (55, 0, 1, 0, 0, []), (56, 0, 4, 0, 0, []), (58, 12, 243, 3, 0, [12]), (61, 1, 0, 0, 0, []), (62, 3, 12, 1, 0, []), (65, 2, 0, 0, 67, []), (67, 0, 4, 0, 0, []), (69, 6, 0, 0, 0, []), (70, 0, 1, 0, 0, []), (71, 2, 0, 0, 1, []), (72, 6, 0, 0, 0, []), (73, 11, 0, 0, 0, []), (74, 1, 0, 0, 0, []), (75, 3, 12, 1, 0, []), (78, 2, 0, 0, 211, []), (81, 0, 4, 0, 0, []), (83, 6, 0, 0, 0, []), (84, 1, 0, 0, 0, []), (85, 3, 12, 1, 0, []), (88, 2, 0, 0, 7, []), (90, 0, 1, 0, 0, []), (91, 6, 0, 0, 0, []), (92, 5, 0, 0, 0, []), (93, 11, 0, 0, 0, []), (94, 1, 0, 0, 0, []), (95, 3, 12, 1, 0, []), (98, 2, 0, 0, 355, []), (101, 0, 4, 0, 0, []), (103, 6, 0, 0, 0, []), (104, 1, 0, 0, 0, []), (105, 2, 0, 0, 9, []), (107, 2, 0, 0, 1, []), (108, 1, 0, 0, 0, []), (109, 3, 12, 9, 0, []), (112, 0, 1, 0, 0, []), (113, 5, 0, 0, 0, []), (114, 2, 0, 0, 2, []), (115, 17, 0, 0, 0, []), (116, 6, 0, 0, 0, []), (117, 12, 62, 2, 0, [12]), (120, 11, 0, 0, 0, []), (121, 1, 0, 0, 0, []), (122, 3, 12, 1, 0, []), (125, 2, 0, 0, 47, []), (127, 0, 1, 0, 0, []), (128, 6, 0, 0, 0, []), (129, 1, 0, 0, 0, []), (130, 3, 12, 1, 0, []), (133, 2, 0, 0, 47, []), (135, 0, 1, 0, 0, []), (136, 6, 0, 0, 0, []), (137, 5, 0, 0, 0, []), (138, 2, 0, 0, 1, []), (139, 6, 0, 0, 0, []), (140, 11, 0, 0, 0, []), (141, 0, 4, 0, 0, []), (143, 14, 0, 0, 0, [])]
def tX12_raw : List PO := [(0, 0, 1, 0, 0, []), (1, 1, 0, 0, 0, []), (2, 3, 12, 12, 0, []), (5, 4, 9, 3, 0, []), (8, 1, 0, 0, 0, []), (9, 3, 12, 11, 0, []), (12, 0, 1, 0, 0, []), (13, 5, 0, 0, 0, []), (14, 9, 10, 0, 0, []), (17, 2, 0, 0, (-1), []), (18, 14, 0, 0, 0, [])]
def tX12_readAny : List PO := [(0, 2, 0, 0, 0, []), (1, 7, 1, 0, 0, []), (2, 1, 0, 0, 0, []), (3, 2, 0, 0, 0, []), (4, 19, 12, 29, 0, []), (7, 2, 0, 0, 1, []), (8, 7, 2, 0, 0, []), (9, 0, 2, 0, 0, []), (10, 10, 61, 0, 0, []), (13, 1, 0, 0, 0, []), (14, 2, 0, 0, 6, []), (16, 12, 228, 1, 0, [12]), (19, 7, 3, 0, 0, []), (20, 0, 3, 0, 0, []), (21, 10, 19, 1, 0, []), (24, 1, 0, 0, 0, []), (25, 2, 0, 0, 40, []), (27, 12, 226, 1, 0, [12]), (30, 10, 49, 0, 0, []), (33, 1, 0, 0, 0, []), (34, 3, 12, 27, 0, []), (37, 2, 0, 0, 8, []), (39, 4, 27, 1, 0, []), (42, 1, 0, 0, 0, []), (43, 2, 0, 0, 3, []), (44, 12, 208, 1, 0, [12]), (47, 14, 0, 0, 0, []), (48, 1, 0, 0, 0, []), (49, 1, 0, 0, 0, []), (50, 3, 12, 27, 0, []), (53, 2, 0, 0, 1, []), (54, 6, 0, 0, 0, []), (55, 19, 12, 27, 0, []), (58, 0, 3, 0, 0, []), (59, 10, 39, 1, 0, []), (62, 0, 1, 0, 0, []), (63, 2, 0, 0, 1, []), (64, 6, 0, 0, 0, []), (65, 7, 1, 0, 0, []), (66, 1, 0, 0, 0, []), (67, 0, 3, 0, 0, []), (68, 10, 44, 0, 0, []), (71, 2, 0, 0, 9, []), (73, 9, 45, 0, 0, []), (76, 2, 0, 0, 12, []), (78, 12, 285, 1, 0, [12]), (81, 1, 0, 0, 0, []), (82, 12, 269, 0, 0, [12]), (85, 9, 7, 0, 0, []), (88, 1, 0, 0, 0, []), (89, 12, 252, 0, 0, [12]), (92, 2, 0, 0, (-1), []), (93, 4, 55, 1, 0, []), (96, 2, 0, 0, (-1), []), (97, 14, 0, 0, 0, []), (98, 1, 0, 0, 0, []), (99, 2, 0, 0, 9, []), (101, 12, 273, 1, 0, [12]), (104, 2, 0, 0, 0, []), (105, 7, 2, 0, 0, []), (106, 9, 7, 0, 0, []), (109, 1, 0, 0, 0, []), (110, 2, 0, 0, 5, []), (111, 12, 228, 1, 0, [12]), (114, 10, 76, 0, 0, []), (117, 1, 0, 0, 0, []), (118, 2, 0, 0, 10, []), (120, 12, 273, 1, 0, [12]), (123, 1, 0, 0, 0, []), (124, 2, 0, 0, 10, []), (126, 12, 285, 1, 0, [12]), (129, 1, 0, 0, 0, []), (130, 12, 269, 0, 0, [12]), (133, 2, 0, 0, 1, []), (134, 7, 2, 0, 0, []), (135, 9, 7, 0, 0, []), (138, 1, 0, 0, 0, []), (139, 2, 0, 0, 4, []), (140, 12, 228, 1, 0, [12]), (143, 10, 94, 0, 0, []), (146, 1, 0, 0, 0, []), (147, 2, 0, 0, 10, []), (149, 12, 273, 1, 0, [12]), (152, 1, 0, 0, 0, []), (153, 2, 0, 0, 11, []), (155, 12, 273, 1, 0, [12]), (158, 1, 0, 0, 0, []), (159, 2, 0, 0, 11, []), (161, 12, 285, 1, 0, [12]), (164, 1, 0, 0, 0, []), (165, 12, 269, 0, 0, [12]), (168, 2, 0, 0, 1, []), (169, 7, 2, 0, 0, []), (170, 9, 7, 0, 0, []), (173, 1, 0, 0, 0, []), (174, 2, 0, 0, 10, []), (176, 12, 273, 1, 0, [12]), (179, 1, 0, 0, 0, []), (180, 2, 0, 0, 11, []), (182, 12, 273, 1, 0, [12]), (185, 0, 1, 0, 0, []), (186, 10, 104, 1, 0, []), (189, 2, 0, 0, 0, []), (190, 14, 0, 0, 0, []), (191, 1, 0, 0, 0, []), (192, 2, 0, 0, 41, []), (194, 12, 226, 1, 0, [12]), (197, 10, 112, 1, 0, []), (200, 1, 0, 0, 0, []), (201, 2, 0, 0, 1, []), (202, 12, 208, 1, 0, [12]), (205, 14, 0, 0, 0, []), (206, 1, 0, 0, 0, []), (207, 1, 0, 0, 0, []), (208, 3, 12, 29, 0, []), (211, 2, 0, 0, 1, []), (212, 6, 1, 0, 0, []), (213, 19, 12, 29, 0, []), (216, 0, 1, 0, 0, []), (217, 2, 0, 0, 1, []), (218, 6, 1, 0, 0, []), (219, 7, 1, 0, 0, []), (220, 1, 0, 0, 0, []), (221, 1, 0, 0, 0, []), (222, 3, 12, 27, 0, []), (225, 2, 0, 0, 1, []), (226, 6, 1, 0, 0, []), (227, 19, 12, 27, 0, []), (230, 1, 0, 0, 0, []), (231, 2, 0, 0, 9, []), (233, 12, 273, 1, 0, [12]), (236, 1, 0, 0, 0, []), (237, 12, 269, 0, 0, [12]), (240, 9, 7, 0, 0, [])]
def tX12_readCompared : List PO := [(0, 1, 0, 0, 0, []), (1, 12, 262, 0, 0, [12]), (4, 2, 0, 0, (-1), []), (5, 4, 6, 1, 0, []), (8, 2, 0, 0, (-1), []), (9, 14, 0, 0, 0, []), (10, 1, 0, 0, 0, []), (11, 2, 0, 0, 60, []), (13, 12, 226, 1, 0, [12]), (16, 10, 22, 1, 0, []), (19, 1, 0, 0, 0, []), (20, 2, 0, 0, 61, []), (22, 12, 226, 1, 0, [12]), (25, 10, 22, 1, 0, []), (28, 1, 0, 0, 0, []), (29, 2, 0, 0, 62, []), (31, 12, 226, 1, 0, [12]), (34, 10, 22, 1, 0, []), (37, 1, 0, 0, 0, []), (38, 2, 0, 0, 1, []), (39, 12, 208, 1, 0, [12]), (42, 14, 0, 0, 0, []), (43, 1, 0, 0, 0, []), (44, 3, 12, 16, 0, []), (47, 2, 0, 0, 60, []), (49, 4, 28, 1, 0, []), (52, 2, 0, 0, 6, []), (54, 9, 35, 0, 0, []), (57, 1, 0, 0, 0, []), (58, 3, 12, 16, 0, []), (61, 2, 0, 0, 61, []), (63, 4, 34, 1, 0, []), (66, 2, 0, 0, 7, []), (68, 9, 35, 0, 0, []), (71, 2, 0, 0, 8, []), (73, 7, 1, 0, 0, []), (74, 1, 0, 0, 0, []), (75, 12, 269, 0, 0, [12]), (78, 1, 0, 0, 0, []), (79, 12, 262, 0, 0, [12]), (82, 2, 0, 0, (-1), []), (83, 4, 44, 1, 0, []), (86, 2, 0, 0, (-1), []), (87, 14, 0, 0, 0, []), (88, 1, 0, 0, 0, []), (89, 0, 1, 0, 0, []), (90, 2, 0, 0, 0, []), (91, 12, 205, 2, 0, [12]), (94, 2, 0, 0, 0, []), (95, 14, 0, 0, 0, [])]
def tX12_readDeed : List PO := [(0, 1, 0, 0, 0, []), (1, 3, 12, 37, 0, []), (4, 0, 1, 0, 0, []), (5, 1, 0, 0, 0, []), (6, 2, 0, 0, 20, []), (8, 2, 0, 0, 0, []), (9, 2, 0, 0, 999, []), (12, 12, 263, 3, 0, [12]), (15, 11, 0, 0, 0, []), (16, 1, 0, 0, 0, []), (17, 3, 12, 37, 0, []), (20, 0, 1, 0, 0, []), (21, 5, 0, 0, 0, []), (22, 2, 0, 0, (-1), []), (23, 4, 17, 1, 0, []), (26, 2, 0, 0, (-1), []), (27, 14, 0, 0, 0, []), (28, 1, 0, 0, 0, []), (29, 2, 0, 0, 11, []), (31, 12, 228, 1, 0, [12]), (34, 10, 23, 0, 0, []), (37, 2, 0, 0, 0, []), (38, 9, 36, 0, 0, []), (41, 1, 0, 0, 0, []), (42, 2, 0, 0, 21, []), (44, 12, 228, 1, 0, [12]), (47, 10, 29, 0, 0, []), (50, 2, 0, 0, 1, []), (51, 9, 36, 0, 0, []), (54, 1, 0, 0, 0, []), (55, 2, 0, 0, 7, []), (57, 12, 228, 1, 0, [12]), (60, 10, 35, 0, 0, []), (63, 2, 0, 0, 2, []), (64, 9, 36, 0, 0, []), (67, 2, 0, 0, (-1), []), (68, 7, 2, 0, 0, []), (69, 0, 2, 0, 0, []), (70, 2, 0, 0, (-1), []), (71, 4, 44, 1, 0, []), (74, 1, 0, 0, 0, []), (75, 2, 0, 0, 1, []), (76, 12, 208, 1, 0, [12]), (79, 14, 0, 0, 0, []), (80, 1, 0, 0, 0, []), (81, 12, 269, 0, 0, [12]), (84, 1, 0, 0, 0, []), (85, 3, 12, 37, 0, []), (88, 0, 1, 0, 0, []), (89, 2, 0, 0, 2, []), (90, 6, 0, 0, 0, []), (91, 0, 2, 0, 0, []), (92, 11, 0, 0, 0, []), (93, 0, 2, 0, 0, []), (94, 10, 59, 1, 0, []), (97, 1, 0, 0, 0, []), (98, 0, 1, 0, 0, []), (99, 12, 254, 1, 0, [12]), (102, 9, 69, 0, 0, []), (105, 0, 2, 0, 0, []), (106, 2, 0, 0, 1, []), (107, 4, 66, 1, 0, []), (110, 1, 0, 0, 0, []), (111, 0, 1, 0, 0, []), (112, 12, 260, 1, 0, [12]), (115, 9, 69, 0, 0, []), (118, 1, 0, 0, 0, []), (119, 0, 1, 0, 0, []), (120, 12, 257, 1, 0, [12]), (123, 7, 3, 0, 0, []), (124, 0, 3, 0, 0, []), (125, 2, 0, 0, (-1), []), (126, 4, 75, 1, 0, []), (129, 2, 0, 0, (-1), []), (130, 9, 78, 0, 0, []), (133, 1, 0, 0, 0, []), (134, 2, 0, 0, 59, []), (136, 12, 256, 1, 0, [12]), (139, 14, 0, 0, 0, [])]
def tX12_readHeat : List PO := [(0, 1, 0, 0, 0, []), (1, 3, 12, 37, 0, []), (4, 0, 1, 0, 0, []), (5, 2, 0, 0, 3, []), (6, 6, 0, 0, 0, []), (7, 1, 0, 0, 0, []), (8, 2, 0, 0, 0, []), (9, 2, 0, 0, 9, []), (11, 12, 258, 2, 0, [12]), (14, 11, 0, 0, 0, []), (15, 1, 0, 0, 0, []), (16, 3, 12, 37, 0, []), (19, 0, 1, 0, 0, []), (20, 2, 0, 0, 3, []), (21, 6, 0, 0, 0, []), (22, 5, 0, 0, 0, []), (23, 2, 0, 0, (-1), []), (24, 4, 20, 1, 0, []), (27, 2, 0, 0, (-1), []), (28, 14, 0, 0, 0, []), (29, 1, 0, 0, 0, []), (30, 3, 12, 37, 0, []), (33, 0, 1, 0, 0, []), (34, 2, 0, 0, 1, []), (35, 6, 0, 0, 0, []), (36, 1, 0, 0, 0, []), (37, 2, 0, 0, 18, []), (39, 2, 0, 0, 0, []), (40, 2, 0, 0, 11, []), (42, 12, 263, 3, 0, [12]), (45, 11, 0, 0, 0, []), (46, 1, 0, 0, 0, []), (47, 3, 12, 37, 0, []), (50, 0, 1, 0, 0, []), (51, 2, 0, 0, 1, []), (52, 6, 0, 0, 0, []), (53, 5, 0, 0, 0, []), (54, 14, 0, 0, 0, [])]
def tX12_readLaw : List PO := [(0, 2, 0, 0, 0, []), (1, 7, 1, 0, 0, []), (2, 1, 0, 0, 0, []), (3, 12, 224, 0, 0, [12]), (6, 10, 75, 0, 0, []), (9, 0, 1, 0, 0, []), (10, 2, 0, 0, 16, []), (12, 4, 12, 1, 0, []), (15, 1, 0, 0, 0, []), (16, 2, 0, 0, 3, []), (17, 12, 208, 1, 0, [12]), (20, 14, 0, 0, 0, []), (21, 2, 0, 0, 32, []), (23, 0, 1, 0, 0, []), (24, 6, 0, 0, 0, []), (25, 7, 2, 0, 0, []), (26, 1, 0, 0, 0, []), (27, 3, 12, 19, 0, []), (30, 0, 2, 0, 0, []), (31, 1, 0, 0, 0, []), (32, 3, 12, 16, 0, []), (35, 11, 0, 0, 0, []), (36, 1, 0, 0, 0, []), (37, 12, 269, 0, 0, [12]), (40, 1, 0, 0, 0, []), (41, 3, 12, 20, 0, []), (44, 0, 2, 0, 0, []), (45, 1, 0, 0, 0, []), (46, 3, 12, 26, 0, []), (49, 11, 0, 0, 0, []), (50, 1, 0, 0, 0, []), (51, 12, 262, 0, 0, [12]), (54, 2, 0, 0, (-1), []), (55, 4, 36, 1, 0, []), (58, 2, 0, 0, (-1), []), (59, 14, 0, 0, 0, []), (60, 1, 0, 0, 0, []), (61, 3, 12, 21, 0, []), (64, 0, 2, 0, 0, []), (65, 1, 0, 0, 0, []), (66, 3, 12, 26, 0, []), (69, 11, 0, 0, 0, []), (70, 1, 0, 0, 0, []), (71, 2, 0, 0, 3, []), (72, 12, 228, 1, 0, [12]), (75, 10, 54, 0, 0, []), (78, 1, 0, 0, 0, []), (79, 12, 269, 0, 0, [12]), (82, 1, 0, 0, 0, []), (83, 12, 251, 0, 0, [12]), (86, 2, 0, 0, (-1), []), (87, 4, 54, 1, 0, []), (90, 2, 0, 0, (-1), []), (91, 14, 0, 0, 0, []), (92, 1, 0, 0, 0, []), (93, 3, 12, 22, 0, []), (96, 0, 2, 0, 0, []), (97, 1, 0, 0, 0, []), (98, 3, 12, 26, 0, []), (101, 11, 0, 0, 0, []), (102, 1, 0, 0, 0, []), (103, 2, 0, 0, 59, []), (105, 12, 226, 1, 0, [12]), (108, 10, 68, 1, 0, []), (111, 1, 0, 0, 0, []), (112, 2, 0, 0, 1, []), (113, 12, 208, 1, 0, [12]), (116, 14, 0, 0, 0, []), (117, 1, 0, 0, 0, []), (118, 12, 269, 0, 0, [12]), (121, 0, 1, 0, 0, []), (122, 2, 0, 0, 1, []), (123, 6, 0, 0, 0, []), (124, 7, 1, 0, 0, []), (125, 9, 2, 0, 0, []), (128, 1, 0, 0, 0, []), (129, 3, 12, 15, 0, []), (132, 10, 80, 1, 0, []), (135, 0, 1, 0, 0, []), (136, 9, 83, 0, 0, []), (139, 1, 0, 0, 0, []), (140, 2, 0, 0, 1, []), (141, 12, 208, 1, 0, [12]), (144, 14, 0, 0, 0, [])]
def tX12_readMark : List PO := [(0, 1, 0, 0, 0, []), (1, 0, 1, 0, 0, []), (2, 12, 226, 1, 0, [12]), (5, 10, 8, 1, 0, []), (8, 1, 0, 0, 0, []), (9, 2, 0, 0, 1, []), (10, 12, 208, 1, 0, [12]), (13, 14, 0, 0, 0, []), (14, 1, 0, 0, 0, []), (15, 12, 269, 0, 0, [12]), (18, 2, 0, 0, 0, []), (19, 14, 0, 0, 0, [])]
def tX12_readMind : List PO := [(0, 1, 0, 0, 0, []), (1, 3, 12, 37, 0, []), (4, 0, 1, 0, 0, []), (5, 2, 0, 0, 1, []), (6, 6, 0, 0, 0, []), (7, 2, 0, 0, 0, []), (8, 11, 0, 0, 0, []), (9, 1, 0, 0, 0, []), (10, 3, 12, 37, 0, []), (13, 0, 1, 0, 0, []), (14, 2, 0, 0, 3, []), (15, 6, 0, 0, 0, []), (16, 1, 0, 0, 0, []), (17, 2, 0, 0, 0, []), (18, 1, 0, 0, 0, []), (19, 3, 12, 6, 0, []), (22, 2, 0, 0, 1, []), (23, 6, 1, 0, 0, []), (24, 12, 258, 2, 0, [12]), (27, 11, 0, 0, 0, []), (28, 1, 0, 0, 0, []), (29, 3, 12, 37, 0, []), (32, 0, 1, 0, 0, []), (33, 2, 0, 0, 3, []), (34, 6, 0, 0, 0, []), (35, 5, 0, 0, 0, []), (36, 2, 0, 0, (-1), []), (37, 4, 30, 1, 0, []), (40, 2, 0, 0, (-1), []), (41, 14, 0, 0, 0, []), (42, 1, 0, 0, 0, []), (43, 3, 12, 15, 0, []), (46, 2, 0, 0, 2, []), (47, 4, 41, 1, 0, []), (50, 1, 0, 0, 0, []), (51, 1, 0, 0, 0, []), (52, 3, 12, 16, 0, []), (55, 2, 0, 0, 22, []), (57, 2, 0, 0, 24, []), (59, 12, 47, 3, 0, [12]), (62, 10, 45, 1, 0, []), (65, 1, 0, 0, 0, []), (66, 2, 0, 0, 1, []), (67, 12, 208, 1, 0, [12]), (70, 14, 0, 0, 0, []), (71, 1, 0, 0, 0, []), (72, 3, 12, 37, 0, []), (75, 0, 1, 0, 0, []), (76, 2, 0, 0, 4, []), (77, 6, 0, 0, 0, []), (78, 1, 0, 0, 0, []), (79, 3, 12, 16, 0, []), (82, 2, 0, 0, 22, []), (84, 4, 56, 1, 0, []), (87, 2, 0, 0, 1, []), (88, 9, 63, 0, 0, []), (91, 1, 0, 0, 0, []), (92, 3, 12, 16, 0, []), (95, 2, 0, 0, 23, []), (97, 4, 62, 1, 0, []), (100, 2, 0, 0, (-1), []), (101, 9, 63, 0, 0, []), (104, 2, 0, 0, 0, []), (105, 11, 0, 0, 0, []), (106, 1, 0, 0, 0, []), (107, 12, 269, 0, 0, [12]), (110, 2, 0, 0, 0, []), (111, 14, 0, 0, 0, [])]
def tX12_readNumber : List PO := [(0, 1, 0, 0, 0, []), (1, 3, 12, 15, 0, []), (4, 2, 0, 0, 3, []), (5, 4, 8, 0, 0, []), (8, 1, 0, 0, 0, []), (9, 2, 0, 0, 1, []), (10, 12, 208, 1, 0, [12]), (13, 14, 0, 0, 0, []), (14, 1, 0, 0, 0, []), (15, 1, 0, 0, 0, []), (16, 3, 12, 16, 0, []), (19, 0, 1, 0, 0, []), (20, 0, 2, 0, 0, []), (21, 12, 47, 3, 0, [12]), (24, 10, 19, 1, 0, []), (27, 1, 0, 0, 0, []), (28, 2, 0, 0, 2, []), (29, 12, 208, 1, 0, [12]), (32, 14, 0, 0, 0, []), (33, 1, 0, 0, 0, []), (34, 3, 12, 16, 0, []), (37, 7, 3, 0, 0, []), (38, 1, 0, 0, 0, []), (39, 12, 269, 0, 0, [12]), (42, 0, 3, 0, 0, []), (43, 14, 0, 0, 0, [])]
def tX12_readProduct : List PO := [(0, 1, 0, 0, 0, []), (1, 12, 266, 0, 0, [12]), (4, 2, 0, 0, (-1), []), (5, 4, 6, 1, 0, []), (8, 2, 0, 0, (-1), []), (9, 14, 0, 0, 0, []), (10, 1, 0, 0, 0, []), (11, 2, 0, 0, 42, []), (13, 12, 226, 1, 0, [12]), (16, 10, 14, 1, 0, []), (19, 1, 0, 0, 0, []), (20, 2, 0, 0, 47, []), (22, 12, 226, 1, 0, [12]), (25, 10, 54, 0, 0, []), (28, 1, 0, 0, 0, []), (29, 2, 0, 0, 42, []), (31, 12, 226, 1, 0, [12]), (34, 7, 1, 0, 0, []), (35, 1, 0, 0, 0, []), (36, 12, 269, 0, 0, [12]), (39, 0, 1, 0, 0, []), (40, 10, 30, 1, 0, []), (43, 1, 0, 0, 0, []), (44, 3, 12, 15, 0, []), (47, 2, 0, 0, 3, []), (48, 4, 30, 0, 0, []), (51, 1, 0, 0, 0, []), (52, 2, 0, 0, 1, []), (53, 12, 208, 1, 0, [12]), (56, 14, 0, 0, 0, []), (57, 0, 1, 0, 0, []), (58, 10, 39, 1, 0, []), (61, 1, 0, 0, 0, []), (62, 3, 12, 16, 0, []), (65, 10, 39, 1, 0, []), (68, 1, 0, 0, 0, []), (69, 2, 0, 0, 2, []), (70, 12, 208, 1, 0, [12]), (73, 14, 0, 0, 0, []), (74, 1, 0, 0, 0, []), (75, 12, 266, 0, 0, [12]), (78, 2, 0, 0, (-1), []), (79, 4, 45, 1, 0, []), (82, 2, 0, 0, (-1), []), (83, 14, 0, 0, 0, []), (84, 1, 0, 0, 0, []), (85, 0, 1, 0, 0, []), (86, 10, 50, 0, 0, []), (89, 2, 0, 0, 4, []), (90, 9, 51, 0, 0, []), (93, 2, 0, 0, 5, []), (94, 2, 0, 0, 0, []), (95, 12, 205, 2, 0, [12]), (98, 9, 6, 0, 0, []), (101, 2, 0, 0, 0, []), (102, 14, 0, 0, 0, [])]
def tX12_readPutty : List PO := [(0, 1, 0, 0, 0, []), (1, 3, 12, 37, 0, []), (4, 0, 1, 0, 0, []), (5, 2, 0, 0, 1, []), (6, 6, 0, 0, 0, []), (7, 1, 0, 0, 0, []), (8, 2, 0, 0, 18, []), (10, 2, 0, 0, 0, []), (11, 2, 0, 0, 11, []), (13, 12, 263, 3, 0, [12]), (16, 11, 0, 0, 0, []), (17, 1, 0, 0, 0, []), (18, 3, 12, 37, 0, []), (21, 0, 1, 0, 0, []), (22, 2, 0, 0, 1, []), (23, 6, 0, 0, 0, []), (24, 5, 0, 0, 0, []), (25, 2, 0, 0, (-1), []), (26, 4, 21, 1, 0, []), (29, 2, 0, 0, (-1), []), (30, 14, 0, 0, 0, []), (31, 1, 0, 0, 0, []), (32, 3, 12, 37, 0, []), (35, 0, 1, 0, 0, []), (36, 2, 0, 0, 3, []), (37, 6, 0, 0, 0, []), (38, 1, 0, 0, 0, []), (39, 2, 0, 0, 0, []), (40, 2, 0, 0, 11, []), (42, 12, 258, 2, 0, [12]), (45, 11, 0, 0, 0, []), (46, 1, 0, 0, 0, []), (47, 3, 12, 37, 0, []), (50, 0, 1, 0, 0, []), (51, 2, 0, 0, 3, []), (52, 6, 0, 0, 0, []), (53, 5, 0, 0, 0, []), (54, 2, 0, 0, (-1), []), (55, 4, 41, 1, 0, []), (58, 2, 0, 0, (-1), []), (59, 14, 0, 0, 0, []), (60, 1, 0, 0, 0, []), (61, 3, 12, 37, 0, []), (64, 0, 1, 0, 0, []), (65, 2, 0, 0, 4, []), (66, 6, 0, 0, 0, []), (67, 1, 0, 0, 0, []), (68, 2, 0, 0, 0, []), (69, 2, 0, 0, 11, []), (71, 12, 258, 2, 0, [12]), (74, 11, 0, 0, 0, []), (75, 1, 0, 0, 0, []), (76, 3, 12, 37, 0, []), (79, 0, 1, 0, 0, []), (80, 2, 0, 0, 4, []), (81, 6, 0, 0, 0, []), (82, 5, 0, 0, 0, []), (83, 14, 0, 0, 0, [])]
def tX12_readSky : List PO := [(0, 2, 0, 0, 0, []), (1, 7, 1, 0, 0, []), (2, 1, 0, 0, 0, []), (3, 2, 0, 0, 20, []), (5, 12, 228, 1, 0, [12]), (8, 10, 29, 0, 0, []), (11, 0, 1, 0, 0, []), (12, 2, 0, 0, 16, []), (14, 4, 13, 1, 0, []), (17, 1, 0, 0, 0, []), (18, 2, 0, 0, 3, []), (19, 12, 208, 1, 0, [12]), (22, 14, 0, 0, 0, []), (23, 1, 0, 0, 0, []), (24, 2, 0, 0, 80, []), (26, 2, 0, 0, 5, []), (27, 0, 1, 0, 0, []), (28, 6, 2, 0, 0, []), (29, 6, 0, 0, 0, []), (30, 12, 253, 1, 0, [12]), (33, 2, 0, 0, (-1), []), (34, 4, 24, 1, 0, []), (37, 2, 0, 0, (-1), []), (38, 14, 0, 0, 0, []), (39, 0, 1, 0, 0, []), (40, 2, 0, 0, 1, []), (41, 6, 0, 0, 0, []), (42, 7, 1, 0, 0, []), (43, 9, 2, 0, 0, []), (46, 1, 0, 0, 0, []), (47, 3, 12, 15, 0, []), (50, 10, 34, 1, 0, []), (53, 0, 1, 0, 0, []), (54, 9, 37, 0, 0, []), (57, 1, 0, 0, 0, []), (58, 2, 0, 0, 1, []), (59, 12, 208, 1, 0, [12]), (62, 14, 0, 0, 0, [])]
def tX12_readSum : List PO := [(0, 1, 0, 0, 0, []), (1, 12, 259, 0, 0, [12]), (4, 2, 0, 0, (-1), []), (5, 4, 6, 1, 0, []), (8, 2, 0, 0, (-1), []), (9, 14, 0, 0, 0, []), (10, 1, 0, 0, 0, []), (11, 2, 0, 0, 43, []), (13, 12, 226, 1, 0, [12]), (16, 10, 14, 1, 0, []), (19, 1, 0, 0, 0, []), (20, 2, 0, 0, 45, []), (22, 12, 226, 1, 0, [12]), (25, 10, 35, 0, 0, []), (28, 1, 0, 0, 0, []), (29, 3, 12, 16, 0, []), (32, 2, 0, 0, 43, []), (34, 4, 20, 1, 0, []), (37, 2, 0, 0, 2, []), (38, 9, 21, 0, 0, []), (41, 2, 0, 0, 3, []), (42, 7, 1, 0, 0, []), (43, 1, 0, 0, 0, []), (44, 12, 269, 0, 0, [12]), (47, 1, 0, 0, 0, []), (48, 12, 259, 0, 0, [12]), (51, 2, 0, 0, (-1), []), (52, 4, 30, 1, 0, []), (55, 2, 0, 0, (-1), []), (56, 14, 0, 0, 0, []), (57, 1, 0, 0, 0, []), (58, 0, 1, 0, 0, []), (59, 2, 0, 0, 0, []), (60, 12, 205, 2, 0, [12]), (63, 9, 6, 0, 0, []), (66, 2, 0, 0, 0, []), (67, 14, 0, 0, 0, [])]
def tX12_readTold : List PO := [(0, 1, 0, 0, 0, []), (1, 0, 1, 0, 0, []), (2, 12, 228, 1, 0, [12]), (5, 10, 8, 1, 0, []), (8, 1, 0, 0, 0, []), (9, 2, 0, 0, 1, []), (10, 12, 208, 1, 0, [12]), (13, 14, 0, 0, 0, []), (14, 1, 0, 0, 0, []), (15, 12, 269, 0, 0, [12]), (18, 1, 0, 0, 0, []), (19, 0, 2, 0, 0, []), (20, 0, 3, 0, 0, []), (21, 12, 258, 2, 0, [12]), (24, 14, 0, 0, 0, [])]
def tX12_readTwin : List PO := [(0, 1, 0, 0, 0, []), (1, 2, 0, 0, 17, []), (3, 2, 0, 0, 0, []), (4, 1, 0, 0, 0, []), (5, 3, 12, 6, 0, []), (8, 2, 0, 0, 1, []), (9, 6, 1, 0, 0, []), (10, 12, 263, 3, 0, [12]), (13, 7, 1, 0, 0, []), (14, 0, 1, 0, 0, []), (15, 2, 0, 0, (-1), []), (16, 4, 14, 1, 0, []), (19, 2, 0, 0, (-1), []), (20, 14, 0, 0, 0, []), (21, 1, 0, 0, 0, []), (22, 2, 0, 0, 25, []), (24, 12, 228, 1, 0, [12]), (27, 10, 22, 1, 0, []), (30, 1, 0, 0, 0, []), (31, 2, 0, 0, 1, []), (32, 12, 208, 1, 0, [12]), (35, 14, 0, 0, 0, []), (36, 1, 0, 0, 0, []), (37, 12, 269, 0, 0, [12]), (40, 1, 0, 0, 0, []), (41, 3, 12, 15, 0, []), (44, 2, 0, 0, 3, []), (45, 4, 36, 1, 0, []), (48, 1, 0, 0, 0, []), (49, 3, 12, 16, 0, []), (52, 0, 1, 0, 0, []), (53, 4, 36, 1, 0, []), (56, 1, 0, 0, 0, []), (57, 2, 0, 0, 2, []), (58, 12, 208, 1, 0, [12]), (61, 14, 0, 0, 0, []), (62, 1, 0, 0, 0, []), (63, 2, 0, 0, 0, []), (64, 1, 0, 0, 0, []), (65, 3, 12, 6, 0, []), (68, 2, 0, 0, 1, []), (69, 6, 1, 0, 0, []), (70, 12, 258, 2, 0, [12]), (73, 7, 2, 0, 0, []), (74, 0, 2, 0, 0, []), (75, 2, 0, 0, (-1), []), (76, 4, 49, 1, 0, []), (79, 2, 0, 0, (-1), []), (80, 14, 0, 0, 0, []), (81, 1, 0, 0, 0, []), (82, 3, 12, 39, 0, []), (85, 2, 0, 0, 20, []), (87, 0, 1, 0, 0, []), (88, 6, 0, 0, 0, []), (89, 1, 0, 0, 0, []), (90, 3, 12, 39, 0, []), (93, 2, 0, 0, 20, []), (95, 0, 1, 0, 0, []), (96, 6, 0, 0, 0, []), (97, 5, 0, 0, 0, []), (98, 2, 0, 0, 1, []), (99, 0, 2, 0, 0, []), (100, 6, 6, 0, 0, []), (101, 6, 4, 0, 0, []), (102, 11, 0, 0, 0, []), (103, 1, 0, 0, 0, []), (104, 3, 12, 39, 0, []), (107, 2, 0, 0, 20, []), (109, 0, 2, 0, 0, []), (110, 6, 0, 0, 0, []), (111, 1, 0, 0, 0, []), (112, 3, 12, 39, 0, []), (115, 2, 0, 0, 20, []), (117, 0, 2, 0, 0, []), (118, 6, 0, 0, 0, []), (119, 5, 0, 0, 0, []), (120, 2, 0, 0, 1, []), (121, 0, 1, 0, 0, []), (122, 6, 6, 0, 0, []), (123, 6, 4, 0, 0, []), (124, 11, 0, 0, 0, []), (125, 1, 0, 0, 0, []), (126, 2, 0, 0, 59, []), (128, 12, 256, 1, 0, [12]), (131, 14, 0, 0, 0, [])]
def tX12_readTwins : List PO := [(0, 2, 0, 0, 0, []), (1, 7, 1, 0, 0, []), (2, 0, 1, 0, 0, []), (3, 2, 0, 0, 20, []), (5, 4, 14, 3, 0, []), (8, 1, 0, 0, 0, []), (9, 3, 12, 39, 0, []), (12, 2, 0, 0, 20, []), (14, 0, 1, 0, 0, []), (15, 6, 0, 0, 0, []), (16, 2, 0, 0, 0, []), (17, 11, 0, 0, 0, []), (18, 8, 1, 0, 1, []), (21, 9, 2, 0, 0, []), (24, 2, 0, 0, 0, []), (25, 7, 1, 0, 0, []), (26, 1, 0, 0, 0, []), (27, 2, 0, 0, 17, []), (29, 12, 228, 1, 0, [12]), (32, 10, 38, 0, 0, []), (35, 0, 1, 0, 0, []), (36, 2, 0, 0, 16, []), (38, 4, 27, 1, 0, []), (41, 1, 0, 0, 0, []), (42, 2, 0, 0, 3, []), (43, 12, 208, 1, 0, [12]), (46, 14, 0, 0, 0, []), (47, 1, 0, 0, 0, []), (48, 12, 264, 0, 0, [12]), (51, 2, 0, 0, (-1), []), (52, 4, 33, 1, 0, []), (55, 2, 0, 0, (-1), []), (56, 14, 0, 0, 0, []), (57, 0, 1, 0, 0, []), (58, 2, 0, 0, 1, []), (59, 6, 0, 0, 0, []), (60, 7, 1, 0, 0, []), (61, 9, 16, 0, 0, []), (64, 1, 0, 0, 0, []), (65, 3, 12, 15, 0, []), (68, 10, 43, 1, 0, []), (71, 0, 1, 0, 0, []), (72, 9, 46, 0, 0, []), (75, 1, 0, 0, 0, []), (76, 2, 0, 0, 1, []), (77, 12, 208, 1, 0, [12]), (80, 14, 0, 0, 0, [])]
def tX12_readUnit : List PO := [(0, 1, 0, 0, 0, []), (1, 3, 12, 15, 0, []), (4, 2, 0, 0, 2, []), (5, 4, 11, 1, 0, []), (8, 1, 0, 0, 0, []), (9, 1, 0, 0, 0, []), (10, 3, 12, 16, 0, []), (13, 12, 192, 1, 0, [12]), (16, 10, 11, 0, 0, []), (19, 2, 0, 0, 1, []), (20, 9, 12, 0, 0, []), (23, 2, 0, 0, 0, []), (24, 7, 1, 0, 0, []), (25, 0, 1, 0, 0, []), (26, 10, 23, 1, 0, []), (29, 1, 0, 0, 0, []), (30, 3, 12, 15, 0, []), (33, 2, 0, 0, 3, []), (34, 4, 23, 0, 0, []), (37, 1, 0, 0, 0, []), (38, 2, 0, 0, 1, []), (39, 12, 208, 1, 0, [12]), (42, 14, 0, 0, 0, []), (43, 1, 0, 0, 0, []), (44, 0, 1, 0, 0, []), (45, 10, 28, 0, 0, []), (48, 2, 0, 0, 1, []), (49, 9, 29, 0, 0, []), (52, 2, 0, 0, 0, []), (53, 0, 1, 0, 0, []), (54, 10, 36, 0, 0, []), (57, 1, 0, 0, 0, []), (58, 3, 12, 16, 0, []), (61, 2, 0, 0, 7, []), (63, 6, 1, 0, 0, []), (64, 9, 38, 0, 0, []), (67, 1, 0, 0, 0, []), (68, 3, 12, 16, 0, []), (71, 12, 205, 2, 0, [12]), (74, 1, 0, 0, 0, []), (75, 12, 269, 0, 0, [12]), (78, 2, 0, 0, 0, []), (79, 14, 0, 0, 0, [])]
def tX12_readWay : List PO := [(0, 1, 0, 0, 0, []), (1, 3, 12, 35, 0, []), (4, 0, 1, 0, 0, []), (5, 1, 0, 0, 0, []), (6, 2, 0, 0, 17, []), (8, 2, 0, 0, 0, []), (9, 1, 0, 0, 0, []), (10, 3, 12, 6, 0, []), (13, 2, 0, 0, 1, []), (14, 6, 1, 0, 0, []), (15, 12, 263, 3, 0, [12]), (18, 11, 0, 0, 0, []), (19, 1, 0, 0, 0, []), (20, 3, 12, 35, 0, []), (23, 0, 1, 0, 0, []), (24, 5, 0, 0, 0, []), (25, 2, 0, 0, (-1), []), (26, 4, 20, 1, 0, []), (29, 2, 0, 0, (-1), []), (30, 14, 0, 0, 0, []), (31, 1, 0, 0, 0, []), (32, 3, 12, 35, 0, []), (35, 0, 1, 0, 0, []), (36, 2, 0, 0, 1, []), (37, 6, 0, 0, 0, []), (38, 1, 0, 0, 0, []), (39, 2, 0, 0, 18, []), (41, 2, 0, 0, 0, []), (42, 2, 0, 0, 11, []), (44, 12, 263, 3, 0, [12]), (47, 11, 0, 0, 0, []), (48, 1, 0, 0, 0, []), (49, 3, 12, 35, 0, []), (52, 0, 1, 0, 0, []), (53, 2, 0, 0, 1, []), (54, 6, 0, 0, 0, []), (55, 5, 0, 0, 0, []), (56, 2, 0, 0, (-1), []), (57, 4, 41, 1, 0, []), (60, 2, 0, 0, (-1), []), (61, 14, 0, 0, 0, []), (62, 1, 0, 0, 0, []), (63, 3, 12, 35, 0, []), (66, 0, 1, 0, 0, []), (67, 2, 0, 0, 2, []), (68, 6, 0, 0, 0, []), (69, 1, 0, 0, 0, []), (70, 2, 0, 0, 19, []), (72, 2, 0, 0, 0, []), (73, 2, 0, 0, 11, []), (75, 12, 263, 3, 0, [12]), (78, 11, 0, 0, 0, []), (79, 1, 0, 0, 0, []), (80, 3, 12, 35, 0, []), (83, 0, 1, 0, 0, []), (84, 2, 0, 0, 2, []), (85, 6, 0, 0, 0, []), (86, 5, 0, 0, 0, []), (87, 2, 0, 0, (-1), []), (88, 4, 62, 1, 0, []), (91, 2, 0, 0, (-1), []), (92, 9, 65, 0, 0, []), (95, 1, 0, 0, 0, []), (96, 2, 0, 0, 59, []), (98, 12, 256, 1, 0, [12]), (101, 14, 0, 0, 0, [])]
def tX12_readWays : List PO := [(0, 2, 0, 0, 0, []), (1, 7, 1, 0, 0, []), (2, 1, 0, 0, 0, []), (3, 2, 0, 0, 17, []), (5, 12, 228, 1, 0, [12]), (8, 10, 29, 0, 0, []), (11, 0, 1, 0, 0, []), (12, 2, 0, 0, 16, []), (14, 4, 13, 1, 0, []), (17, 1, 0, 0, 0, []), (18, 2, 0, 0, 3, []), (19, 12, 208, 1, 0, [12]), (22, 14, 0, 0, 0, []), (23, 1, 0, 0, 0, []), (24, 2, 0, 0, 48, []), (26, 2, 0, 0, 3, []), (27, 0, 1, 0, 0, []), (28, 6, 2, 0, 0, []), (29, 6, 0, 0, 0, []), (30, 12, 267, 1, 0, [12]), (33, 2, 0, 0, (-1), []), (34, 4, 24, 1, 0, []), (37, 2, 0, 0, (-1), []), (38, 14, 0, 0, 0, []), (39, 0, 1, 0, 0, []), (40, 2, 0, 0, 1, []), (41, 6, 0, 0, 0, []), (42, 7, 1, 0, 0, []), (43, 9, 2, 0, 0, []), (46, 1, 0, 0, 0, []), (47, 3, 12, 15, 0, []), (50, 10, 34, 1, 0, []), (53, 0, 1, 0, 0, []), (54, 9, 37, 0, 0, []), (57, 1, 0, 0, 0, []), (58, 2, 0, 0, 1, []), (59, 12, 208, 1, 0, [12]), (62, 14, 0, 0, 0, [])]
def tX12_reads : List PO := [(0, 1, 0, 0, 0, []), (1, 1, 0, 0, 0, []), (2, 3, 12, 13, 0, []), (5, 12, 250, 1, 0, [12]), (8, 2, 0, 0, 32, []), (10, 4, 12, 0, 0, []), (13, 1, 0, 0, 0, []), (14, 1, 0, 0, 0, []), (15, 3, 12, 13, 0, []), (18, 12, 250, 1, 0, [12]), (21, 2, 0, 0, 10, []), (23, 4, 19, 1, 0, []), (26, 1, 0, 0, 0, []), (27, 1, 0, 0, 0, []), (28, 3, 12, 13, 0, []), (31, 2, 0, 0, 1, []), (32, 6, 0, 0, 0, []), (33, 19, 12, 13, 0, []), (36, 9, 0, 0, 0, []), (39, 1, 0, 0, 0, []), (40, 1, 0, 0, 0, []), (41, 3, 12, 13, 0, []), (44, 19, 12, 14, 0, []), (47, 1, 0, 0, 0, []), (48, 2, 0, 0, 1, []), (49, 19, 12, 15, 0, []), (52, 1, 0, 0, 0, []), (53, 1, 0, 0, 0, []), (54, 3, 12, 13, 0, []), (57, 12, 250, 1, 0, [12]), (60, 7, 1, 0, 0, []), (61, 0, 1, 0, 0, []), (62, 2, 0, 0, (-1), []), (63, 4, 38, 1, 0, []), (66, 1, 0, 0, 0, []), (67, 2, 0, 0, 0, []), (68, 19, 12, 15, 0, []), (71, 16, 0, 0, 0, []), (72, 1, 0, 0, 0, []), (73, 1, 0, 0, 0, []), (74, 3, 12, 13, 0, []), (77, 2, 0, 0, 1, []), (78, 6, 0, 0, 0, []), (79, 19, 12, 13, 0, []), (82, 1, 0, 0, 0, []), (83, 0, 1, 0, 0, []), (84, 19, 12, 16, 0, []), (87, 1, 0, 0, 0, []), (88, 0, 1, 0, 0, []), (89, 12, 222, 1, 0, [12]), (92, 10, 81, 0, 0, []), (95, 1, 0, 0, 0, []), (96, 1, 0, 0, 0, []), (97, 1, 0, 0, 0, []), (98, 3, 12, 13, 0, []), (101, 12, 250, 1, 0, [12]), (104, 12, 222, 1, 0, [12]), (107, 10, 65, 0, 0, []), (110, 1, 0, 0, 0, []), (111, 1, 0, 0, 0, []), (112, 3, 12, 13, 0, []), (115, 2, 0, 0, 1, []), (116, 6, 0, 0, 0, []), (117, 19, 12, 13, 0, []), (120, 9, 51, 0, 0, []), (123, 1, 0, 0, 0, []), (124, 1, 0, 0, 0, []), (125, 1, 0, 0, 0, []), (126, 3, 12, 14, 0, []), (129, 1, 0, 0, 0, []), (130, 3, 12, 13, 0, []), (133, 12, 288, 2, 0, [12]), (136, 19, 12, 16, 0, []), (139, 1, 0, 0, 0, []), (140, 3, 12, 16, 0, []), (143, 2, 0, 0, (-1), []), (144, 4, 142, 0, 0, []), (147, 1, 0, 0, 0, []), (148, 2, 0, 0, 2, []), (149, 19, 12, 15, 0, []), (152, 9, 142, 0, 0, []), (155, 1, 0, 0, 0, []), (156, 0, 1, 0, 0, []), (157, 12, 221, 1, 0, [12]), (160, 10, 135, 0, 0, []), (163, 1, 0, 0, 0, []), (164, 0, 1, 0, 0, []), (165, 2, 0, 0, 48, []), (167, 6, 1, 0, 0, []), (168, 19, 12, 16, 0, []), (171, 1, 0, 0, 0, []), (172, 1, 0, 0, 0, []), (173, 1, 0, 0, 0, []), (174, 3, 12, 13, 0, []), (177, 12, 250, 1, 0, [12]), (180, 12, 221, 1, 0, [12]), (183, 10, 124, 0, 0, []), (186, 1, 0, 0, 0, []), (187, 1, 0, 0, 0, []), (188, 3, 12, 16, 0, []), (191, 2, 0, 0, 10000, []), (194, 4, 114, 3, 0, []), (197, 2, 0, 0, 10, []), (199, 1, 0, 0, 0, []), (200, 3, 12, 16, 0, []), (203, 6, 2, 0, 0, []), (204, 1, 0, 0, 0, []), (205, 1, 0, 0, 0, []), (206, 3, 12, 13, 0, []), (209, 12, 250, 1, 0, [12]), (212, 6, 0, 0, 0, []), (213, 2, 0, 0, 48, []), (215, 6, 1, 0, 0, []), (216, 9, 116, 0, 0, []), (219, 1, 0, 0, 0, []), (220, 3, 12, 16, 0, []), (223, 19, 12, 16, 0, []), (226, 1, 0, 0, 0, []), (227, 1, 0, 0, 0, []), (228, 3, 12, 13, 0, []), (231, 2, 0, 0, 1, []), (232, 6, 0, 0, 0, []), (233, 19, 12, 13, 0, []), (236, 9, 90, 0, 0, []), (239, 1, 0, 0, 0, []), (240, 3, 12, 13, 0, []), (243, 1, 0, 0, 0, []), (244, 3, 12, 14, 0, []), (247, 6, 1, 0, 0, []), (248, 2, 0, 0, 5, []), (249, 4, 142, 3, 0, []), (252, 1, 0, 0, 0, []), (253, 2, 0, 0, 3, []), (254, 19, 12, 15, 0, []), (257, 9, 142, 0, 0, []), (260, 1, 0, 0, 0, []), (261, 0, 1, 0, 0, []), (262, 12, 225, 1, 0, [12]), (265, 10, 142, 0, 0, []), (268, 1, 0, 0, 0, []), (269, 2, 0, 0, 4, []), (270, 19, 12, 15, 0, []), (273, 16, 0, 0, 0, [])]
def tX12_readsText : List PO := [(0, 1, 0, 0, 0, []), (1, 2, 0, 0, 0, []), (2, 19, 12, 25, 0, []), (5, 1, 0, 0, 0, []), (6, 12, 269, 0, 0, [12]), (9, 0, 1, 0, 0, []), (10, 2, 0, 0, 1, []), (11, 4, 11, 1, 0, []), (14, 1, 0, 0, 0, []), (15, 12, 268, 0, 0, [12]), (18, 14, 0, 0, 0, []), (19, 0, 1, 0, 0, []), (20, 2, 0, 0, 2, []), (21, 4, 17, 1, 0, []), (24, 1, 0, 0, 0, []), (25, 12, 261, 0, 0, [12]), (28, 14, 0, 0, 0, []), (29, 0, 1, 0, 0, []), (30, 2, 0, 0, 3, []), (31, 4, 23, 1, 0, []), (34, 1, 0, 0, 0, []), (35, 12, 265, 0, 0, [12]), (38, 9, 25, 0, 0, []), (41, 1, 0, 0, 0, []), (42, 12, 255, 0, 0, [12]), (45, 14, 0, 0, 0, [])]
def tX12_seats : List PO := [(0, 1, 0, 0, 0, []), (1, 2, 0, 0, 0, []), (2, 19, 12, 0, 0, []), (5, 1, 0, 0, 0, []), (6, 0, 1, 0, 0, []), (7, 2, 0, 0, 1, []), (8, 2, 0, 0, 40, []), (10, 12, 47, 3, 0, [12]), (13, 10, 24, 0, 0, []), (16, 1, 0, 0, 0, []), (17, 0, 2, 0, 0, []), (18, 2, 0, 0, 0, []), (19, 2, 0, 0, 1, []), (20, 12, 47, 3, 0, [12]), (23, 10, 24, 0, 0, []), (26, 1, 0, 0, 0, []), (27, 0, 3, 0, 0, []), (28, 2, 0, 0, 0, []), (29, 1, 0, 0, 0, []), (30, 3, 12, 43, 0, []), (33, 2, 0, 0, 1, []), (34, 6, 1, 0, 0, []), (35, 12, 47, 3, 0, [12]), (38, 10, 26, 1, 0, []), (41, 2, 0, 0, (-1), []), (42, 14, 0, 0, 0, []), (43, 2, 0, 0, 0, []), (44, 7, 4, 0, 0, []), (46, 0, 4, 0, 0, []), (48, 1, 0, 0, 0, []), (49, 3, 12, 43, 0, []), (52, 4, 39, 3, 0, []), (55, 1, 0, 0, 0, []), (56, 3, 12, 45, 0, []), (59, 0, 4, 0, 0, []), (61, 2, 0, 0, 0, []), (62, 11, 0, 0, 0, []), (63, 8, 4, 0, 1, []), (66, 9, 28, 0, 0, []), (69, 2, 0, 0, 0, []), (70, 7, 4, 0, 0, []), (72, 0, 4, 0, 0, []), (74, 0, 1, 0, 0, []), (75, 4, 92, 3, 0, []), (78, 2, 0, 0, 0, []), (79, 7, 5, 0, 0, []), (81, 2, 0, 0, 1, []), (82, 7, 6, 0, 0, []), (84, 0, 6, 0, 0, []), (86, 1, 0, 0, 0, []), (87, 3, 12, 43, 0, []), (90, 4, 75, 3, 0, []), (93, 1, 0, 0, 0, []), (94, 3, 12, 44, 0, []), (97, 0, 6, 0, 0, []), (99, 5, 0, 0, 0, []), (100, 1, 0, 0, 0, []), (101, 0, 5, 0, 0, []), (103, 0, 2, 0, 0, []), (104, 12, 274, 2, 0, [12]), (107, 6, 2, 0, 0, []), (108, 1, 0, 0, 0, []), (109, 3, 12, 44, 0, []), (112, 0, 5, 0, 0, []), (114, 5, 0, 0, 0, []), (115, 1, 0, 0, 0, []), (116, 0, 6, 0, 0, []), (118, 0, 2, 0, 0, []), (119, 12, 274, 2, 0, [12]), (122, 6, 2, 0, 0, []), (123, 4, 73, 5, 0, []), (126, 0, 6, 0, 0, []), (128, 7, 5, 0, 0, []), (130, 8, 6, 0, 1, []), (133, 9, 48, 0, 0, []), (136, 1, 0, 0, 0, []), (137, 3, 12, 44, 0, []), (140, 0, 5, 0, 0, []), (142, 5, 0, 0, 0, []), (143, 10, 90, 5, 0, []), (146, 1, 0, 0, 0, []), (147, 3, 12, 45, 0, []), (150, 0, 5, 0, 0, []), (152, 1, 0, 0, 0, []), (153, 3, 12, 45, 0, []), (156, 0, 5, 0, 0, []), (158, 5, 0, 0, 0, []), (159, 2, 0, 0, 1, []), (160, 6, 0, 0, 0, []), (161, 11, 0, 0, 0, []), (162, 8, 4, 0, 1, []), (165, 9, 41, 0, 0, []), (168, 1, 0, 0, 0, []), (169, 3, 12, 45, 0, []), (172, 0, 3, 0, 0, []), (173, 5, 0, 0, 0, []), (174, 14, 0, 0, 0, [])]
def tX12_set : List PO := [(0, 1, 0, 0, 0, []), (1, 2, 0, 0, 0, []), (2, 19, 12, 0, 0, []), (5, 1, 0, 0, 0, []), (6, 0, 1, 0, 0, []), (7, 0, 2, 0, 0, []), (8, 0, 3, 0, 0, []), (9, 12, 194, 3, 0, [12]), (12, 10, 11, 1, 0, []), (15, 2, 0, 0, 0, []), (16, 15, 0, 0, 0, []), (17, 0, 1, 0, 0, []), (18, 10, 18, 1, 0, []), (21, 1, 0, 0, 0, []), (22, 3, 12, 7, 0, []), (25, 0, 2, 0, 0, []), (26, 0, 3, 0, 0, []), (27, 11, 0, 0, 0, []), (28, 0, 1, 0, 0, []), (29, 2, 0, 0, 1, []), (30, 4, 28, 1, 0, []), (33, 1, 0, 0, 0, []), (34, 3, 12, 1, 0, []), (37, 2, 0, 0, 7, []), (39, 0, 2, 0, 0, []), (40, 6, 0, 0, 0, []), (41, 0, 3, 0, 0, []), (42, 11, 0, 0, 0, []), (43, 0, 1, 0, 0, []), (44, 2, 0, 0, 2, []), (45, 4, 36, 1, 0, []), (48, 1, 0, 0, 0, []), (49, 3, 12, 8, 0, []), (52, 0, 2, 0, 0, []), (53, 0, 3, 0, 0, []), (54, 11, 0, 0, 0, []), (55, 0, 1, 0, 0, []), (56, 2, 0, 0, 3, []), (57, 4, 44, 1, 0, []), (60, 1, 0, 0, 0, []), (61, 3, 12, 9, 0, []), (64, 0, 2, 0, 0, []), (65, 0, 3, 0, 0, []), (66, 11, 0, 0, 0, []), (67, 0, 1, 0, 0, []), (68, 2, 0, 0, 4, []), (69, 4, 52, 1, 0, []), (72, 1, 0, 0, 0, []), (73, 3, 12, 1, 0, []), (76, 2, 0, 0, 4, []), (77, 0, 3, 0, 0, []), (78, 11, 0, 0, 0, []), (79, 1, 0, 0, 0, []), (80, 2, 0, 0, 0, []), (81, 19, 12, 3, 0, []), (84, 2, 0, 0, 1, []), (85, 15, 0, 0, 0, [])]
def tX12_settles : List PO := [(0, 1, 0, 0, 0, []), (1, 3, 12, 29, 0, []), (4, 10, 32, 5, 0, []), (7, 1, 0, 0, 0, []), (8, 3, 12, 28, 0, []), (11, 1, 0, 0, 0, []), (12, 3, 12, 29, 0, []), (15, 2, 0, 0, 1, []), (16, 6, 1, 0, 0, []), (17, 5, 0, 0, 0, []), (18, 0, 1, 0, 0, []), (19, 4, 32, 1, 0, []), (22, 1, 0, 0, 0, []), (23, 1, 0, 0, 0, []), (24, 3, 12, 29, 0, []), (27, 2, 0, 0, 1, []), (28, 6, 1, 0, 0, []), (29, 19, 12, 29, 0, []), (32, 1, 0, 0, 0, []), (33, 0, 1, 0, 0, []), (34, 2, 0, 0, 0, []), (35, 12, 205, 2, 0, [12]), (38, 0, 1, 0, 0, []), (39, 2, 0, 0, 9, []), (41, 4, 0, 1, 0, []), (44, 1, 0, 0, 0, []), (45, 1, 0, 0, 0, []), (46, 3, 12, 27, 0, []), (49, 2, 0, 0, 1, []), (50, 6, 1, 0, 0, []), (51, 19, 12, 27, 0, []), (54, 9, 0, 0, 0, []), (57, 16, 0, 0, 0, [])]
def tX12_shareBy : List PO := [(0, 0, 2, 0, 0, []), (1, 2, 0, 0, 1, []), (2, 6, 0, 0, 0, []), (3, 1, 0, 0, 0, []), (4, 3, 12, 45, 0, []), (7, 0, 1, 0, 0, []), (8, 5, 0, 0, 0, []), (9, 6, 2, 0, 0, []), (10, 2, 0, 0, 1, []), (11, 6, 0, 0, 0, []), (12, 14, 0, 0, 0, [])]
def tX12_stack : List PO := [(0, 1, 0, 0, 0, []), (1, 2, 0, 0, 0, []), (2, 19, 12, 0, 0, []), (5, 2, 0, 0, 0, []), (6, 7, 1, 0, 0, []), (7, 2, 0, 0, 0, []), (8, 7, 2, 0, 0, []), (9, 0, 2, 0, 0, []), (10, 2, 0, 0, 1, []), (11, 1, 0, 0, 0, []), (12, 3, 12, 57, 0, []), (15, 6, 6, 0, 0, []), (16, 4, 100, 3, 0, []), (19, 2, 0, 0, 0, []), (20, 7, 3, 0, 0, []), (21, 2, 0, 0, 0, []), (22, 7, 4, 0, 0, []), (24, 0, 4, 0, 0, []), (26, 1, 0, 0, 0, []), (27, 3, 12, 57, 0, []), (30, 4, 35, 3, 0, []), (33, 1, 0, 0, 0, []), (34, 0, 2, 0, 0, []), (35, 0, 4, 0, 0, []), (37, 12, 45, 2, 0, [12]), (40, 10, 33, 0, 0, []), (43, 0, 3, 0, 0, []), (44, 1, 0, 0, 0, []), (45, 3, 12, 58, 0, []), (48, 0, 4, 0, 0, []), (50, 5, 0, 0, 0, []), (51, 6, 0, 0, 0, []), (52, 7, 3, 0, 0, []), (53, 8, 4, 0, 1, []), (56, 9, 17, 0, 0, []), (59, 1, 0, 0, 0, []), (60, 3, 12, 60, 0, []), (63, 0, 2, 0, 0, []), (64, 0, 2, 0, 0, []), (65, 10, 42, 1, 0, []), (68, 2, 0, 0, 1, []), (69, 9, 43, 0, 0, []), (72, 2, 0, 0, 0, []), (73, 11, 0, 0, 0, []), (74, 2, 0, 0, 0, []), (75, 7, 4, 0, 0, []), (77, 0, 4, 0, 0, []), (79, 1, 0, 0, 0, []), (80, 3, 12, 57, 0, []), (83, 4, 85, 3, 0, []), (86, 1, 0, 0, 0, []), (87, 0, 2, 0, 0, []), (88, 0, 4, 0, 0, []), (90, 12, 45, 2, 0, [12]), (93, 10, 83, 0, 0, []), (96, 1, 0, 0, 0, []), (97, 3, 12, 60, 0, []), (100, 0, 2, 0, 0, []), (101, 2, 0, 0, 1, []), (102, 0, 4, 0, 0, []), (104, 6, 6, 0, 0, []), (105, 2, 0, 0, (-1), []), (106, 6, 5, 0, 0, []), (107, 6, 3, 0, 0, []), (108, 5, 0, 0, 0, []), (109, 2, 0, 0, 1, []), (110, 4, 83, 1, 0, []), (113, 1, 0, 0, 0, []), (114, 3, 12, 59, 0, []), (117, 0, 4, 0, 0, []), (119, 5, 0, 0, 0, []), (120, 0, 3, 0, 0, []), (121, 1, 0, 0, 0, []), (122, 3, 12, 58, 0, []), (125, 0, 4, 0, 0, []), (127, 5, 0, 0, 0, []), (128, 6, 1, 0, 0, []), (129, 4, 83, 2, 0, []), (132, 1, 0, 0, 0, []), (133, 3, 12, 60, 0, []), (136, 0, 2, 0, 0, []), (137, 2, 0, 0, 1, []), (138, 11, 0, 0, 0, []), (139, 8, 4, 0, 1, []), (142, 9, 46, 0, 0, []), (145, 1, 0, 0, 0, []), (146, 3, 12, 60, 0, []), (149, 0, 2, 0, 0, []), (150, 5, 0, 0, 0, []), (151, 2, 0, 0, 1, []), (152, 4, 98, 1, 0, []), (155, 1, 0, 0, 0, []), (156, 0, 1, 0, 0, []), (157, 1, 0, 0, 0, []), (158, 0, 2, 0, 0, []), (159, 12, 245, 1, 0, [12]), (162, 12, 68, 2, 0, [12]), (165, 7, 1, 0, 0, []), (166, 8, 2, 0, 1, []), (169, 9, 7, 0, 0, []), (172, 0, 1, 0, 0, []), (173, 14, 0, 0, 0, [])]
def tX12_stands : List PO := [(0, 1, 0, 0, 0, []), (1, 2, 0, 0, 0, []), (2, 19, 12, 0, 0, []), (5, 0, 1, 0, 0, []), (6, 2, 0, 0, (-1), []), (7, 4, 11, 1, 0, []), (10, 1, 0, 0, 0, []), (11, 2, 0, 0, 0, []), (12, 19, 12, 61, 0, []), (15, 2, 0, 0, 0, []), (16, 14, 0, 0, 0, []), (17, 1, 0, 0, 0, []), (18, 0, 1, 0, 0, []), (19, 2, 0, 0, 0, []), (20, 2, 0, 0, 30, []), (22, 12, 47, 3, 0, [12]), (25, 10, 21, 0, 0, []), (28, 1, 0, 0, 0, []), (29, 3, 12, 61, 0, []), (32, 2, 0, 0, 12, []), (34, 4, 23, 1, 0, []), (37, 2, 0, 0, (-1), []), (38, 14, 0, 0, 0, []), (39, 1, 0, 0, 0, []), (40, 3, 12, 62, 0, []), (43, 1, 0, 0, 0, []), (44, 3, 12, 61, 0, []), (47, 0, 1, 0, 0, []), (48, 11, 0, 0, 0, []), (49, 1, 0, 0, 0, []), (50, 1, 0, 0, 0, []), (51, 3, 12, 61, 0, []), (54, 2, 0, 0, 1, []), (55, 6, 0, 0, 0, []), (56, 19, 12, 61, 0, []), (59, 1, 0, 0, 0, []), (60, 3, 12, 61, 0, []), (63, 14, 0, 0, 0, [])]
def tX12_state : List PO := [(0, 1, 0, 0, 0, []), (1, 2, 0, 0, 0, []), (2, 19, 12, 0, 0, []), (5, 1, 0, 0, 0, []), (6, 3, 12, 1, 0, []), (9, 2, 0, 0, 2, []), (10, 5, 0, 0, 0, []), (11, 7, 2, 0, 0, []), (12, 1, 0, 0, 0, []), (13, 3, 12, 1, 0, []), (16, 2, 0, 0, 2, []), (17, 0, 1, 0, 0, []), (18, 11, 0, 0, 0, []), (19, 1, 0, 0, 0, []), (20, 2, 0, 0, 0, []), (21, 19, 12, 3, 0, []), (24, 0, 2, 0, 0, []), (25, 14, 0, 0, 0, [])]
def tX12_takesLaw : List PO := [(0, 2, 0, 0, 0, []), (1, 7, 2, 0, 0, []), (2, 0, 2, 0, 0, []), (3, 0, 1, 0, 0, []), (4, 4, 67, 3, 0, []), (7, 1, 0, 0, 0, []), (8, 3, 12, 19, 0, []), (11, 2, 0, 0, 16, []), (13, 1, 0, 0, 0, []), (14, 3, 12, 25, 0, []), (17, 6, 2, 0, 0, []), (18, 0, 2, 0, 0, []), (19, 6, 0, 0, 0, []), (20, 1, 0, 0, 0, []), (21, 3, 12, 19, 0, []), (24, 2, 0, 0, 32, []), (26, 0, 2, 0, 0, []), (27, 6, 0, 0, 0, []), (28, 5, 0, 0, 0, []), (29, 11, 0, 0, 0, []), (30, 1, 0, 0, 0, []), (31, 3, 12, 20, 0, []), (34, 2, 0, 0, 16, []), (36, 1, 0, 0, 0, []), (37, 3, 12, 25, 0, []), (40, 6, 2, 0, 0, []), (41, 0, 2, 0, 0, []), (42, 6, 0, 0, 0, []), (43, 1, 0, 0, 0, []), (44, 3, 12, 20, 0, []), (47, 2, 0, 0, 32, []), (49, 0, 2, 0, 0, []), (50, 6, 0, 0, 0, []), (51, 5, 0, 0, 0, []), (52, 11, 0, 0, 0, []), (53, 1, 0, 0, 0, []), (54, 3, 12, 21, 0, []), (57, 2, 0, 0, 16, []), (59, 1, 0, 0, 0, []), (60, 3, 12, 25, 0, []), (63, 6, 2, 0, 0, []), (64, 0, 2, 0, 0, []), (65, 6, 0, 0, 0, []), (66, 1, 0, 0, 0, []), (67, 3, 12, 21, 0, []), (70, 2, 0, 0, 32, []), (72, 0, 2, 0, 0, []), (73, 6, 0, 0, 0, []), (74, 5, 0, 0, 0, []), (75, 11, 0, 0, 0, []), (76, 1, 0, 0, 0, []), (77, 3, 12, 22, 0, []), (80, 2, 0, 0, 16, []), (82, 1, 0, 0, 0, []), (83, 3, 12, 25, 0, []), (86, 6, 2, 0, 0, []), (87, 0, 2, 0, 0, []), (88, 6, 0, 0, 0, []), (89, 1, 0, 0, 0, []), (90, 3, 12, 22, 0, []), (93, 2, 0, 0, 32, []), (95, 0, 2, 0, 0, []), (96, 6, 0, 0, 0, []), (97, 5, 0, 0, 0, []), (98, 11, 0, 0, 0, []), (99, 8, 2, 0, 1, []), (102, 9, 2, 0, 0, []), (105, 2, 0, 0, 0, []), (106, 7, 2, 0, 0, []), (107, 0, 2, 0, 0, []), (108, 1, 0, 0, 0, []), (109, 3, 12, 26, 0, []), (112, 4, 105, 3, 0, []), (115, 1, 0, 0, 0, []), (116, 3, 12, 23, 0, []), (119, 2, 0, 0, 400, []), (122, 1, 0, 0, 0, []), (123, 3, 12, 25, 0, []), (126, 6, 2, 0, 0, []), (127, 0, 2, 0, 0, []), (128, 6, 0, 0, 0, []), (129, 1, 0, 0, 0, []), (130, 3, 12, 23, 0, []), (133, 2, 0, 0, 800, []), (136, 0, 2, 0, 0, []), (137, 6, 0, 0, 0, []), (138, 5, 0, 0, 0, []), (139, 11, 0, 0, 0, []), (140, 1, 0, 0, 0, []), (141, 3, 12, 24, 0, []), (144, 2, 0, 0, 400, []), (147, 1, 0, 0, 0, []), (148, 3, 12, 25, 0, []), (151, 6, 2, 0, 0, []), (152, 0, 2, 0, 0, []), (153, 6, 0, 0, 0, []), (154, 1, 0, 0, 0, []), (155, 3, 12, 24, 0, []), (158, 2, 0, 0, 800, []), (161, 0, 2, 0, 0, []), (162, 6, 0, 0, 0, []), (163, 5, 0, 0, 0, []), (164, 11, 0, 0, 0, []), (165, 8, 2, 0, 1, []), (168, 9, 69, 0, 0, []), (171, 1, 0, 0, 0, []), (172, 3, 12, 18, 0, []), (175, 1, 0, 0, 0, []), (176, 3, 12, 25, 0, []), (179, 0, 1, 0, 0, []), (180, 11, 0, 0, 0, []), (181, 16, 0, 0, 0, [])]
def tX12_takesOther : List PO := [(0, 0, 1, 0, 0, []), (1, 2, 0, 0, 3, []), (2, 4, 24, 1, 0, []), (5, 2, 0, 0, 0, []), (6, 7, 3, 0, 0, []), (7, 0, 3, 0, 0, []), (8, 2, 0, 0, 20, []), (10, 4, 20, 3, 0, []), (13, 1, 0, 0, 0, []), (14, 3, 12, 39, 0, []), (17, 0, 3, 0, 0, []), (18, 1, 0, 0, 0, []), (19, 3, 12, 39, 0, []), (22, 2, 0, 0, 20, []), (24, 0, 3, 0, 0, []), (25, 6, 0, 0, 0, []), (26, 5, 0, 0, 0, []), (27, 11, 0, 0, 0, []), (28, 8, 3, 0, 1, []), (31, 9, 5, 0, 0, []), (34, 1, 0, 0, 0, []), (35, 0, 2, 0, 0, []), (36, 19, 12, 38, 0, []), (39, 16, 0, 0, 0, []), (40, 0, 1, 0, 0, []), (41, 2, 0, 0, 1, []), (42, 4, 50, 1, 0, []), (45, 2, 0, 0, 0, []), (46, 7, 3, 0, 0, []), (47, 0, 3, 0, 0, []), (48, 2, 0, 0, 3, []), (49, 0, 2, 0, 0, []), (50, 6, 2, 0, 0, []), (51, 4, 46, 3, 0, []), (54, 1, 0, 0, 0, []), (55, 3, 12, 35, 0, []), (58, 0, 3, 0, 0, []), (59, 1, 0, 0, 0, []), (60, 3, 12, 35, 0, []), (63, 2, 0, 0, 48, []), (65, 0, 3, 0, 0, []), (66, 6, 0, 0, 0, []), (67, 5, 0, 0, 0, []), (68, 11, 0, 0, 0, []), (69, 8, 3, 0, 1, []), (72, 9, 29, 0, 0, []), (75, 1, 0, 0, 0, []), (76, 0, 2, 0, 0, []), (77, 19, 12, 34, 0, []), (80, 9, 72, 0, 0, []), (83, 2, 0, 0, 0, []), (84, 7, 3, 0, 0, []), (85, 0, 3, 0, 0, []), (86, 2, 0, 0, 5, []), (87, 0, 2, 0, 0, []), (88, 6, 2, 0, 0, []), (89, 4, 69, 3, 0, []), (92, 1, 0, 0, 0, []), (93, 3, 12, 37, 0, []), (96, 0, 3, 0, 0, []), (97, 1, 0, 0, 0, []), (98, 3, 12, 37, 0, []), (101, 2, 0, 0, 80, []), (103, 0, 3, 0, 0, []), (104, 6, 0, 0, 0, []), (105, 5, 0, 0, 0, []), (106, 11, 0, 0, 0, []), (107, 8, 3, 0, 1, []), (110, 9, 52, 0, 0, []), (113, 1, 0, 0, 0, []), (114, 0, 2, 0, 0, []), (115, 19, 12, 36, 0, []), (118, 1, 0, 0, 0, []), (119, 2, 0, 0, 0, []), (120, 19, 12, 3, 0, []), (123, 16, 0, 0, 0, [])]
def tX12_text : List PO := [(0, 1, 0, 0, 0, []), (1, 2, 0, 0, 0, []), (2, 19, 12, 0, 0, []), (5, 1, 0, 0, 0, []), (6, 2, 0, 0, 0, []), (7, 19, 12, 32, 0, []), (10, 1, 0, 0, 0, []), (11, 2, 0, 0, (-1), []), (12, 19, 12, 33, 0, []), (15, 1, 0, 0, 0, []), (16, 2, 0, 0, 0, []), (17, 19, 12, 13, 0, []), (20, 1, 0, 0, 0, []), (21, 2, 0, 0, 0, []), (22, 19, 12, 26, 0, []), (25, 1, 0, 0, 0, []), (26, 2, 0, 0, 0, []), (27, 19, 12, 27, 0, []), (30, 2, 0, 0, (-1), []), (31, 7, 2, 0, 0, []), (32, 1, 0, 0, 0, []), (33, 0, 1, 0, 0, []), (34, 2, 0, 0, 0, []), (35, 2, 0, 0, 3, []), (36, 12, 47, 3, 0, [12]), (39, 10, 41, 0, 0, []), (42, 1, 0, 0, 0, []), (43, 0, 1, 0, 0, []), (44, 12, 270, 1, 0, [12]), (47, 7, 2, 0, 0, []), (48, 0, 2, 0, 0, []), (49, 2, 0, 0, (-1), []), (50, 4, 41, 1, 0, []), (53, 1, 0, 0, 0, []), (54, 1, 0, 0, 0, []), (55, 3, 12, 30, 0, []), (58, 19, 12, 32, 0, []), (61, 1, 0, 0, 0, []), (62, 1, 0, 0, 0, []), (63, 3, 12, 31, 0, []), (66, 19, 12, 33, 0, []), (69, 1, 0, 0, 0, []), (70, 2, 0, 0, 0, []), (71, 19, 12, 12, 0, []), (74, 0, 2, 0, 0, []), (75, 2, 0, 0, (-1), []), (76, 4, 49, 1, 0, []), (79, 2, 0, 0, (-1), []), (80, 14, 0, 0, 0, []), (81, 0, 1, 0, 0, []), (82, 10, 55, 1, 0, []), (85, 1, 0, 0, 0, []), (86, 0, 2, 0, 0, []), (87, 12, 278, 1, 0, [12]), (90, 9, 59, 0, 0, []), (93, 1, 0, 0, 0, []), (94, 0, 1, 0, 0, []), (95, 0, 2, 0, 0, []), (96, 12, 279, 2, 0, [12]), (99, 0, 2, 0, 0, []), (100, 14, 0, 0, 0, [])]
def tX12_thinks : List PO := [(0, 2, 0, 0, 0, []), (1, 7, 1, 0, 0, []), (2, 0, 1, 0, 0, []), (3, 2, 0, 0, 499, []), (6, 4, 15, 3, 0, []), (9, 1, 0, 0, 0, []), (10, 3, 12, 4, 0, []), (13, 0, 1, 0, 0, []), (14, 1, 0, 0, 0, []), (15, 3, 12, 1, 0, []), (18, 0, 1, 0, 0, []), (19, 5, 0, 0, 0, []), (20, 11, 0, 0, 0, []), (21, 8, 1, 0, 1, []), (24, 9, 2, 0, 0, []), (27, 1, 0, 0, 0, []), (28, 2, 0, 0, 1, []), (29, 19, 12, 5, 1, []), (32, 16, 0, 0, 0, [])]
def tX12_types : List PO := [(0, 2, 0, 0, 24, []), (2, 7, 2, 0, 0, []), (3, 0, 2, 0, 0, []), (4, 10, 22, 2, 0, []), (7, 1, 0, 0, 0, []), (8, 3, 12, 11, 0, []), (11, 1, 0, 0, 0, []), (12, 3, 12, 12, 0, []), (15, 0, 1, 0, 0, []), (16, 0, 2, 0, 0, []), (17, 6, 7, 0, 0, []), (18, 2, 0, 0, 255, []), (21, 6, 3, 0, 0, []), (22, 11, 0, 0, 0, []), (23, 1, 0, 0, 0, []), (24, 1, 0, 0, 0, []), (25, 3, 12, 12, 0, []), (28, 2, 0, 0, 1, []), (29, 6, 0, 0, 0, []), (30, 19, 12, 12, 0, []), (33, 8, 2, 0, (-8), []), (36, 9, 2, 0, 0, []), (39, 16, 0, 0, 0, [])]
def tX12_undo : List PO := [(0, 1, 0, 0, 0, []), (1, 2, 0, 0, 0, []), (2, 19, 12, 0, 0, []), (5, 1, 0, 0, 0, []), (6, 3, 12, 3, 0, []), (9, 10, 8, 1, 0, []), (12, 2, 0, 0, 0, []), (13, 15, 0, 0, 0, []), (14, 1, 0, 0, 0, []), (15, 1, 0, 0, 0, []), (16, 3, 12, 3, 0, []), (19, 2, 0, 0, 1, []), (20, 6, 1, 0, 0, []), (21, 19, 12, 3, 0, []), (24, 2, 0, 0, 0, []), (25, 7, 1, 0, 0, []), (26, 0, 1, 0, 0, []), (27, 2, 0, 0, 499, []), (30, 4, 34, 3, 0, []), (33, 1, 0, 0, 0, []), (34, 3, 12, 1, 0, []), (37, 0, 1, 0, 0, []), (38, 1, 0, 0, 0, []), (39, 3, 12, 2, 0, []), (42, 2, 0, 0, 499, []), (45, 1, 0, 0, 0, []), (46, 3, 12, 3, 0, []), (49, 6, 2, 0, 0, []), (50, 0, 1, 0, 0, []), (51, 6, 0, 0, 0, []), (52, 5, 0, 0, 0, []), (53, 11, 0, 0, 0, []), (54, 8, 1, 0, 1, []), (57, 9, 16, 0, 0, []), (60, 2, 0, 0, 1, []), (61, 15, 0, 0, 0, [])]
def tX12_voter : List PO := [(0, 1, 0, 0, 0, []), (1, 2, 0, 0, 0, []), (2, 19, 12, 0, 0, []), (5, 1, 0, 0, 0, []), (6, 0, 1, 0, 0, []), (7, 2, 0, 0, 0, []), (8, 2, 0, 0, 255, []), (11, 12, 47, 3, 0, [12]), (14, 10, 31, 0, 0, []), (17, 1, 0, 0, 0, []), (18, 0, 2, 0, 0, []), (19, 2, 0, 0, (-1), []), (20, 2, 0, 0, 1, []), (21, 12, 47, 3, 0, [12]), (24, 10, 31, 0, 0, []), (27, 1, 0, 0, 0, []), (28, 0, 3, 0, 0, []), (29, 2, 0, 0, 0, []), (30, 2, 0, 0, 11, []), (32, 12, 47, 3, 0, [12]), (35, 10, 31, 0, 0, []), (38, 1, 0, 0, 0, []), (39, 0, 4, 0, 0, []), (41, 2, 0, 0, 0, []), (42, 2, 0, 0, 9, []), (44, 12, 47, 3, 0, [12]), (47, 10, 31, 0, 0, []), (50, 1, 0, 0, 0, []), (51, 3, 12, 6, 0, []), (54, 2, 0, 0, 20, []), (56, 4, 33, 1, 0, []), (59, 2, 0, 0, (-1), []), (60, 14, 0, 0, 0, []), (61, 1, 0, 0, 0, []), (62, 3, 12, 7, 0, []), (65, 1, 0, 0, 0, []), (66, 3, 12, 6, 0, []), (69, 0, 1, 0, 0, []), (70, 11, 0, 0, 0, []), (71, 1, 0, 0, 0, []), (72, 3, 12, 8, 0, []), (75, 1, 0, 0, 0, []), (76, 3, 12, 6, 0, []), (79, 0, 3, 0, 0, []), (80, 11, 0, 0, 0, []), (81, 1, 0, 0, 0, []), (82, 3, 12, 9, 0, []), (85, 1, 0, 0, 0, []), (86, 3, 12, 6, 0, []), (89, 0, 4, 0, 0, []), (91, 11, 0, 0, 0, []), (92, 1, 0, 0, 0, []), (93, 3, 12, 1, 0, []), (96, 2, 0, 0, 7, []), (98, 1, 0, 0, 0, []), (99, 3, 12, 6, 0, []), (102, 6, 0, 0, 0, []), (103, 0, 2, 0, 0, []), (104, 11, 0, 0, 0, []), (105, 1, 0, 0, 0, []), (106, 3, 12, 1, 0, []), (109, 2, 0, 0, 27, []), (111, 1, 0, 0, 0, []), (112, 3, 12, 6, 0, []), (115, 6, 0, 0, 0, []), (116, 2, 0, 0, 0, []), (117, 11, 0, 0, 0, []), (118, 1, 0, 0, 0, []), (119, 3, 12, 1, 0, []), (122, 2, 0, 0, 47, []), (124, 1, 0, 0, 0, []), (125, 3, 12, 6, 0, []), (128, 6, 0, 0, 0, []), (129, 2, 0, 0, 0, []), (130, 11, 0, 0, 0, []), (131, 1, 0, 0, 0, []), (132, 1, 0, 0, 0, []), (133, 3, 12, 6, 0, []), (136, 2, 0, 0, 1, []), (137, 6, 0, 0, 0, []), (138, 19, 12, 6, 0, []), (141, 1, 0, 0, 0, []), (142, 2, 0, 0, 0, []), (143, 19, 12, 3, 0, []), (146, 1, 0, 0, 0, []), (147, 3, 12, 6, 0, []), (150, 2, 0, 0, 1, []), (151, 6, 1, 0, 0, []), (152, 14, 0, 0, 0, [])]
def tX12_waits : List PO := [(0, 1, 0, 0, 0, []), (1, 3, 12, 28, 0, []), (4, 1, 0, 0, 0, []), (5, 3, 12, 29, 0, []), (8, 0, 1, 0, 0, []), (9, 11, 0, 0, 0, []), (10, 1, 0, 0, 0, []), (11, 1, 0, 0, 0, []), (12, 3, 12, 29, 0, []), (15, 2, 0, 0, 1, []), (16, 6, 0, 0, 0, []), (17, 19, 12, 29, 0, []), (20, 16, 0, 0, 0, [])]
def tX12_whose : List PO := [(0, 1, 0, 0, 0, []), (1, 2, 0, 0, 0, []), (2, 19, 12, 0, 0, []), (5, 1, 0, 0, 0, []), (6, 0, 1, 0, 0, []), (7, 2, 0, 0, 0, []), (8, 2, 0, 0, 255, []), (11, 12, 47, 3, 0, [12]), (14, 10, 15, 0, 0, []), (17, 1, 0, 0, 0, []), (18, 0, 2, 0, 0, []), (19, 2, 0, 0, (-1), []), (20, 2, 0, 0, 8, []), (22, 12, 47, 3, 0, [12]), (25, 10, 17, 1, 0, []), (28, 2, 0, 0, (-1), []), (29, 14, 0, 0, 0, []), (30, 2, 0, 0, 0, []), (31, 7, 3, 0, 0, []), (32, 2, 0, 0, (-1), []), (33, 7, 4, 0, 0, []), (35, 2, 0, 0, 0, []), (36, 7, 5, 0, 0, []), (38, 0, 5, 0, 0, []), (40, 1, 0, 0, 0, []), (41, 3, 12, 6, 0, []), (44, 4, 62, 3, 0, []), (47, 1, 0, 0, 0, []), (48, 0, 1, 0, 0, []), (49, 1, 0, 0, 0, []), (50, 3, 12, 7, 0, []), (53, 0, 5, 0, 0, []), (55, 5, 0, 0, 0, []), (56, 6, 5, 0, 0, []), (57, 12, 245, 1, 0, [12]), (60, 7, 6, 0, 0, []), (62, 0, 6, 0, 0, []), (64, 0, 2, 0, 0, []), (65, 4, 45, 4, 0, []), (68, 0, 3, 0, 0, []), (69, 2, 0, 0, 1, []), (70, 0, 5, 0, 0, []), (72, 6, 6, 0, 0, []), (73, 6, 4, 0, 0, []), (74, 7, 3, 0, 0, []), (75, 0, 4, 0, 0, []), (77, 2, 0, 0, (-1), []), (78, 4, 58, 0, 0, []), (81, 0, 6, 0, 0, []), (83, 1, 0, 0, 0, []), (84, 0, 1, 0, 0, []), (85, 1, 0, 0, 0, []), (86, 3, 12, 7, 0, []), (89, 0, 4, 0, 0, []), (91, 5, 0, 0, 0, []), (92, 6, 5, 0, 0, []), (93, 12, 245, 1, 0, [12]), (96, 4, 60, 3, 0, []), (99, 0, 5, 0, 0, []), (101, 7, 4, 0, 0, []), (103, 8, 5, 0, 1, []), (106, 9, 23, 0, 0, []), (109, 0, 2, 0, 0, []), (110, 2, 0, 0, (-1), []), (111, 4, 67, 1, 0, []), (114, 0, 4, 0, 0, []), (116, 9, 68, 0, 0, []), (119, 0, 3, 0, 0, []), (120, 14, 0, 0, 0, [])]
def tX12_wish : List PO := [(0, 1, 0, 0, 0, []), (1, 2, 0, 0, 0, []), (2, 19, 12, 0, 0, []), (5, 0, 1, 0, 0, []), (6, 2, 0, 0, (-1), []), (7, 4, 11, 1, 0, []), (10, 1, 0, 0, 0, []), (11, 2, 0, 0, 0, []), (12, 19, 12, 50, 0, []), (15, 2, 0, 0, 0, []), (16, 14, 0, 0, 0, []), (17, 1, 0, 0, 0, []), (18, 0, 1, 0, 0, []), (19, 2, 0, 0, 0, []), (20, 2, 0, 0, 99, []), (22, 12, 47, 3, 0, [12]), (25, 10, 21, 0, 0, []), (28, 1, 0, 0, 0, []), (29, 3, 12, 50, 0, []), (32, 2, 0, 0, 15, []), (34, 4, 23, 1, 0, []), (37, 2, 0, 0, (-1), []), (38, 14, 0, 0, 0, []), (39, 1, 0, 0, 0, []), (40, 3, 12, 51, 0, []), (43, 1, 0, 0, 0, []), (44, 3, 12, 50, 0, []), (47, 0, 1, 0, 0, []), (48, 11, 0, 0, 0, []), (49, 1, 0, 0, 0, []), (50, 1, 0, 0, 0, []), (51, 3, 12, 50, 0, []), (54, 2, 0, 0, 1, []), (55, 6, 0, 0, 0, []), (56, 19, 12, 50, 0, []), (59, 1, 0, 0, 0, []), (60, 3, 12, 50, 0, []), (63, 14, 0, 0, 0, [])]
def tX12_wordAt : List PO := [(0, 2, 0, 0, (-1), []), (1, 7, 3, 0, 0, []), (2, 2, 0, 0, 0, []), (3, 7, 4, 0, 0, []), (5, 0, 4, 0, 0, []), (7, 2, 0, 0, 132, []), (10, 4, 71, 3, 0, []), (13, 2, 0, 0, 0, []), (14, 7, 5, 0, 0, []), (16, 0, 3, 0, 0, []), (17, 2, 0, 0, 1, []), (18, 6, 0, 0, 0, []), (19, 7, 3, 0, 0, []), (20, 0, 1, 0, 0, []), (21, 0, 5, 0, 0, []), (23, 6, 0, 0, 0, []), (24, 0, 2, 0, 0, []), (25, 4, 38, 3, 0, []), (28, 1, 0, 0, 0, []), (29, 3, 12, 17, 0, []), (32, 0, 4, 0, 0, []), (34, 2, 0, 0, 1, []), (35, 6, 0, 0, 0, []), (36, 0, 5, 0, 0, []), (38, 6, 0, 0, 0, []), (39, 5, 0, 0, 0, []), (40, 1, 0, 0, 0, []), (41, 3, 12, 11, 0, []), (44, 0, 1, 0, 0, []), (45, 0, 5, 0, 0, []), (47, 6, 0, 0, 0, []), (48, 5, 0, 0, 0, []), (49, 4, 38, 1, 0, []), (52, 0, 5, 0, 0, []), (54, 2, 0, 0, 1, []), (55, 6, 0, 0, 0, []), (56, 7, 5, 0, 0, []), (58, 9, 13, 0, 0, []), (61, 0, 1, 0, 0, []), (62, 0, 5, 0, 0, []), (64, 6, 0, 0, 0, []), (65, 0, 2, 0, 0, []), (66, 4, 55, 1, 0, []), (69, 1, 0, 0, 0, []), (70, 3, 12, 17, 0, []), (73, 0, 4, 0, 0, []), (75, 2, 0, 0, 1, []), (76, 6, 0, 0, 0, []), (77, 0, 5, 0, 0, []), (79, 6, 0, 0, 0, []), (80, 5, 0, 0, 0, []), (81, 2, 0, 0, 32, []), (83, 4, 55, 1, 0, []), (86, 0, 3, 0, 0, []), (87, 14, 0, 0, 0, []), (88, 0, 4, 0, 0, []), (90, 2, 0, 0, 1, []), (91, 6, 0, 0, 0, []), (92, 7, 4, 0, 0, []), (94, 1, 0, 0, 0, []), (95, 3, 12, 17, 0, []), (98, 0, 4, 0, 0, []), (100, 5, 0, 0, 0, []), (101, 2, 0, 0, 32, []), (103, 4, 70, 0, 0, []), (106, 0, 4, 0, 0, []), (108, 2, 0, 0, 1, []), (109, 6, 0, 0, 0, []), (110, 7, 4, 0, 0, []), (112, 9, 59, 0, 0, []), (115, 9, 4, 0, 0, []), (118, 2, 0, 0, (-1), []), (119, 14, 0, 0, 0, [])]
def mY (k : Nat) : MethodName := match k with
  | 0 => yX11_order
  | 1 => yX4_rowsOfAll
  | 2 => yJ7_fill_53178
  | 3 => yX9_item
  | 4 => yX11_wax
  | 5 => yX1_sum
  | 6 => yX0_marked
  | 7 => yX0_way
  | 8 => yX0_mark
  | 9 => yJ6_compare_7cf53
  | 10 => yX1_weighs
  | 11 => yX0_owner
  | 12 => yX1_layValues
  | 13 => yX0_trait
  | 14 => yX0_has
  | 15 => yX0_depth
  | 16 => yX0_besides
  | 17 => yX8_tells
  | 18 => yX8_number
  | 19 => yX8_run
  | 20 => yX8_part
  | 21 => yX8_join
  | 22 => yX1_held
  | 23 => yX1_turned
  | 24 => yX6_blobs
  | 25 => yX6_pieces
  | 26 => yX6_spread
  | 27 => yX6_reach
  | 28 => yX11_cellAt
  | 29 => yX6_greatestBlob
  | 30 => yX6_holes
  | 31 => yX6_unlike
  | 32 => yX6_bareSquare
  | 33 => yX6_squareBehind
  | 34 => yX11_game
  | 35 => yX2_lay
  | 36 => yX2_hasThree
  | 37 => yX2_valueForNext
  | 38 => yX2_value
  | 39 => yX2_recall
  | 40 => yX2_whoIsNext
  | 41 => yX2_valueOfMove
  | 42 => yX2_keepValue
  | 43 => yX2_firstThatKeeps
  | 44 => yX12_order
  | 45 => yX12_has
  | 46 => yX12_wax
  | 47 => yX12_isIn
  | 48 => yX12_sumOf
  | 49 => yX12_isMarked
  | 50 => yX12_weighsOf
  | 51 => yX12_asksOf
  | 52 => yX12_asks
  | 53 => yX12_besideOf
  | 54 => yX12_lawTells
  | 55 => yX12_lineOf
  | 56 => yX12_runs
  | 57 => yX12_twoOf
  | 58 => yX12_held
  | 59 => yX12_turned
  | 60 => yX12_notFace
  | 61 => yX12_bareSquare
  | 62 => yX12_lesser
  | 63 => yX12_findsParts
  | 64 => yX12_holes
  | 65 => yX12_isAtEdge
  | 66 => yX12_blobs
  | 67 => yX12_partOf
  | 68 => yX12_greater
  | 69 => yX12_game
  | 70 => yX12_isGame
  | 71 => yX12_takesNine
  | 72 => yX12_hasThree
  | 73 => yX12_areThree
  | 74 => yX12_findsWorth
  | 75 => yX12_worthNow
  | 76 => yX12_nextUp
  | 77 => yX12_powerOf
  | 78 => yX12_isOver
  | 79 => yJ6_bitCount_0f7a4
  | 80 => yX0_alike
  | 81 => yX0_cameOfAll
  | 82 => yX0_countMarks
  | 83 => yX0_drawThousand
  | 84 => yX0_mayPress
  | 85 => yX0_nearest
  | 86 => yX0_putMark
  | 87 => yX0_setTrait
  | 88 => yX0_takeAllMarks
  | 89 => yX0_takeMark
  | 90 => yX0_takeOver
  | 91 => yX0_thinMark
  | 92 => yX1_comes
  | 93 => yX1_happens
  | 94 => yX1_leaveThumb
  | 95 => yX1_meltAll
  | 96 => yX1_melts
  | 97 => yX1_note
  | 98 => yX1_oneHour
  | 99 => yX1_readDoor
  | 100 => yX1_skyOfHour
  | 101 => yX1_takeAway
  | 102 => yX1_thumbsOfHour
  | 103 => yX3_number
  | 104 => yX3_takePages
  | 105 => yX3_write
  | 106 => yX4_farFromMiddle
  | 107 => yX4_goTogether
  | 108 => yX4_lastParish
  | 109 => yX4_middleOf
  | 110 => yX4_moreThanHalf
  | 111 => yX4_mostStacked
  | 112 => yX4_mostTold
  | 113 => yX4_parishesFor
  | 114 => yX4_seatsOf
  | 115 => yX4_shown
  | 116 => yX4_sums
  | 117 => yX4_timesTold
  | 118 => yX4_together
  | 119 => yX5_bounded
  | 120 => yX5_digit
  | 121 => yX5_emit
  | 122 => yX5_emitUnit
  | 123 => yX5_lawLine
  | 124 => yX5_letter
  | 125 => yX5_mindWord
  | 126 => yX5_opensLine
  | 127 => yX5_plainLine
  | 128 => yX5_put
  | 129 => yX5_readChoice
  | 130 => yX5_readSum
  | 131 => yX5_readTape
  | 132 => yX5_readTest
  | 133 => yX5_sign
  | 134 => yX5_skyLine
  | 135 => yX5_step
  | 136 => yX5_take
  | 137 => yX5_wordOf
  | 138 => yX5_wrong
  | 139 => yX7_forget
  | 140 => yX7_goBack
  | 141 => yX7_keep
  | 142 => yX9_add
  | 143 => yX9_takeList
  | 144 => yX10_linesOf
  | 145 => yX10_takeAll
  | 146 => yX10_takenFor
  | 147 => yX10_tell
  | 148 => yX10_twinsOf
  | 149 => yX11_before
  | 150 => yX11_bill
  | 151 => yX11_bills
  | 152 => yX11_book
  | 153 => yX11_candle
  | 154 => yX11_candles
  | 155 => yX11_cell
  | 156 => yX11_could
  | 157 => yX11_door
  | 158 => yX11_end
  | 159 => yX11_fault
  | 160 => yX11_feed
  | 161 => yX11_goes
  | 162 => yX11_hand
  | 163 => yX11_hours
  | 164 => yX11_house
  | 165 => yX11_image
  | 166 => yX11_lantern
  | 167 => yX11_lift
  | 168 => yX11_look
  | 169 => yX11_middle
  | 170 => yX11_name
  | 171 => yX11_of
  | 172 => yX11_parishes
  | 173 => yX11_party
  | 174 => yX11_press
  | 175 => yX11_seats
  | 176 => yX11_set
  | 177 => yX11_stack
  | 178 => yX11_stands
  | 179 => yX11_state
  | 180 => yX11_text
  | 181 => yX11_traitCan
  | 182 => yX11_undo
  | 183 => yX11_unlikeBills
  | 184 => yX11_voter
  | 185 => yX11_whose
  | 186 => yX11_wish
  | 187 => yX12_apart
  | 188 => yX12_before
  | 189 => yX12_bill
  | 190 => yX12_bills
  | 191 => yX12_book
  | 192 => yX12_canAsk
  | 193 => yX12_canPress
  | 194 => yX12_canSet
  | 195 => yX12_candle
  | 196 => yX12_candles
  | 197 => yX12_cell
  | 198 => yX12_comesOf
  | 199 => yX12_could
  | 200 => yX12_dearest
  | 201 => yX12_doGoTogether
  | 202 => yX12_does
  | 203 => yX12_door
  | 204 => yX12_draw
  | 205 => yX12_emits
  | 206 => yX12_end
  | 207 => yX12_endsThought
  | 208 => yX12_errs
  | 209 => yX12_evening
  | 210 => yX12_fault
  | 211 => yX12_feed
  | 212 => yX12_findsParishes
  | 213 => yX12_goes
  | 214 => yX12_goesBy
  | 215 => yX12_hand
  | 216 => yX12_happens
  | 217 => yX12_hours
  | 218 => yX12_house
  | 219 => yX12_image
  | 220 => yX12_isBare
  | 221 => yX12_isDigit
  | 222 => yX12_isLetter
  | 223 => yX12_isLifted
  | 224 => yX12_isLineWord
  | 225 => yX12_isMarkSign
  | 226 => yX12_isSign
  | 227 => yX12_isVoter
  | 228 => yX12_isWord
  | 229 => yX12_keeps
  | 230 => yX12_keepsAhead
  | 231 => yX12_keepsLaw
  | 232 => yX12_keepsMany
  | 233 => yX12_keepsTold
  | 234 => yX12_lantern
  | 235 => yX12_lift
  | 236 => yX12_look
  | 237 => yX12_markMany
  | 238 => yX12_meltsOf
  | 239 => yX12_middle
  | 240 => yX12_middleOf
  | 241 => yX12_mightMelt
  | 242 => yX12_name
  | 243 => yX12_notes
  | 244 => yX12_of
  | 245 => yX12_onesOf
  | 246 => yX12_parishes
  | 247 => yX12_party
  | 248 => yX12_press
  | 249 => yX12_presses
  | 250 => yX12_raw
  | 251 => yX12_readAny
  | 252 => yX12_readCompared
  | 253 => yX12_readDeed
  | 254 => yX12_readHeat
  | 255 => yX12_readLaw
  | 256 => yX12_readMark
  | 257 => yX12_readMind
  | 258 => yX12_readNumber
  | 259 => yX12_readProduct
  | 260 => yX12_readPutty
  | 261 => yX12_readSky
  | 262 => yX12_readSum
  | 263 => yX12_readTold
  | 264 => yX12_readTwin
  | 265 => yX12_readTwins
  | 266 => yX12_readUnit
  | 267 => yX12_readWay
  | 268 => yX12_readWays
  | 269 => yX12_reads
  | 270 => yX12_readsText
  | 271 => yX12_seats
  | 272 => yX12_set
  | 273 => yX12_settles
  | 274 => yX12_shareBy
  | 275 => yX12_stack
  | 276 => yX12_stands
  | 277 => yX12_state
  | 278 => yX12_takesLaw
  | 279 => yX12_takesOther
  | 280 => yX12_text
  | 281 => yX12_thinks
  | 282 => yX12_types
  | 283 => yX12_undo
  | 284 => yX12_voter
  | 285 => yX12_waits
  | 286 => yX12_whose
  | 287 => yX12_wish
  | 288 => yX12_wordAt
  | _ => yX11_order

def mC (k : Nat) : ByteArray := match k with
  | 0 => cX11_order
  | 1 => cX4_rowsOfAll
  | 2 => cJ7_fill_53178
  | 3 => cX9_item
  | 4 => cX11_wax
  | 5 => cX1_sum
  | 6 => cX0_marked
  | 7 => cX0_way
  | 8 => cX0_mark
  | 9 => cJ6_compare_7cf53
  | 10 => cX1_weighs
  | 11 => cX0_owner
  | 12 => cX1_layValues
  | 13 => cX0_trait
  | 14 => cX0_has
  | 15 => cX0_depth
  | 16 => cX0_besides
  | 17 => cX8_tells
  | 18 => cX8_number
  | 19 => cX8_run
  | 20 => cX8_part
  | 21 => cX8_join
  | 22 => cX1_held
  | 23 => cX1_turned
  | 24 => cX6_blobs
  | 25 => cX6_pieces
  | 26 => cX6_spread
  | 27 => cX6_reach
  | 28 => cX11_cellAt
  | 29 => cX6_greatestBlob
  | 30 => cX6_holes
  | 31 => cX6_unlike
  | 32 => cX6_bareSquare
  | 33 => cX6_squareBehind
  | 34 => cX11_game
  | 35 => cX2_lay
  | 36 => cX2_hasThree
  | 37 => cX2_valueForNext
  | 38 => cX2_value
  | 39 => cX2_recall
  | 40 => cX2_whoIsNext
  | 41 => cX2_valueOfMove
  | 42 => cX2_keepValue
  | 43 => cX2_firstThatKeeps
  | 44 => cX12_order
  | 45 => cX12_has
  | 46 => cX12_wax
  | 47 => cX12_isIn
  | 48 => cX12_sumOf
  | 49 => cX12_isMarked
  | 50 => cX12_weighsOf
  | 51 => cX12_asksOf
  | 52 => cX12_asks
  | 53 => cX12_besideOf
  | 54 => cX12_lawTells
  | 55 => cX12_lineOf
  | 56 => cX12_runs
  | 57 => cX12_twoOf
  | 58 => cX12_held
  | 59 => cX12_turned
  | 60 => cX12_notFace
  | 61 => cX12_bareSquare
  | 62 => cX12_lesser
  | 63 => cX12_findsParts
  | 64 => cX12_holes
  | 65 => cX12_isAtEdge
  | 66 => cX12_blobs
  | 67 => cX12_partOf
  | 68 => cX12_greater
  | 69 => cX12_game
  | 70 => cX12_isGame
  | 71 => cX12_takesNine
  | 72 => cX12_hasThree
  | 73 => cX12_areThree
  | 74 => cX12_findsWorth
  | 75 => cX12_worthNow
  | 76 => cX12_nextUp
  | 77 => cX12_powerOf
  | 78 => cX12_isOver
  | 79 => cJ6_bitCount_0f7a4
  | 80 => cX0_alike
  | 81 => cX0_cameOfAll
  | 82 => cX0_countMarks
  | 83 => cX0_drawThousand
  | 84 => cX0_mayPress
  | 85 => cX0_nearest
  | 86 => cX0_putMark
  | 87 => cX0_setTrait
  | 88 => cX0_takeAllMarks
  | 89 => cX0_takeMark
  | 90 => cX0_takeOver
  | 91 => cX0_thinMark
  | 92 => cX1_comes
  | 93 => cX1_happens
  | 94 => cX1_leaveThumb
  | 95 => cX1_meltAll
  | 96 => cX1_melts
  | 97 => cX1_note
  | 98 => cX1_oneHour
  | 99 => cX1_readDoor
  | 100 => cX1_skyOfHour
  | 101 => cX1_takeAway
  | 102 => cX1_thumbsOfHour
  | 103 => cX3_number
  | 104 => cX3_takePages
  | 105 => cX3_write
  | 106 => cX4_farFromMiddle
  | 107 => cX4_goTogether
  | 108 => cX4_lastParish
  | 109 => cX4_middleOf
  | 110 => cX4_moreThanHalf
  | 111 => cX4_mostStacked
  | 112 => cX4_mostTold
  | 113 => cX4_parishesFor
  | 114 => cX4_seatsOf
  | 115 => cX4_shown
  | 116 => cX4_sums
  | 117 => cX4_timesTold
  | 118 => cX4_together
  | 119 => cX5_bounded
  | 120 => cX5_digit
  | 121 => cX5_emit
  | 122 => cX5_emitUnit
  | 123 => cX5_lawLine
  | 124 => cX5_letter
  | 125 => cX5_mindWord
  | 126 => cX5_opensLine
  | 127 => cX5_plainLine
  | 128 => cX5_put
  | 129 => cX5_readChoice
  | 130 => cX5_readSum
  | 131 => cX5_readTape
  | 132 => cX5_readTest
  | 133 => cX5_sign
  | 134 => cX5_skyLine
  | 135 => cX5_step
  | 136 => cX5_take
  | 137 => cX5_wordOf
  | 138 => cX5_wrong
  | 139 => cX7_forget
  | 140 => cX7_goBack
  | 141 => cX7_keep
  | 142 => cX9_add
  | 143 => cX9_takeList
  | 144 => cX10_linesOf
  | 145 => cX10_takeAll
  | 146 => cX10_takenFor
  | 147 => cX10_tell
  | 148 => cX10_twinsOf
  | 149 => cX11_before
  | 150 => cX11_bill
  | 151 => cX11_bills
  | 152 => cX11_book
  | 153 => cX11_candle
  | 154 => cX11_candles
  | 155 => cX11_cell
  | 156 => cX11_could
  | 157 => cX11_door
  | 158 => cX11_end
  | 159 => cX11_fault
  | 160 => cX11_feed
  | 161 => cX11_goes
  | 162 => cX11_hand
  | 163 => cX11_hours
  | 164 => cX11_house
  | 165 => cX11_image
  | 166 => cX11_lantern
  | 167 => cX11_lift
  | 168 => cX11_look
  | 169 => cX11_middle
  | 170 => cX11_name
  | 171 => cX11_of
  | 172 => cX11_parishes
  | 173 => cX11_party
  | 174 => cX11_press
  | 175 => cX11_seats
  | 176 => cX11_set
  | 177 => cX11_stack
  | 178 => cX11_stands
  | 179 => cX11_state
  | 180 => cX11_text
  | 181 => cX11_traitCan
  | 182 => cX11_undo
  | 183 => cX11_unlikeBills
  | 184 => cX11_voter
  | 185 => cX11_whose
  | 186 => cX11_wish
  | 187 => cX12_apart
  | 188 => cX12_before
  | 189 => cX12_bill
  | 190 => cX12_bills
  | 191 => cX12_book
  | 192 => cX12_canAsk
  | 193 => cX12_canPress
  | 194 => cX12_canSet
  | 195 => cX12_candle
  | 196 => cX12_candles
  | 197 => cX12_cell
  | 198 => cX12_comesOf
  | 199 => cX12_could
  | 200 => cX12_dearest
  | 201 => cX12_doGoTogether
  | 202 => cX12_does
  | 203 => cX12_door
  | 204 => cX12_draw
  | 205 => cX12_emits
  | 206 => cX12_end
  | 207 => cX12_endsThought
  | 208 => cX12_errs
  | 209 => cX12_evening
  | 210 => cX12_fault
  | 211 => cX12_feed
  | 212 => cX12_findsParishes
  | 213 => cX12_goes
  | 214 => cX12_goesBy
  | 215 => cX12_hand
  | 216 => cX12_happens
  | 217 => cX12_hours
  | 218 => cX12_house
  | 219 => cX12_image
  | 220 => cX12_isBare
  | 221 => cX12_isDigit
  | 222 => cX12_isLetter
  | 223 => cX12_isLifted
  | 224 => cX12_isLineWord
  | 225 => cX12_isMarkSign
  | 226 => cX12_isSign
  | 227 => cX12_isVoter
  | 228 => cX12_isWord
  | 229 => cX12_keeps
  | 230 => cX12_keepsAhead
  | 231 => cX12_keepsLaw
  | 232 => cX12_keepsMany
  | 233 => cX12_keepsTold
  | 234 => cX12_lantern
  | 235 => cX12_lift
  | 236 => cX12_look
  | 237 => cX12_markMany
  | 238 => cX12_meltsOf
  | 239 => cX12_middle
  | 240 => cX12_middleOf
  | 241 => cX12_mightMelt
  | 242 => cX12_name
  | 243 => cX12_notes
  | 244 => cX12_of
  | 245 => cX12_onesOf
  | 246 => cX12_parishes
  | 247 => cX12_party
  | 248 => cX12_press
  | 249 => cX12_presses
  | 250 => cX12_raw
  | 251 => cX12_readAny
  | 252 => cX12_readCompared
  | 253 => cX12_readDeed
  | 254 => cX12_readHeat
  | 255 => cX12_readLaw
  | 256 => cX12_readMark
  | 257 => cX12_readMind
  | 258 => cX12_readNumber
  | 259 => cX12_readProduct
  | 260 => cX12_readPutty
  | 261 => cX12_readSky
  | 262 => cX12_readSum
  | 263 => cX12_readTold
  | 264 => cX12_readTwin
  | 265 => cX12_readTwins
  | 266 => cX12_readUnit
  | 267 => cX12_readWay
  | 268 => cX12_readWays
  | 269 => cX12_reads
  | 270 => cX12_readsText
  | 271 => cX12_seats
  | 272 => cX12_set
  | 273 => cX12_settles
  | 274 => cX12_shareBy
  | 275 => cX12_stack
  | 276 => cX12_stands
  | 277 => cX12_state
  | 278 => cX12_takesLaw
  | 279 => cX12_takesOther
  | 280 => cX12_text
  | 281 => cX12_thinks
  | 282 => cX12_types
  | 283 => cX12_undo
  | 284 => cX12_voter
  | 285 => cX12_waits
  | 286 => cX12_whose
  | 287 => cX12_wish
  | 288 => cX12_wordAt
  | _ => cX11_order

def mN (k : Nat) : Nat := match k with
  | 0 => 1
  | 1 => 5
  | 2 => 4
  | 3 => 2
  | 4 => 2
  | 5 => 3
  | 6 => 2
  | 7 => 2
  | 8 => 2
  | 9 => 2
  | 10 => 2
  | 11 => 3
  | 12 => 4
  | 13 => 4
  | 14 => 2
  | 15 => 2
  | 16 => 4
  | 17 => 9
  | 18 => 4
  | 19 => 9
  | 20 => 2
  | 21 => 3
  | 22 => 2
  | 23 => 5
  | 24 => 2
  | 25 => 8
  | 26 => 5
  | 27 => 4
  | 28 => 3
  | 29 => 2
  | 30 => 2
  | 31 => 7
  | 32 => 6
  | 33 => 2
  | 34 => 3
  | 35 => 7
  | 36 => 3
  | 37 => 1
  | 38 => 6
  | 39 => 3
  | 40 => 1
  | 41 => 6
  | 42 => 4
  | 43 => 3
  | 44 => 4
  | 45 => 3
  | 46 => 2
  | 47 => 4
  | 48 => 3
  | 49 => 2
  | 50 => 2
  | 51 => 2
  | 52 => 3
  | 53 => 3
  | 54 => 5
  | 55 => 3
  | 56 => 6
  | 57 => 4
  | 58 => 4
  | 59 => 5
  | 60 => 4
  | 61 => 4
  | 62 => 3
  | 63 => 4
  | 64 => 5
  | 65 => 2
  | 66 => 5
  | 67 => 4
  | 68 => 3
  | 69 => 5
  | 70 => 3
  | 71 => 5
  | 72 => 3
  | 73 => 5
  | 74 => 3
  | 75 => 5
  | 76 => 1
  | 77 => 4
  | 78 => 1
  | 79 => 1
  | 80 => 5
  | 81 => 3
  | 82 => 3
  | 83 => 1
  | 84 => 2
  | 85 => 6
  | 86 => 5
  | 87 => 4
  | 88 => 1
  | 89 => 2
  | 90 => 2
  | 91 => 2
  | 92 => 3
  | 93 => 2
  | 94 => 8
  | 95 => 2
  | 96 => 3
  | 97 => 4
  | 98 => 2
  | 99 => 2
  | 100 => 4
  | 101 => 4
  | 102 => 5
  | 103 => 4
  | 104 => 2
  | 105 => 7
  | 106 => 5
  | 107 => 4
  | 108 => 7
  | 109 => 6
  | 110 => 3
  | 111 => 9
  | 112 => 4
  | 113 => 7
  | 114 => 11
  | 115 => 9
  | 116 => 7
  | 117 => 4
  | 118 => 7
  | 119 => 3
  | 120 => 1
  | 121 => 3
  | 122 => 3
  | 123 => 1
  | 124 => 1
  | 125 => 2
  | 126 => 3
  | 127 => 3
  | 128 => 3
  | 129 => 5
  | 130 => 4
  | 131 => 5
  | 132 => 4
  | 133 => 2
  | 134 => 1
  | 135 => 1
  | 136 => 3
  | 137 => 8
  | 138 => 2
  | 139 => 1
  | 140 => 2
  | 141 => 2
  | 142 => 2
  | 143 => 3
  | 144 => 2
  | 145 => 3
  | 146 => 6
  | 147 => 5
  | 148 => 7
  | 149 => 3
  | 150 => 3
  | 151 => 2
  | 152 => 3
  | 153 => 2
  | 154 => 3
  | 155 => 6
  | 156 => 2
  | 157 => 4
  | 158 => 2
  | 159 => 2
  | 160 => 6
  | 161 => 4
  | 162 => 3
  | 163 => 4
  | 164 => 2
  | 165 => 2
  | 166 => 3
  | 167 => 4
  | 168 => 2
  | 169 => 2
  | 170 => 2
  | 171 => 3
  | 172 => 4
  | 173 => 2
  | 174 => 3
  | 175 => 5
  | 176 => 4
  | 177 => 1
  | 178 => 2
  | 179 => 3
  | 180 => 3
  | 181 => 2
  | 182 => 1
  | 183 => 2
  | 184 => 7
  | 185 => 3
  | 186 => 2
  | 187 => 3
  | 188 => 4
  | 189 => 4
  | 190 => 5
  | 191 => 3
  | 192 => 2
  | 193 => 2
  | 194 => 4
  | 195 => 2
  | 196 => 6
  | 197 => 5
  | 198 => 2
  | 199 => 5
  | 200 => 7
  | 201 => 3
  | 202 => 2
  | 203 => 3
  | 204 => 2
  | 205 => 3
  | 206 => 2
  | 207 => 2
  | 208 => 2
  | 209 => 3
  | 210 => 2
  | 211 => 6
  | 212 => 8
  | 213 => 5
  | 214 => 3
  | 215 => 3
  | 216 => 2
  | 217 => 4
  | 218 => 2
  | 219 => 3
  | 220 => 2
  | 221 => 2
  | 222 => 2
  | 223 => 2
  | 224 => 1
  | 225 => 2
  | 226 => 2
  | 227 => 2
  | 228 => 2
  | 229 => 2
  | 230 => 2
  | 231 => 2
  | 232 => 1
  | 233 => 2
  | 234 => 7
  | 235 => 3
  | 236 => 2
  | 237 => 3
  | 238 => 2
  | 239 => 5
  | 240 => 4
  | 241 => 2
  | 242 => 2
  | 243 => 5
  | 244 => 3
  | 245 => 4
  | 246 => 5
  | 247 => 2
  | 248 => 3
  | 249 => 5
  | 250 => 2
  | 251 => 4
  | 252 => 2
  | 253 => 4
  | 254 => 2
  | 255 => 3
  | 256 => 2
  | 257 => 2
  | 258 => 4
  | 259 => 2
  | 260 => 2
  | 261 => 2
  | 262 => 2
  | 263 => 4
  | 264 => 3
  | 265 => 2
  | 266 => 2
  | 267 => 2
  | 268 => 2
  | 269 => 2
  | 270 => 2
  | 271 => 7
  | 272 => 4
  | 273 => 2
  | 274 => 3
  | 275 => 5
  | 276 => 2
  | 277 => 3
  | 278 => 3
  | 279 => 4
  | 280 => 3
  | 281 => 2
  | 282 => 3
  | 283 => 2
  | 284 => 5
  | 285 => 2
  | 286 => 7
  | 287 => 2
  | 288 => 6
  | _ => 0

def mR (k : Nat) : Option FieldType := match k with
  | 0 => (some .int)
  | 1 => (some .int)
  | 2 => none
  | 3 => (some .int)
  | 4 => (some .int)
  | 5 => (some .int)
  | 6 => (some .boolean)
  | 7 => (some .int)
  | 8 => (some .int)
  | 9 => (some .int)
  | 10 => (some .int)
  | 11 => (some .int)
  | 12 => none
  | 13 => (some .int)
  | 14 => (some .boolean)
  | 15 => (some .int)
  | 16 => (some .int)
  | 17 => (some .int)
  | 18 => (some .int)
  | 19 => (some .int)
  | 20 => (some .int)
  | 21 => (some .int)
  | 22 => (some .int)
  | 23 => (some .int)
  | 24 => (some .int)
  | 25 => (some .int)
  | 26 => none
  | 27 => none
  | 28 => (some .int)
  | 29 => (some .int)
  | 30 => (some .int)
  | 31 => (some .int)
  | 32 => (some .int)
  | 33 => (some .int)
  | 34 => (some .int)
  | 35 => (some .boolean)
  | 36 => (some .boolean)
  | 37 => (some .int)
  | 38 => (some .int)
  | 39 => (some .int)
  | 40 => (some .int)
  | 41 => (some .int)
  | 42 => none
  | 43 => (some .int)
  | 44 => (some .int)
  | 45 => (some .boolean)
  | 46 => (some .int)
  | 47 => (some .boolean)
  | 48 => (some .int)
  | 49 => (some .boolean)
  | 50 => (some .int)
  | 51 => none
  | 52 => none
  | 53 => (some .int)
  | 54 => (some .int)
  | 55 => (some .int)
  | 56 => (some .int)
  | 57 => (some .int)
  | 58 => (some .int)
  | 59 => (some .int)
  | 60 => (some .int)
  | 61 => (some .int)
  | 62 => (some .int)
  | 63 => none
  | 64 => (some .int)
  | 65 => (some .boolean)
  | 66 => (some .int)
  | 67 => (some .int)
  | 68 => (some .int)
  | 69 => (some .int)
  | 70 => (some .boolean)
  | 71 => none
  | 72 => (some .boolean)
  | 73 => (some .boolean)
  | 74 => none
  | 75 => (some .int)
  | 76 => (some .int)
  | 77 => (some .int)
  | 78 => (some .boolean)
  | 79 => (some .int)
  | 80 => (some .int)
  | 81 => (some .int)
  | 82 => (some .int)
  | 83 => (some .int)
  | 84 => (some .boolean)
  | 85 => (some .int)
  | 86 => none
  | 87 => none
  | 88 => none
  | 89 => none
  | 90 => none
  | 91 => none
  | 92 => (some .int)
  | 93 => (some .boolean)
  | 94 => (some .int)
  | 95 => none
  | 96 => (some .int)
  | 97 => none
  | 98 => (some .int)
  | 99 => none
  | 100 => none
  | 101 => none
  | 102 => (some .int)
  | 103 => (some .int)
  | 104 => none
  | 105 => (some .int)
  | 106 => (some .int)
  | 107 => (some .boolean)
  | 108 => (some .int)
  | 109 => (some .int)
  | 110 => (some .int)
  | 111 => (some .int)
  | 112 => (some .int)
  | 113 => (some .int)
  | 114 => (some .int)
  | 115 => (some .int)
  | 116 => (some .int)
  | 117 => (some .int)
  | 118 => (some .int)
  | 119 => (some .boolean)
  | 120 => (some .boolean)
  | 121 => none
  | 122 => (some .boolean)
  | 123 => (some .boolean)
  | 124 => (some .boolean)
  | 125 => (some .boolean)
  | 126 => (some .boolean)
  | 127 => (some .boolean)
  | 128 => none
  | 129 => (some .boolean)
  | 130 => (some .boolean)
  | 131 => (some (.object "ThumbBallot$Text"))
  | 132 => (some .boolean)
  | 133 => (some .boolean)
  | 134 => (some .boolean)
  | 135 => none
  | 136 => none
  | 137 => (some .int)
  | 138 => (some .boolean)
  | 139 => none
  | 140 => (some .boolean)
  | 141 => none
  | 142 => (some .int)
  | 143 => none
  | 144 => (some .int)
  | 145 => none
  | 146 => (some .int)
  | 147 => (some .int)
  | 148 => (some .int)
  | 149 => (some .int)
  | 150 => (some .int)
  | 151 => (some .int)
  | 152 => (some .int)
  | 153 => (some .int)
  | 154 => (some .int)
  | 155 => (some .int)
  | 156 => (some .int)
  | 157 => (some .int)
  | 158 => (some .boolean)
  | 159 => (some .int)
  | 160 => (some .int)
  | 161 => (some .int)
  | 162 => (some .boolean)
  | 163 => (some .int)
  | 164 => (some .int)
  | 165 => (some .boolean)
  | 166 => (some .int)
  | 167 => (some .boolean)
  | 168 => (some .int)
  | 169 => (some .int)
  | 170 => (some .int)
  | 171 => (some .int)
  | 172 => (some .int)
  | 173 => (some .int)
  | 174 => (some .int)
  | 175 => (some .int)
  | 176 => (some .boolean)
  | 177 => (some .int)
  | 178 => (some .int)
  | 179 => (some .int)
  | 180 => (some .int)
  | 181 => (some .boolean)
  | 182 => (some .boolean)
  | 183 => (some .boolean)
  | 184 => (some .int)
  | 185 => (some .int)
  | 186 => (some .int)
  | 187 => (some .int)
  | 188 => (some .int)
  | 189 => (some .int)
  | 190 => (some .int)
  | 191 => (some .int)
  | 192 => (some .boolean)
  | 193 => (some .boolean)
  | 194 => (some .boolean)
  | 195 => (some .int)
  | 196 => (some .int)
  | 197 => (some .int)
  | 198 => (some .int)
  | 199 => (some .int)
  | 200 => (some .int)
  | 201 => (some .boolean)
  | 202 => none
  | 203 => (some .int)
  | 204 => (some .int)
  | 205 => none
  | 206 => (some .boolean)
  | 207 => none
  | 208 => (some .int)
  | 209 => none
  | 210 => (some .int)
  | 211 => (some .int)
  | 212 => none
  | 213 => (some .int)
  | 214 => (some .int)
  | 215 => (some .boolean)
  | 216 => (some .boolean)
  | 217 => (some .int)
  | 218 => (some .int)
  | 219 => (some .boolean)
  | 220 => none
  | 221 => (some .boolean)
  | 222 => (some .boolean)
  | 223 => none
  | 224 => (some .boolean)
  | 225 => (some .boolean)
  | 226 => (some .boolean)
  | 227 => (some .boolean)
  | 228 => (some .boolean)
  | 229 => (some .int)
  | 230 => none
  | 231 => none
  | 232 => none
  | 233 => none
  | 234 => (some .int)
  | 235 => (some .boolean)
  | 236 => (some .int)
  | 237 => (some .int)
  | 238 => (some .int)
  | 239 => (some .int)
  | 240 => (some .int)
  | 241 => none
  | 242 => (some .int)
  | 243 => none
  | 244 => (some .int)
  | 245 => (some .int)
  | 246 => (some .int)
  | 247 => (some .int)
  | 248 => (some .int)
  | 249 => (some .int)
  | 250 => (some .int)
  | 251 => (some .int)
  | 252 => (some .int)
  | 253 => (some .int)
  | 254 => (some .int)
  | 255 => (some .int)
  | 256 => (some .int)
  | 257 => (some .int)
  | 258 => (some .int)
  | 259 => (some .int)
  | 260 => (some .int)
  | 261 => (some .int)
  | 262 => (some .int)
  | 263 => (some .int)
  | 264 => (some .int)
  | 265 => (some .int)
  | 266 => (some .int)
  | 267 => (some .int)
  | 268 => (some .int)
  | 269 => none
  | 270 => (some .int)
  | 271 => (some .int)
  | 272 => (some .boolean)
  | 273 => none
  | 274 => (some .int)
  | 275 => (some .int)
  | 276 => (some .int)
  | 277 => (some .int)
  | 278 => none
  | 279 => none
  | 280 => (some .int)
  | 281 => none
  | 282 => none
  | 283 => (some .boolean)
  | 284 => (some .int)
  | 285 => none
  | 286 => (some .int)
  | 287 => (some .int)
  | 288 => (some .int)
  | _ => none

def mP (k : Nat) : List PO := match k with
  | 0 => tX11_order
  | 1 => tX4_rowsOfAll
  | 2 => tJ7_fill_53178
  | 3 => tX9_item
  | 4 => tX11_wax
  | 5 => tX1_sum
  | 6 => tX0_marked
  | 7 => tX0_way
  | 8 => tX0_mark
  | 9 => tJ6_compare_7cf53
  | 10 => tX1_weighs
  | 11 => tX0_owner
  | 12 => tX1_layValues
  | 13 => tX0_trait
  | 14 => tX0_has
  | 15 => tX0_depth
  | 16 => tX0_besides
  | 17 => tX8_tells
  | 18 => tX8_number
  | 19 => tX8_run
  | 20 => tX8_part
  | 21 => tX8_join
  | 22 => tX1_held
  | 23 => tX1_turned
  | 24 => tX6_blobs
  | 25 => tX6_pieces
  | 26 => tX6_spread
  | 27 => tX6_reach
  | 28 => tX11_cellAt
  | 29 => tX6_greatestBlob
  | 30 => tX6_holes
  | 31 => tX6_unlike
  | 32 => tX6_bareSquare
  | 33 => tX6_squareBehind
  | 34 => tX11_game
  | 35 => tX2_lay
  | 36 => tX2_hasThree
  | 37 => tX2_valueForNext
  | 38 => tX2_value
  | 39 => tX2_recall
  | 40 => tX2_whoIsNext
  | 41 => tX2_valueOfMove
  | 42 => tX2_keepValue
  | 43 => tX2_firstThatKeeps
  | 44 => tX12_order
  | 45 => tX12_has
  | 46 => tX12_wax
  | 47 => tX12_isIn
  | 48 => tX12_sumOf
  | 49 => tX12_isMarked
  | 50 => tX12_weighsOf
  | 51 => tX12_asksOf
  | 52 => tX12_asks
  | 53 => tX12_besideOf
  | 54 => tX12_lawTells
  | 55 => tX12_lineOf
  | 56 => tX12_runs
  | 57 => tX12_twoOf
  | 58 => tX12_held
  | 59 => tX12_turned
  | 60 => tX12_notFace
  | 61 => tX12_bareSquare
  | 62 => tX12_lesser
  | 63 => tX12_findsParts
  | 64 => tX12_holes
  | 65 => tX12_isAtEdge
  | 66 => tX12_blobs
  | 67 => tX12_partOf
  | 68 => tX12_greater
  | 69 => tX12_game
  | 70 => tX12_isGame
  | 71 => tX12_takesNine
  | 72 => tX12_hasThree
  | 73 => tX12_areThree
  | 74 => tX12_findsWorth
  | 75 => tX12_worthNow
  | 76 => tX12_nextUp
  | 77 => tX12_powerOf
  | 78 => tX12_isOver
  | 79 => tJ6_bitCount_0f7a4
  | 80 => tX0_alike
  | 81 => tX0_cameOfAll
  | 82 => tX0_countMarks
  | 83 => tX0_drawThousand
  | 84 => tX0_mayPress
  | 85 => tX0_nearest
  | 86 => tX0_putMark
  | 87 => tX0_setTrait
  | 88 => tX0_takeAllMarks
  | 89 => tX0_takeMark
  | 90 => tX0_takeOver
  | 91 => tX0_thinMark
  | 92 => tX1_comes
  | 93 => tX1_happens
  | 94 => tX1_leaveThumb
  | 95 => tX1_meltAll
  | 96 => tX1_melts
  | 97 => tX1_note
  | 98 => tX1_oneHour
  | 99 => tX1_readDoor
  | 100 => tX1_skyOfHour
  | 101 => tX1_takeAway
  | 102 => tX1_thumbsOfHour
  | 103 => tX3_number
  | 104 => tX3_takePages
  | 105 => tX3_write
  | 106 => tX4_farFromMiddle
  | 107 => tX4_goTogether
  | 108 => tX4_lastParish
  | 109 => tX4_middleOf
  | 110 => tX4_moreThanHalf
  | 111 => tX4_mostStacked
  | 112 => tX4_mostTold
  | 113 => tX4_parishesFor
  | 114 => tX4_seatsOf
  | 115 => tX4_shown
  | 116 => tX4_sums
  | 117 => tX4_timesTold
  | 118 => tX4_together
  | 119 => tX5_bounded
  | 120 => tX5_digit
  | 121 => tX5_emit
  | 122 => tX5_emitUnit
  | 123 => tX5_lawLine
  | 124 => tX5_letter
  | 125 => tX5_mindWord
  | 126 => tX5_opensLine
  | 127 => tX5_plainLine
  | 128 => tX5_put
  | 129 => tX5_readChoice
  | 130 => tX5_readSum
  | 131 => tX5_readTape
  | 132 => tX5_readTest
  | 133 => tX5_sign
  | 134 => tX5_skyLine
  | 135 => tX5_step
  | 136 => tX5_take
  | 137 => tX5_wordOf
  | 138 => tX5_wrong
  | 139 => tX7_forget
  | 140 => tX7_goBack
  | 141 => tX7_keep
  | 142 => tX9_add
  | 143 => tX9_takeList
  | 144 => tX10_linesOf
  | 145 => tX10_takeAll
  | 146 => tX10_takenFor
  | 147 => tX10_tell
  | 148 => tX10_twinsOf
  | 149 => tX11_before
  | 150 => tX11_bill
  | 151 => tX11_bills
  | 152 => tX11_book
  | 153 => tX11_candle
  | 154 => tX11_candles
  | 155 => tX11_cell
  | 156 => tX11_could
  | 157 => tX11_door
  | 158 => tX11_end
  | 159 => tX11_fault
  | 160 => tX11_feed
  | 161 => tX11_goes
  | 162 => tX11_hand
  | 163 => tX11_hours
  | 164 => tX11_house
  | 165 => tX11_image
  | 166 => tX11_lantern
  | 167 => tX11_lift
  | 168 => tX11_look
  | 169 => tX11_middle
  | 170 => tX11_name
  | 171 => tX11_of
  | 172 => tX11_parishes
  | 173 => tX11_party
  | 174 => tX11_press
  | 175 => tX11_seats
  | 176 => tX11_set
  | 177 => tX11_stack
  | 178 => tX11_stands
  | 179 => tX11_state
  | 180 => tX11_text
  | 181 => tX11_traitCan
  | 182 => tX11_undo
  | 183 => tX11_unlikeBills
  | 184 => tX11_voter
  | 185 => tX11_whose
  | 186 => tX11_wish
  | 187 => tX12_apart
  | 188 => tX12_before
  | 189 => tX12_bill
  | 190 => tX12_bills
  | 191 => tX12_book
  | 192 => tX12_canAsk
  | 193 => tX12_canPress
  | 194 => tX12_canSet
  | 195 => tX12_candle
  | 196 => tX12_candles
  | 197 => tX12_cell
  | 198 => tX12_comesOf
  | 199 => tX12_could
  | 200 => tX12_dearest
  | 201 => tX12_doGoTogether
  | 202 => tX12_does
  | 203 => tX12_door
  | 204 => tX12_draw
  | 205 => tX12_emits
  | 206 => tX12_end
  | 207 => tX12_endsThought
  | 208 => tX12_errs
  | 209 => tX12_evening
  | 210 => tX12_fault
  | 211 => tX12_feed
  | 212 => tX12_findsParishes
  | 213 => tX12_goes
  | 214 => tX12_goesBy
  | 215 => tX12_hand
  | 216 => tX12_happens
  | 217 => tX12_hours
  | 218 => tX12_house
  | 219 => tX12_image
  | 220 => tX12_isBare
  | 221 => tX12_isDigit
  | 222 => tX12_isLetter
  | 223 => tX12_isLifted
  | 224 => tX12_isLineWord
  | 225 => tX12_isMarkSign
  | 226 => tX12_isSign
  | 227 => tX12_isVoter
  | 228 => tX12_isWord
  | 229 => tX12_keeps
  | 230 => tX12_keepsAhead
  | 231 => tX12_keepsLaw
  | 232 => tX12_keepsMany
  | 233 => tX12_keepsTold
  | 234 => tX12_lantern
  | 235 => tX12_lift
  | 236 => tX12_look
  | 237 => tX12_markMany
  | 238 => tX12_meltsOf
  | 239 => tX12_middle
  | 240 => tX12_middleOf
  | 241 => tX12_mightMelt
  | 242 => tX12_name
  | 243 => tX12_notes
  | 244 => tX12_of
  | 245 => tX12_onesOf
  | 246 => tX12_parishes
  | 247 => tX12_party
  | 248 => tX12_press
  | 249 => tX12_presses
  | 250 => tX12_raw
  | 251 => tX12_readAny
  | 252 => tX12_readCompared
  | 253 => tX12_readDeed
  | 254 => tX12_readHeat
  | 255 => tX12_readLaw
  | 256 => tX12_readMark
  | 257 => tX12_readMind
  | 258 => tX12_readNumber
  | 259 => tX12_readProduct
  | 260 => tX12_readPutty
  | 261 => tX12_readSky
  | 262 => tX12_readSum
  | 263 => tX12_readTold
  | 264 => tX12_readTwin
  | 265 => tX12_readTwins
  | 266 => tX12_readUnit
  | 267 => tX12_readWay
  | 268 => tX12_readWays
  | 269 => tX12_reads
  | 270 => tX12_readsText
  | 271 => tX12_seats
  | 272 => tX12_set
  | 273 => tX12_settles
  | 274 => tX12_shareBy
  | 275 => tX12_stack
  | 276 => tX12_stands
  | 277 => tX12_state
  | 278 => tX12_takesLaw
  | 279 => tX12_takesOther
  | 280 => tX12_text
  | 281 => tX12_thinks
  | 282 => tX12_types
  | 283 => tX12_undo
  | 284 => tX12_voter
  | 285 => tX12_waits
  | 286 => tX12_whose
  | 287 => tX12_wish
  | 288 => tX12_wordAt
  | _ => []

def hpc (s : List PO) : Nat := match s with
  | [] => 0
  | e :: _ => e.1
theorem hpc_drp {c : List PO} {k : Nat} {e : PO} (h : nth c k = some e) : hpc (drp k c) = e.1 := by
  induction k generalizing c with
  | zero =>
    cases c with
    | nil => cases h
    | cons x t => cases h; rfl
  | succ k ih =>
    cases c with
    | nil => cases h
    | cons x t => exact ih h
def OKs (E : PO → Nat → Prop) (s : List PO) : Prop := match s with
  | [] => True
  | e :: t => E e (hpc t) ∧ OKs E t
theorem okn {E : PO → Nat → Prop} : OKs E [] := trivial
theorem okc {E : PO → Nat → Prop} {e : PO} {np : Nat} {t : List PO} (h1 : E e np) (h2 : OKs E t) (hp : hpc t = np) : OKs E (e :: t) := ⟨by rw [hp]; exact h1, h2⟩
theorem OKs_nth {E : PO → Nat → Prop} : ∀ (k : Nat) (c : List PO) (e : PO), OKs E c → nth c k = some e → E e (hpc (drp (k + 1) c)) := by
  intro k
  induction k with
  | zero =>
    intro c e h hk
    cases c with
    | nil => cases hk
    | cons x t => cases hk; exact h.1
  | succ k ih =>
    intro c e h hk
    cases c with
    | nil => cases hk
    | cons x t => exact ih t e h.2 hk
def Tr (l : Launch) (G : PG) (d : Nat) (own : String) (cc : ByteArray) (nL pc np : Nat) (h h' : PH) (ls ls' : List (Option PV)) (st st' : List PV) : Prop :=
  ∀ (p : Program) (e : Env) (s : State) (m : MethodId) (args : Array Value) (below : List Frame) (meth : Method) (c : Code) (Q : State → Prop), pX p s m args c G nL cc own → PW p l e (rmD (d + 1) 0 0) s m args below meth c G nL Q 0 0 h' np ls' st' → PW p l e (rmD (d + 1) 0 0) s m args below meth c G nL Q 0 0 h pc ls st
def TC (l : Launch) (G : PG) (d : Nat) (own : String) (cc : ByteArray) (nL pc np : Nat) (h : PH) (ls : List (Option PV)) (st st' : List PV) (Φ : Option PV → PH → Prop) : Prop :=
  ∀ (p : Program) (e : Env) (s : State) (m : MethodId) (args : Array Value) (below : List Frame) (meth : Method) (c : Code) (Q : State → Prop), pX p s m args c G nL cc own → (∀ r h', Φ r h' → PW p l e (rmD (d + 1) 0 0) s m args below meth c G nL Q 0 0 h' np ls (r.toList ++ st')) → PW p l e (rmD (d + 1) 0 0) s m args below meth c G nL Q 0 0 h pc ls st
def TR (l : Launch) (G : PG) (d : Nat) (own : String) (cc : ByteArray) (nL : Nat) (ret : Option FieldType) (pc : Nat) (h : PH) (ls : List (Option PV)) (st : List PV) (r : Option PV) : Prop :=
  ∀ (p : Program) (e : Env) (s : State) (m : MethodId) (args : Array Value) (below : List Frame) (meth : Method) (c : Code) (Φ : Option PV → PH → Prop), pX p s m args c G nL cc own → meth.sig.returnType = ret → meth.locks = false → Φ r h → PW p l e (rmD (d + 1) 0 0) s m args below meth c G nL (MQ below (pQ G Φ) args s 0 0 (pF G)) 0 0 h pc ls st
def eOK (own : String) (cc : ByteArray) (nL : Nat) (ret : Option FieldType) (code : List PO) (x : PO) (np : Nat) : Prop := match x with
  | (pc, op, a, b, v, tg) => ∀ (l : Launch) (G : PG) (d : Nat) (h : PH) (ls : List (Option PV)) (st : List PV), match op with
    | 0 => ∀ x : Int32, ls[a]? = some (some (vI x)) → Tr l G d own cc nL pc np h h ls ls st (vI x :: st)
    | 1 => ∀ x : Option Nat, ls[a]? = some (some (.inr (.inl x))) → Tr l G d own cc nL pc np h h ls ls st (.inr (.inl x) :: st)
    | 2 => Tr l G d own cc nL pc np h h ls ls st (vI v :: st)
    | 3 => ∀ (x : Nat) (fs : List PV) (z : PV), h[x]? = some (eO a fs) → fs[b]? = some z → Tr l G d own cc nL pc np h h ls ls (vR x :: st) (z :: st)
    | 4 => ∀ x y : Int32, (pcmp b x y = true → Tr l G d own cc nL pc (hpc (drp a code)) h h ls ls (vI y :: vI x :: st) st) ∧ (pcmp b x y = false → Tr l G d own cc nL pc np h h ls ls (vI y :: vI x :: st) st)
    | 5 => (∀ (x N : Nat) (f : Nat → Int32) (i : Int32), h[x]? = some (eI N f) → vp_in i N → Tr l G d own cc nL pc np h h ls ls (vI i :: vR x :: st) (vI (f i.toNatClampNeg) :: st)) ∧ (∀ (j : Nat) (i : Int32), j < 3 → vp_in i (sN j) → Tr l G d own cc nL pc np h h ls ls (vI i :: vS j :: st) (vI (sF j i.toNatClampNeg) :: st))
    | 6 => ∀ x y : Int32, Tr l G d own cc nL pc np h h ls ls (vI y :: vI x :: st) (vI (pbin a x y) :: st)
    | 7 => ∀ x : Int32, Tr l G d own cc nL pc np h h ls (ls.set a (some (vI x))) (vI x :: st) st
    | 8 => ∀ x : Int32, ls[a]? = some (some (vI x)) → Tr l G d own cc nL pc np h h ls (ls.set a (some (vI (x + v)))) st st
    | 9 => Tr l G d own cc nL pc (hpc (drp a code)) h h ls ls st st
    | 10 => ∀ x : Int32, (pcmp b x 0 = true → Tr l G d own cc nL pc (hpc (drp a code)) h h ls ls (vI x :: st) st) ∧ (pcmp b x 0 = false → Tr l G d own cc nL pc np h h ls ls (vI x :: st) st)
    | 11 => ∀ (x N : Nat) (f : Nat → Int32) (i z : Int32), h[x]? = some (eI N f) → vp_in i N → Tr l G d own cc nL pc np h (h.set x (eI N (upd f i.toNatClampNeg z))) ls ls (vI z :: vI i :: vR x :: st) st
    | 12 => ∀ (As : List PV) (x : Nat) (fs : List PV) (Φ : Option PV → PH → Prop) (d' : Nat), d' ≤ d → As.length = b → h[x]? = some (eO (hd0 tg) fs) → st.length ≤ 8 → PMet l G (mY a) (mC a) (mN a) (mR a) d' 0 0 (vR x :: As) h Φ → TC l G d own cc nL pc np h ls (As.reverse ++ vR x :: st) st Φ
    | 13 => ∀ (As : List PV) (Φ : Option PV → PH → Prop) (d' : Nat), d' ≤ d → As.length = b → st.length ≤ 8 → PMet l G (mY a) (mC a) (mN a) (mR a) d' 0 0 As h Φ → TC l G d own cc nL pc np h ls (As.reverse ++ st) st Φ
    | 14 => ∀ z : Int32, TR l G d own cc nL ret pc h ls [vI z] (some (vI z))
    | 15 => ∀ z : Int32, (z = 0 ∨ z = 1) → TR l G d own cc nL ret pc h ls [vI z] (some (vI z))
    | 16 => TR l G d own cc nL ret pc h ls [] none
    | 17 => ∀ x y : Int32, ¬ y = 0 → Tr l G d own cc nL pc np h h ls ls (vI y :: vI x :: st) (vI (x / y) :: st)
    | 18 => ∀ x y : Int32, ¬ y = 0 → Tr l G d own cc nL pc np h h ls ls (vI y :: vI x :: st) (vI (x - x / y * y) :: st)
    | 19 => ∀ (x : Nat) (fs : List PV) (z : Int32), h[x]? = some (eO a fs) → b < fs.length → (v = 0 ∨ z = 0 ∨ z = 1) → Tr l G d own cc nL pc np h (h.set x (eO a (fs.set b (vI z)))) ls ls (vI z :: vR x :: st) st
    | 20 => ∀ x : Int32, Tr l G d own cc nL pc np h h ls ls (vI x :: st) (vI (-x) :: st)
    | 21 => ∀ z : PV, Tr l G d own cc nL pc np h h ls ls (z :: st) (z :: z :: st)
    | 22 => ∀ z w : PV, Tr l G d own cc nL pc np h h ls ls (z :: w :: st) (z :: w :: z :: w :: st)
    | 23 => ∀ z : PV, Tr l G d own cc nL pc np h h ls ls (z :: st) st
    | 24 => (∀ (x N : Nat) (f : Nat → Int32), h[x]? = some (eI N f) → Tr l G d own cc nL pc np h h ls ls (vR x :: st) (vI (Int32.ofNat N) :: st)) ∧ (∀ j : Nat, j < 3 → Tr l G d own cc nL pc np h h ls ls (vS j :: st) (vI (Int32.ofNat (sN j)) :: st))
    | 25 => ∀ (x q N : Nat) (f : Nat → Option Nat) (i : Int32), (q = 1 ∨ q = 2 ∨ q = 3) → h[x]? = some (eR q N f) → vp_in i N → Tr l G d own cc nL pc np h h ls ls (vI i :: vR x :: st) (.inr (.inl (f i.toNatClampNeg)) :: st)
    | 26 => Tr l G d own cc nL pc np h h ls ls st (vS a :: st)
    | 27 => ∀ x y : Int32, st.length ≤ 8 → Tr l G d own cc nL pc np h h ls ls (vI y :: vI x :: st) (vI (if x < y then y else x) :: st)
    | 28 => ∀ x y : Int32, st.length ≤ 8 → Tr l G d own cc nL pc np h h ls ls (vI y :: vI x :: st) (vI (if y < x then y else x) :: st)
    | 29 => ∀ x : Int32, st.length ≤ 8 → Tr l G d own cc nL pc np h h ls ls (vI x :: st) (vI (if 0 ≤ x then x else 0 - x) :: st)
    | 30 => ∀ x : Int32, ((x.toInt < (a : Int) ∨ (b : Int) < x.toInt) → ∀ k, nth tg 0 = some k → Tr l G d own cc nL pc (hpc (drp k code)) h h ls ls (vI x :: st) st) ∧ (¬ (x.toInt < (a : Int) ∨ (b : Int) < x.toInt) → ∀ k, nth tg ((x.toInt - (a : Int)).toNat + 1) = some k → Tr l G d own cc nL pc (hpc (drp k code)) h h ls ls (vI x :: st) st)
    | 31 => ∀ x : Option Nat, Tr l G d own cc nL pc np h h ls (ls.set a (some (.inr (.inl x)))) (.inr (.inl x) :: st) st
    | 32 => Tr l G d own cc nL pc np h h ls ls st (vN :: st)
    | 33 => Tr l G d own cc nL pc (hpc (drp a code)) h h ls ls (vN :: st) st ∧ ∀ x : Nat, Tr l G d own cc nL pc np h h ls ls (vR x :: st) st
    | 34 => Tr l G d own cc nL pc np h h ls ls (vN :: st) st ∧ ∀ x : Nat, Tr l G d own cc nL pc (hpc (drp a code)) h h ls ls (vR x :: st) st
    | 36 => ∀ (x q N y ci : Nat) (fs : List PV) (f : Nat → Option Nat) (i : Int32), ((q = 1 ∧ ci = 0) ∨ (q = 2 ∧ ci = 8) ∨ (q = 3 ∧ ci = 9)) → h[x]? = some (eR q N f) → h[y]? = some (eO ci fs) → vp_in i N → Tr l G d own cc nL pc np h (h.set x (eR q N (va_up f i.toNatClampNeg (some y)))) ls ls (vR y :: vI i :: vR x :: st) st
    | 37 => ∀ (x y n0 n1 : Nat) (f g : Nat → Int32) (sp dp k : Int32), h[x]? = some (eI n0 f) → h[y]? = some (eI n1 g) → ¬ sp < 0 → ¬ dp < 0 → ¬ k < 0 → sp.toNatClampNeg + k.toNatClampNeg ≤ n0 → dp.toNatClampNeg + k.toNatClampNeg ≤ n1 → st.length ≤ 8 → Tr l G d own cc nL pc np h (h.set y (eI n1 (va_cpy f g sp.toNatClampNeg dp.toNatClampNeg k.toNatClampNeg))) ls ls (vI k :: vI dp :: vR y :: vI sp :: vR x :: st) st
    | _ => True
/-! rows: an instruction is an entry -/
section PRows
variable {own : String} {cc : ByteArray} {nL : Nat} {ret : Option FieldType} {code : List PO} {pc a b : Nat} {v : Int32} {tg : List Nat}
theorem tq_iload_n {i : Fin 4} (hd : decode cc pc = .ok (.iload_n i, 1)) : eOK own cc nL ret code (pc, 0, (i : Nat), b, v, tg) (pc + 1) :=
  fun _ _ _ _ _ _ _ hx _ _ _ _ _ _ _ _ _ X k => r_iload_n X hd hx k
theorem tq_iload {i : Nat} (hd : decode cc pc = .ok (.iload i, 2)) : eOK own cc nL ret code (pc, 0, i, b, v, tg) (pc + 2) :=
  fun _ _ _ _ _ _ _ hx _ _ _ _ _ _ _ _ _ X k => r_iload X hd hx k
theorem tq_aload_n {i : Fin 4} (hd : decode cc pc = .ok (.aload_n i, 1)) : eOK own cc nL ret code (pc, 1, (i : Nat), b, v, tg) (pc + 1) := by
  intro l G d h ls st x hx p e s m args below meth c Q X k
  cases x with
  | none => exact r_aload_nN X hd hx k
  | some x => exact r_aload_n X hd hx k
theorem tq_aload {i : Nat} (hd : decode cc pc = .ok (.aload i, 2)) : eOK own cc nL ret code (pc, 1, i, b, v, tg) (pc + 2) := by
  intro l G d h ls st x hx p e s m args below meth c Q X k
  cases x with
  | none => exact r_aloadN X hd hx k
  | some x => exact r_aload X hd hx k
theorem tq_iconst {n : Int} (hd : decode cc pc = .ok (.iconst n, 1)) (hv : Int32.ofInt n = v) : eOK own cc nL ret code (pc, 2, a, b, v, tg) (pc + 1) :=
  fun _ _ _ _ _ _ _ _ _ _ _ _ _ _ _ X k => r_iconst X hd hv k
theorem tq_bipush {n : Int} (hd : decode cc pc = .ok (.bipush n, 2)) (hv : (Int8.ofInt n).toInt32 = v) : eOK own cc nL ret code (pc, 2, a, b, v, tg) (pc + 2) :=
  fun _ _ _ _ _ _ _ _ _ _ _ _ _ _ _ X k => r_bipush X hd hv k
theorem tq_sipush {n : Int} (hd : decode cc pc = .ok (.sipush n, 3)) (hv : (Int16.ofInt n).toInt32 = v) : eOK own cc nL ret code (pc, 2, a, b, v, tg) (pc + 3) :=
  fun _ _ _ _ _ _ _ _ _ _ _ _ _ _ _ X k => r_sipush X hd hv k
theorem tq_ldc {i : Nat} (hw : Cond.constant own i v ∈ lw_ok) (hd : decode cc pc = .ok (.ldc i, 2)) : eOK own cc nL ret code (pc, 2, a, b, v, tg) (pc + 2) :=
  fun _ _ _ _ _ _ _ _ _ _ _ _ _ _ _ X k => r_ldc X hw hd k
theorem tq_ldc_w {i : Nat} (hw : Cond.constant own i v ∈ lw_ok) (hd : decode cc pc = .ok (.ldc_w i, 3)) : eOK own cc nL ret code (pc, 2, a, b, v, tg) (pc + 3) :=
  fun _ _ _ _ _ _ _ _ _ _ _ _ _ _ _ X k => r_ldc_w X hw hd k
theorem tq_get {i : Nat} (F : fkG own i a b) (hd : decode cc pc = .ok (.getfield i, 3)) : eOK own cc nL ret code (pc, 3, a, b, v, tg) (pc + 3) :=
  fun _ _ _ _ _ _ _ _ _ hx hz _ _ _ _ _ _ _ _ _ X k => r_get X F hd hx hz k
theorem tq_iald (hd : decode cc pc = .ok (.iaload, 1)) : eOK own cc nL ret code (pc, 5, a, b, v, tg) (pc + 1) :=
  fun _ _ _ _ _ _ => ⟨fun _ _ _ _ hx hi _ _ _ _ _ _ _ _ _ X k => r_iald X hd hx hi k, fun _ _ hj hi _ _ _ _ _ _ _ _ _ X k => r_sald X hj hd hi k⟩
theorem tq_iadd (hd : decode cc pc = .ok (.iadd, 1)) : eOK own cc nL ret code (pc, 6, 0, b, v, tg) (pc + 1) :=
  fun _ _ _ _ _ _ _ _ _ _ _ _ _ _ _ _ _ X k => r_iadd X hd k
theorem tq_isub (hd : decode cc pc = .ok (.isub, 1)) : eOK own cc nL ret code (pc, 6, 1, b, v, tg) (pc + 1) :=
  fun _ _ _ _ _ _ _ _ _ _ _ _ _ _ _ _ _ X k => r_isub X hd k
theorem tq_imul (hd : decode cc pc = .ok (.imul, 1)) : eOK own cc nL ret code (pc, 6, 2, b, v, tg) (pc + 1) :=
  fun _ _ _ _ _ _ _ _ _ _ _ _ _ _ _ _ _ X k => r_imul X hd k
theorem tq_iand (hd : decode cc pc = .ok (.iand, 1)) : eOK own cc nL ret code (pc, 6, 3, b, v, tg) (pc + 1) :=
  fun _ _ _ _ _ _ _ _ _ _ _ _ _ _ _ _ _ X k => r_iand X hd k
theorem tq_ior (hd : decode cc pc = .ok (.ior, 1)) : eOK own cc nL ret code (pc, 6, 4, b, v, tg) (pc + 1) :=
  fun _ _ _ _ _ _ _ _ _ _ _ _ _ _ _ _ _ X k => r_ior X hd k
theorem tq_ixor (hd : decode cc pc = .ok (.ixor, 1)) : eOK own cc nL ret code (pc, 6, 5, b, v, tg) (pc + 1) :=
  fun _ _ _ _ _ _ _ _ _ _ _ _ _ _ _ _ _ X k => r_ixor X hd k
theorem tq_ishl (hd : decode cc pc = .ok (.ishl, 1)) : eOK own cc nL ret code (pc, 6, 6, b, v, tg) (pc + 1) :=
  fun _ _ _ _ _ _ _ _ _ _ _ _ _ _ _ _ _ X k => r_ishl X hd k
theorem tq_ishr (hd : decode cc pc = .ok (.ishr, 1)) : eOK own cc nL ret code (pc, 6, 7, b, v, tg) (pc + 1) :=
  fun _ _ _ _ _ _ _ _ _ _ _ _ _ _ _ _ _ X k => r_ishr X hd k
theorem tq_iushr (hd : decode cc pc = .ok (.iushr, 1)) : eOK own cc nL ret code (pc, 6, 8, b, v, tg) (pc + 1) :=
  fun _ _ _ _ _ _ _ _ _ _ _ _ _ _ _ _ _ X k => r_iushr X hd rfl k
theorem tq_idiv (hd : decode cc pc = .ok (.idiv, 1)) : eOK own cc nL ret code (pc, 17, a, b, v, tg) (pc + 1) :=
  fun _ _ _ _ _ _ _ _ hy _ _ _ _ _ _ _ _ _ X k => r_idiv X hd hy k
theorem tq_irem (hd : decode cc pc = .ok (.irem, 1)) : eOK own cc nL ret code (pc, 18, a, b, v, tg) (pc + 1) :=
  fun _ _ _ _ _ _ _ _ hy _ _ _ _ _ _ _ _ _ X k => r_irem X hd hy k
theorem tq_ineg (hd : decode cc pc = .ok (.ineg, 1)) : eOK own cc nL ret code (pc, 20, a, b, v, tg) (pc + 1) :=
  fun _ _ _ _ _ _ _ _ _ _ _ _ _ _ _ _ X k => r_ineg X hd k
theorem tq_dup (hd : decode cc pc = .ok (.dup, 1)) : eOK own cc nL ret code (pc, 21, a, b, v, tg) (pc + 1) :=
  fun _ _ _ _ _ _ _ _ _ _ _ _ _ _ _ _ X k => r_dup X hd k
theorem tq_dup2 (hd : decode cc pc = .ok (.dup2, 1)) : eOK own cc nL ret code (pc, 22, a, b, v, tg) (pc + 1) :=
  fun _ _ _ _ _ _ _ _ _ _ _ _ _ _ _ _ _ X k => r_dup2 X hd k
theorem tq_pop (hd : decode cc pc = .ok (.pop, 1)) : eOK own cc nL ret code (pc, 23, a, b, v, tg) (pc + 1) :=
  fun _ _ _ _ _ _ _ _ _ _ _ _ _ _ _ _ X k => r_pop X hd k
theorem tq_istore_n {i : Fin 4} (hd : decode cc pc = .ok (.istore_n i, 1)) (hn : (i : Nat) < nL) : eOK own cc nL ret code (pc, 7, (i : Nat), b, v, tg) (pc + 1) :=
  fun _ _ _ _ _ _ _ _ _ _ _ _ _ _ _ _ X k => r_istore_n X hd hn k
theorem tq_istore {i : Nat} (hd : decode cc pc = .ok (.istore i, 2)) (hn : i < nL) : eOK own cc nL ret code (pc, 7, i, b, v, tg) (pc + 2) :=
  fun _ _ _ _ _ _ _ _ _ _ _ _ _ _ _ _ X k => r_istore X hd hn k
theorem tq_astore_n {i : Fin 4} (hd : decode cc pc = .ok (.astore_n i, 1)) (hn : (i : Nat) < nL) : eOK own cc nL ret code (pc, 31, (i : Nat), b, v, tg) (pc + 1) := by
  intro l G d h ls st x p e s m args below meth c Q X k
  cases x with
  | none => exact r_astore_nN X hd hn k
  | some x => exact r_astore_n X hd hn k
theorem tq_astore {i : Nat} (hd : decode cc pc = .ok (.astore i, 2)) (hn : i < nL) : eOK own cc nL ret code (pc, 31, i, b, v, tg) (pc + 2) := by
  intro l G d h ls st x p e s m args below meth c Q X k
  cases x with
  | none => exact r_astoreN X hd hn k
  | some x => exact r_astore X hd hn k
theorem tq_iinc {i : Nat} {n : Int} (hd : decode cc pc = .ok (.iinc i n, 3)) (hn : i < nL) (hv : Int32.ofInt n = v) : eOK own cc nL ret code (pc, 8, i, b, v, tg) (pc + 3) :=
  fun _ _ _ _ _ _ _ hx _ _ _ _ _ _ _ _ _ X k => r_iinc X hd hx (by rw [hv]) hn k
theorem tq_goto {off : Int} (hd : decode cc pc = .ok (.goto off, 3)) (ht : (pc : Int) + off = ((hpc (drp a code) : Nat) : Int)) : eOK own cc nL ret code (pc, 9, a, b, v, tg) (pc + 3) :=
  fun _ _ _ _ _ _ _ _ _ _ _ _ _ _ _ X k => r_goto X hd ht k
theorem tq_if_eq {off : Int} (hd : decode cc pc = .ok (.ifCond .eq off, 3)) (ht : (pc : Int) + off = ((hpc (drp a code) : Nat) : Int)) : eOK own cc nL ret code (pc, 10, a, 0, v, tg) (pc + 3) :=
  fun _ _ _ _ _ _ _ => ⟨fun q _ _ _ _ _ _ _ _ _ X k => r_if_eq_t X hd ht (of_decide_eq_true (cmp_eq.symm.trans q)) k, fun q _ _ _ _ _ _ _ _ _ X k => r_if_eq_f X hd ht (of_decide_eq_false (cmp_eq.symm.trans q)) k⟩
theorem tq_if_ne {off : Int} (hd : decode cc pc = .ok (.ifCond .ne off, 3)) (ht : (pc : Int) + off = ((hpc (drp a code) : Nat) : Int)) : eOK own cc nL ret code (pc, 10, a, 1, v, tg) (pc + 3) :=
  fun _ _ _ _ _ _ _ => ⟨fun q _ _ _ _ _ _ _ _ _ X k => r_if_ne_t X hd ht (of_decide_eq_true (cmp_ne.symm.trans q)) k, fun q _ _ _ _ _ _ _ _ _ X k => r_if_ne_f X hd ht (Decidable.of_not_not (of_decide_eq_false (cmp_ne.symm.trans q))) k⟩
theorem tq_if_lt {off : Int} (hd : decode cc pc = .ok (.ifCond .lt off, 3)) (ht : (pc : Int) + off = ((hpc (drp a code) : Nat) : Int)) : eOK own cc nL ret code (pc, 10, a, 2, v, tg) (pc + 3) :=
  fun _ _ _ _ _ _ _ => ⟨fun q _ _ _ _ _ _ _ _ _ X k => r_if_lt_t X hd ht (of_decide_eq_true (cmp_lt.symm.trans q)) k, fun q _ _ _ _ _ _ _ _ _ X k => r_if_lt_f X hd ht (of_decide_eq_false (cmp_lt.symm.trans q)) k⟩
theorem tq_if_ge {off : Int} (hd : decode cc pc = .ok (.ifCond .ge off, 3)) (ht : (pc : Int) + off = ((hpc (drp a code) : Nat) : Int)) : eOK own cc nL ret code (pc, 10, a, 3, v, tg) (pc + 3) :=
  fun _ _ _ _ _ _ _ => ⟨fun q _ _ _ _ _ _ _ _ _ X k => r_if_ge_t X hd ht (of_decide_eq_true (cmp_ge.symm.trans q)) k, fun q _ _ _ _ _ _ _ _ _ X k => r_if_ge_f X hd ht (of_decide_eq_false (cmp_ge.symm.trans q)) k⟩
theorem tq_if_gt {off : Int} (hd : decode cc pc = .ok (.ifCond .gt off, 3)) (ht : (pc : Int) + off = ((hpc (drp a code) : Nat) : Int)) : eOK own cc nL ret code (pc, 10, a, 4, v, tg) (pc + 3) :=
  fun _ _ _ _ _ _ _ => ⟨fun q _ _ _ _ _ _ _ _ _ X k => r_if_gt_t X hd ht (of_decide_eq_true (cmp_gt.symm.trans q)) k, fun q _ _ _ _ _ _ _ _ _ X k => r_if_gt_f X hd ht (of_decide_eq_false (cmp_gt.symm.trans q)) k⟩
theorem tq_if_le {off : Int} (hd : decode cc pc = .ok (.ifCond .le off, 3)) (ht : (pc : Int) + off = ((hpc (drp a code) : Nat) : Int)) : eOK own cc nL ret code (pc, 10, a, 5, v, tg) (pc + 3) :=
  fun _ _ _ _ _ _ _ => ⟨fun q _ _ _ _ _ _ _ _ _ X k => r_if_le_t X hd ht (of_decide_eq_true (cmp_le.symm.trans q)) k, fun q _ _ _ _ _ _ _ _ _ X k => r_if_le_f X hd ht (of_decide_eq_false (cmp_le.symm.trans q)) k⟩
theorem tq_icmp_eq {off : Int} (hd : decode cc pc = .ok (.if_icmp .eq off, 3)) (ht : (pc : Int) + off = ((hpc (drp a code) : Nat) : Int)) : eOK own cc nL ret code (pc, 4, a, 0, v, tg) (pc + 3) :=
  fun _ _ _ _ _ _ _ _ => ⟨fun q _ _ _ _ _ _ _ _ _ X k => r_icmp_eq_t X hd ht (of_decide_eq_true (cmp_eq.symm.trans q)) k, fun q _ _ _ _ _ _ _ _ _ X k => r_icmp_eq_f X hd ht (of_decide_eq_false (cmp_eq.symm.trans q)) k⟩
theorem tq_icmp_ne {off : Int} (hd : decode cc pc = .ok (.if_icmp .ne off, 3)) (ht : (pc : Int) + off = ((hpc (drp a code) : Nat) : Int)) : eOK own cc nL ret code (pc, 4, a, 1, v, tg) (pc + 3) :=
  fun _ _ _ _ _ _ _ _ => ⟨fun q _ _ _ _ _ _ _ _ _ X k => r_icmp_ne_t X hd ht (of_decide_eq_true (cmp_ne.symm.trans q)) k, fun q _ _ _ _ _ _ _ _ _ X k => r_icmp_ne_f X hd ht (Decidable.of_not_not (of_decide_eq_false (cmp_ne.symm.trans q))) k⟩
theorem tq_icmp_lt {off : Int} (hd : decode cc pc = .ok (.if_icmp .lt off, 3)) (ht : (pc : Int) + off = ((hpc (drp a code) : Nat) : Int)) : eOK own cc nL ret code (pc, 4, a, 2, v, tg) (pc + 3) :=
  fun _ _ _ _ _ _ _ _ => ⟨fun q _ _ _ _ _ _ _ _ _ X k => r_icmp_lt_t X hd ht (of_decide_eq_true (cmp_lt.symm.trans q)) k, fun q _ _ _ _ _ _ _ _ _ X k => r_icmp_lt_f X hd ht (of_decide_eq_false (cmp_lt.symm.trans q)) k⟩
theorem tq_icmp_ge {off : Int} (hd : decode cc pc = .ok (.if_icmp .ge off, 3)) (ht : (pc : Int) + off = ((hpc (drp a code) : Nat) : Int)) : eOK own cc nL ret code (pc, 4, a, 3, v, tg) (pc + 3) :=
  fun _ _ _ _ _ _ _ _ => ⟨fun q _ _ _ _ _ _ _ _ _ X k => r_icmp_ge_t X hd ht (of_decide_eq_true (cmp_ge.symm.trans q)) k, fun q _ _ _ _ _ _ _ _ _ X k => r_icmp_ge_f X hd ht (of_decide_eq_false (cmp_ge.symm.trans q)) k⟩
theorem tq_icmp_gt {off : Int} (hd : decode cc pc = .ok (.if_icmp .gt off, 3)) (ht : (pc : Int) + off = ((hpc (drp a code) : Nat) : Int)) : eOK own cc nL ret code (pc, 4, a, 4, v, tg) (pc + 3) :=
  fun _ _ _ _ _ _ _ _ => ⟨fun q _ _ _ _ _ _ _ _ _ X k => r_icmp_gt_t X hd ht (of_decide_eq_true (cmp_gt.symm.trans q)) k, fun q _ _ _ _ _ _ _ _ _ X k => r_icmp_gt_f X hd ht (of_decide_eq_false (cmp_gt.symm.trans q)) k⟩
theorem tq_icmp_le {off : Int} (hd : decode cc pc = .ok (.if_icmp .le off, 3)) (ht : (pc : Int) + off = ((hpc (drp a code) : Nat) : Int)) : eOK own cc nL ret code (pc, 4, a, 5, v, tg) (pc + 3) :=
  fun _ _ _ _ _ _ _ _ => ⟨fun q _ _ _ _ _ _ _ _ _ X k => r_icmp_le_t X hd ht (of_decide_eq_true (cmp_le.symm.trans q)) k, fun q _ _ _ _ _ _ _ _ _ X k => r_icmp_le_f X hd ht (of_decide_eq_false (cmp_le.symm.trans q)) k⟩
theorem tq_iast (hd : decode cc pc = .ok (.iastore, 1)) : eOK own cc nL ret code (pc, 11, a, b, v, tg) (pc + 1) :=
  fun _ _ _ _ _ _ _ _ _ _ _ hx hi _ _ _ _ _ _ _ _ _ X k => r_iast X hd hx hi k
theorem tq_callV {i N : Nat} {T : u_T} (K : lkV own i (mY a) (mC a) (mN a) (mR a) b) (hd : decode cc pc = .ok (.invokevirtual i, 3)) (hc : vwCl[hd0 tg]? = some ((mY a).cls, T, N)) (hm : Nat.ble (mN a) 45 = true) : eOK own cc nL ret code (pc, 12, a, b, v, tg) (pc + 3) :=
  fun _ _ d _ _ _ _ _ _ _ d' hd' hl hx h8 hM _ _ _ _ _ _ _ _ _ X k => r_callV X K hd rfl hl hx hc hM ⟨Nat.succ_le_succ hd', by have := Nat.le_of_ble_eq_true hm; show 8 + (mN a + 11) + 64 * d' ≤ 64 * (d + 1); omega⟩ h8 ⟨Nat.le_refl _, Nat.le_refl _⟩ k
theorem tq_callS {i : Nat} (K : lkS own i (mY a) (mC a) (mN a) (mR a) b) (hd : decode cc pc = .ok (.invokestatic i, 3)) (hm : Nat.ble (mN a) 45 = true) : eOK own cc nL ret code (pc, 13, a, b, v, tg) (pc + 3) :=
  fun _ _ d _ _ _ _ _ d' hd' hl h8 hM _ _ _ _ _ _ _ _ _ X k => r_callS X K hd rfl hl hM ⟨Nat.succ_le_succ hd', by have := Nat.le_of_ble_eq_true hm; show 8 + (mN a + 11) + 64 * d' ≤ 64 * (d + 1); omega⟩ h8 ⟨Nat.le_refl _, Nat.le_refl _⟩ k
theorem tq_callSN {i : Nat} {host : String} (K : lkN own i (mY a) host (mC a) (mN a) (mR a) b) (hst : Cond.static (mY a) ∈ lw_ok) (hd : decode cc pc = .ok (.invokestatic i, 3)) (hm : Nat.ble (mN a) 45 = true) : eOK own cc nL ret code (pc, 13, a, b, v, tg) (pc + 3) :=
  fun _ _ d _ _ _ _ _ d' hd' hl h8 hM _ _ _ _ _ _ _ _ _ X k => r_callSN X K hst hd rfl hl hM ⟨Nat.succ_le_succ hd', by have := Nat.le_of_ble_eq_true hm; show 8 + (mN a + 11) + 64 * d' ≤ 64 * (d + 1); omega⟩ h8 ⟨Nat.le_refl _, Nat.le_refl _⟩ k
theorem tq_reti (hd : decode cc pc = .ok (.ireturn, 1)) {np : Nat} : eOK own cc nL (some .int) code (pc, 14, a, b, v, tg) np :=
  fun _ _ _ _ _ _ _ _ _ _ _ _ _ _ _ _ X hr hlk hΦ => r_ret_i X hr hlk hd (Nat.le_refl _) (Nat.le_refl _) hΦ
theorem tq_retz (hd : decode cc pc = .ok (.ireturn, 1)) {np : Nat} : eOK own cc nL (some .boolean) code (pc, 15, a, b, v, tg) np :=
  fun _ _ _ _ _ _ _ hz _ _ _ _ _ _ _ _ _ X hr hlk hΦ => r_ret_z X hr hlk hz hd (Nat.le_refl _) (Nat.le_refl _) hΦ
theorem tq_retv (hd : decode cc pc = .ok (.return_, 1)) {np : Nat} : eOK own cc nL none code (pc, 16, a, b, v, tg) np :=
  fun _ _ _ _ _ _ _ _ _ _ _ _ _ _ _ X hr hlk hΦ => r_ret_v X hr hlk hd (Nat.le_refl _) (Nat.le_refl _) hΦ
theorem tq_putI {i : Nat} (F : fkP own i a b .int) (hd : decode cc pc = .ok (.putfield i, 3)) : eOK own cc nL ret code (pc, 19, a, b, 0, tg) (pc + 3) :=
  fun _ _ _ _ _ _ _ _ _ hx hb _ _ _ _ _ _ _ _ _ _ X k => r_put X F hd hx hb rfl rfl k
theorem tq_putZ {i : Nat} (F : fkP own i a b .boolean) (hd : decode cc pc = .ok (.putfield i, 3)) : eOK own cc nL ret code (pc, 19, a, b, 1, tg) (pc + 3) := by
  intro l G d h ls st x fs z hx hb hz p e s m args below meth c Q X k
  rcases hz with hz | rfl | rfl
  · exact absurd hz (by decide)
  · exact r_put X F hd hx hb rfl rfl k
  · exact r_put X F hd hx hb rfl rfl k
theorem tq_alen (hd : decode cc pc = .ok (.arraylength, 1)) : eOK own cc nL ret code (pc, 24, a, b, v, tg) (pc + 1) :=
  fun _ _ _ _ _ _ => ⟨fun _ _ _ hx _ _ _ _ _ _ _ _ _ X k => r_alen X hd hx rfl k, fun _ hj _ _ _ _ _ _ _ _ _ X k => r_slen X hj hd rfl k⟩
theorem tq_aald (hd : decode cc pc = .ok (.aaload, 1)) : eOK own cc nL ret code (pc, 25, a, b, v, tg) (pc + 1) := by
  intro l G d h ls st x q N f i hq hx hi p e s m args below meth c Q X k
  rcases hq with rfl | rfl | rfl
  · exact r_aald (C := RX0) X rfl hd hx hi k
  · exact r_aald (C := RX8) X rfl hd hx hi k
  · exact r_aald (C := RX9) X rfl hd hx hi k
theorem tq_pow {i : Nat} (hw : Cond.fieldLink own i RX2 "POWERS" "[I" ∈ lw_ok) (hd : decode cc pc = .ok (.getstatic i, 3)) : eOK own cc nL ret code (pc, 26, 1, b, v, tg) (pc + 3) :=
  fun _ _ _ _ _ _ _ _ _ _ _ _ _ _ _ X k => r_pow X hw hd k
theorem tq_thr {i : Nat} (hw : Cond.fieldLink own i RX2 "THREES" "[I" ∈ lw_ok) (hd : decode cc pc = .ok (.getstatic i, 3)) : eOK own cc nL ret code (pc, 26, 2, b, v, tg) (pc + 3) :=
  fun _ _ _ _ _ _ _ _ _ _ _ _ _ _ _ X k => r_thr X hw hd k
theorem chk_m {d k : Nat} (h : k ≤ 8) : chkC (rmD (d + 1) 0 0) 0 2 k 0 0 0 0 = true := by
  simp only [chkC, Bool.and_eq_true, Nat.ble_eq]
  refine ⟨?_, ?_, h, Nat.le_refl _, Nat.le_refl _⟩
  · show 0 + 1 ≤ d + 1
    omega
  · show 8 + (2 + 11) + 64 * 0 ≤ 64 * (d + 1)
    omega
theorem tq_max {i : Nat} (w1 : Cond.methodLink own i Lib.Math.max.name ∈ lw_ok) (hd : decode cc pc = .ok (.invokestatic i, 3)) : eOK own cc nL ret code (pc, 27, a, b, v, tg) (pc + 3) :=
  fun _ _ _ _ _ _ _ _ h8 _ _ _ _ _ _ _ _ _ X k => r_max X w1 hd (chk_m h8) rfl k
theorem tq_min {i : Nat} (w1 : Cond.methodLink own i Lib.Math.min.name ∈ lw_ok) (hd : decode cc pc = .ok (.invokestatic i, 3)) : eOK own cc nL ret code (pc, 28, a, b, v, tg) (pc + 3) :=
  fun _ _ _ _ _ _ _ _ h8 _ _ _ _ _ _ _ _ _ X k => r_min X w1 hd (chk_m h8) rfl k
theorem tq_abs {i : Nat} (w1 : Cond.methodLink own i Lib.Math.abs.name ∈ lw_ok) (hd : decode cc pc = .ok (.invokestatic i, 3)) : eOK own cc nL ret code (pc, 29, a, b, v, tg) (pc + 3) :=
  fun _ _ _ _ _ _ _ h8 _ _ _ _ _ _ _ _ _ X k => r_abs X w1 hd (chk_m h8) rfl k
theorem tq_tab {dflt : Int} {offs : Array Int} {len : Nat} (hd : decode cc pc = .ok (.tableswitch dflt (a : Int) (b : Int) offs, len)) (h0 : (nth tg 0).map (fun k => ((hpc (drp k code) : Nat) : Int)) = some ((pc : Int) + dflt)) (hall : ∀ j, j < b - a + 1 → (nth tg (j + 1)).map (fun k => ((hpc (drp k code) : Nat) : Int)) = (offs[j]?).map (fun o => (pc : Int) + o)) {np : Nat} : eOK own cc nL ret code (pc, 30, a, b, v, tg) np := by
  intro l G d h ls st x
  refine ⟨fun hx k hk p e s m args below meth c Q X kk => ?_, fun hx k hk p e s m args below meth c Q X kk => ?_⟩
  · rw [hk] at h0
    exact r_tabOut X hd hx (Option.some.inj h0).symm kk
  · have h1 : ¬ x.toInt < (a : Int) := fun q => hx (Or.inl q)
    have h2 : ¬ (b : Int) < x.toInt := fun q => hx (Or.inr q)
    have hj := hall (x.toInt - (a : Int)).toNat (by omega)
    rw [hk] at hj
    cases ho : offs[(x.toInt - (a : Int)).toNat]? with
    | none => rw [ho] at hj; cases hj
    | some off =>
      rw [ho] at hj
      exact r_tabIn X hd h1 h2 ho (Option.some.inj hj).symm kk
theorem tq_null (hd : decode cc pc = .ok (.aconst_null, 1)) : eOK own cc nL ret code (pc, 32, a, b, v, tg) (pc + 1) :=
  fun _ _ _ _ _ _ _ _ _ _ _ _ _ _ _ X k => r_null X hd k
theorem tq_ifnull {off : Int} (hd : decode cc pc = .ok (.ifnull off, 3)) (ht : (pc : Int) + off = ((hpc (drp a code) : Nat) : Int)) : eOK own cc nL ret code (pc, 33, a, b, v, tg) (pc + 3) :=
  fun _ _ _ _ _ _ => ⟨fun _ _ _ _ _ _ _ _ _ X k => r_ifnull_n X hd ht k, fun _ _ _ _ _ _ _ _ _ _ X k => r_ifnull_r X hd k⟩
theorem tq_ifnonnull {off : Int} (hd : decode cc pc = .ok (.ifnonnull off, 3)) (ht : (pc : Int) + off = ((hpc (drp a code) : Nat) : Int)) : eOK own cc nL ret code (pc, 34, a, b, v, tg) (pc + 3) :=
  fun _ _ _ _ _ _ => ⟨fun _ _ _ _ _ _ _ _ _ X k => r_ifnonnull_n X hd k, fun _ _ _ _ _ _ _ _ _ _ X k => r_ifnonnull_r X hd ht k⟩
theorem tq_aast (hd : decode cc pc = .ok (.aastore, 1)) : eOK own cc nL ret code (pc, 36, a, b, v, tg) (pc + 1) := by
  intro l G d h ls st x q N y ci fs f i hq hx hy hi p e s m args below meth c Q X k
  rcases hq with ⟨rfl, rfl⟩ | ⟨rfl, rfl⟩ | ⟨rfl, rfl⟩
  · exact r_aast (C := RX0) X rfl rfl hd hx hy hi k
  · exact r_aast (C := RX8) X rfl rfl hd hx hy hi k
  · exact r_aast (C := RX9) X rfl rfl hd hx hy hi k
theorem tq_copy {i : Nat} (w1 : Cond.methodLink own i arraycopyName ∈ lw_ok) (hd : decode cc pc = .ok (.invokestatic i, 3)) : eOK own cc nL ret code (pc, 37, a, b, v, tg) (pc + 3) := by
  intro l G d h ls st x y n0 n1 f g sp dp k hx hy h1 h2 h3 h4 h5 h8 p e s m args below meth c Q X kk
  refine r_copy X w1 w_acn w_acs w_aci hd hx hy h1 h2 h3 h4 h5 (Nat.ble_eq.mpr (Nat.succ_le_succ (Nat.zero_le d))) (Nat.ble_eq.mpr ?_) kk
  have e : nativeFrameWords "java/lang/System" "arraycopy" 5 = 7 := by decide
  rw [e]
  show st.length + (7 + 11) ≤ 64 * (d + 1)
  omega
end PRows
section PSound
variable {A : Type} {rd : A → Nat → Int32} {wr : A → Nat → Int32 → A} {fz : QZ A} {l : Launch} {G : PG} {d : Nat} {own : String} {cc : ByteArray} {nL : Nat} {ret : Option FieldType} {code : List PO} {H : PH} {lb : Nat → Nat} {N0 : Nat} {call : QC A}
def hCall {A : Type} (rd : A → Nat → Int32) (l : Launch) (G : PG) (d : Nat) (H : PH) (lb : Nat → Nat) (N0 : Nat) (call : QC A) : Prop := ∀ k As L r L', call k As L = some (r, L') → ∀ h, Rep rd H lb N0 L h → PMet l G (mY k) (mC k) (mN k) (mR k) d 0 0 (As.map (sv lb)) h (fun r1 h1 => r1 = r.map (sv lb) ∧ Rep rd H lb N0 L' h1)
theorem optl (r : Option PV) (lb : Nat → Nat) : (r.map (sv lb)).toList = r.toList.map (sv lb) := by cases r <;> rfl
variable {p : Program} {e : Env} {s : State} {m : MethodId} {args : Array Value} {below : List Frame} {meth : Method} {c : Code} {Φ : Option PV → PH → Prop}
def GL {A : Type} (rd : A → Nat → Int32) (l : Launch) (G : PG) (d nL : Nat) (H : PH) (lb : Nat → Nat) (N0 : Nat) (p : Program) (e : Env) (s : State) (m : MethodId) (args : Array Value) (below : List Frame) (meth : Method) (c : Code) (Φ : Option PV → PH → Prop) (code : List PO) (i : Nat) (ls : List (Option PV)) (st : List PV) (L : QH A) : Prop := ∀ h, Rep rd H lb N0 L h → PW p l e (rmD (d + 1) 0 0) s m args below meth c G nL (MQ below (pQ G Φ) args s 0 0 (pF G)) 0 0 h (hpc (drp i code)) (sls lb ls) (st.map (sv lb))
theorem g1 (X : pX p s m args c G nL cc own) {t0 t : Nat} {ls ls' : List (Option PV)} {st st' : List PV} {L : QH A} {R : QT A} (ih : QK A) (IH : ∀ i ls st L, ih i ls st L = R → GL rd l G d nL H lb N0 p e s m args below meth c Φ code i ls st L) (hs : ih t ls' st' L = R) (h : ∀ h, Rep rd H lb N0 L h → Tr l G d own cc nL (hpc (drp t0 code)) (hpc (drp t code)) h h (sls lb ls) (sls lb ls') (st.map (sv lb)) (st'.map (sv lb))) : GL rd l G d nL H lb N0 p e s m args below meth c Φ code t0 ls st L :=
  fun hh hR => h hh hR p e s m args below meth c _ X (IH t ls' st' L hs hh hR)
theorem g2 (X : pX p s m args c G nL cc own) (hi : LbI lb N0) {t0 t : Nat} {x : Nat} {ls ls' : List (Option PV)} {st st' : List PV} {L : QH A} {y z : QE A} {R : QT A} (ih : QK A) (IH : ∀ i ls st L, ih i ls st L = R → GL rd l G d nL H lb N0 p e s m args below meth c Φ code i ls st L) (hs : ih t ls' st' (stl L y x) = R) (hx : L[x]? = some z) (h : ∀ h, Rep rd H lb N0 L h → Tr l G d own cc nL (hpc (drp t0 code)) (hpc (drp t code)) h (h.set (lb x) (se rd lb y)) (sls lb ls) (sls lb ls') (st.map (sv lb)) (st'.map (sv lb))) : GL rd l G d nL H lb N0 p e s m args below meth c Φ code t0 ls st L := by
  intro hh hR
  refine h hh hR p e s m args below meth c _ X (IH t ls' st' _ hs _ ?_)
  rw [stl_eq]
  exact Rep.set hi hR hx
theorem pdo_ok (hwr : ∀ a k z, rd (wr a k z) = upd (rd a) k z) (hfz : ∀ x k, fz x k = k x) (hi : LbI lb N0) (hc : hCall rd l G d H lb N0 call) (X : pX p s m args c G nL cc own) (hr : meth.sig.returnType = ret) (hlk : meth.locks = false) {r : Option PV} {L' : QH A} (hΦ : ∀ h', Rep rd H lb N0 L' h' → Φ (r.map (sv lb)) h') (ih : QK A) (IH : ∀ i ls st L, ih i ls st L = some (r, L') → GL rd l G d nL H lb N0 p e s m args below meth c Φ code i ls st L) {pc op a b i0 t : Nat} {v : Int32} {tg : List Nat} {ls : List (Option PV)} {st : List PV} {L : QH A} (h0 : hpc (drp i0 code) = pc) (hE : eOK own cc nL ret code (pc, op, a, b, v, tg) (hpc (drp t code))) (hs : clo rd wr fz call op a b v tg t ih ls st L = some (r, L')) : GL rd l G d nL H lb N0 p e s m args below meth c Φ code i0 ls st L := by
  subst h0
  have g1 := @g1 A rd l G d own cc nL code H lb N0 p e s m args below meth c Φ X i0
  have g2 := @g2 A rd l G d own cc nL code H lb N0 p e s m args below meth c Φ X hi i0
  revert hs
  revert hE
  match op with
  | 0 =>
    intro hE hs
    change p_iload ih a t ls st L = _ at hs
    unfold p_iload at hs
    split at hs
    · rename_i x hx
      rw [nth_eq] at hx
      exact g1 ih IH hs (fun h hR => hE l G d _ _ _ x (sls_get hx))
    · cases hs
  | 1 =>
    intro hE hs
    change p_aload ih a t ls st L = _ at hs
    unfold p_aload at hs
    split at hs
    · rename_i x hx
      rw [nth_eq] at hx
      cases x with
      | none => exact g1 ih IH hs (fun h hR => hE l G d _ _ _ none (sls_get hx))
      | some x => exact g1 ih IH hs (fun h hR => hE l G d _ _ _ (some (lb x)) (sls_get hx))
    · cases hs
  | 2 =>
    intro hE hs
    exact g1 ih IH hs (fun h hR => hE l G d _ _ _)
  | 3 =>
    intro hE hs
    change p_get ih a b t ls st L = _ at hs
    unfold p_get at hs
    split at hs
    · rename_i x st'
      split at hs
      · rename_i c1 fs hx
        split at hs
        · rename_i z hz
          obtain ⟨e1, e2⟩ := bif_some hs
          rw [nth_eq] at hx hz
          obtain rfl := Nat.eq_of_beq_eq_true e1
          exact g1 ih IH e2 (fun h hR => hE l G d _ _ _ (lb x) (fs.map (sv lb)) (sv lb z) (hR.2.1 _ _ hx) (by rw [List.getElem?_map, hz]; rfl))
        · cases hs
      · cases hs
    · cases hs
  | 4 =>
    intro hE hs
    change p_icmp ih a b t ls st L = _ at hs
    unfold p_icmp at hs
    split at hs
    · rename_i y x st'
      cases hb : pcmp b x y with
      | true => rw [hb] at hs; exact g1 ih IH hs (fun h hR => (hE l G d _ _ _ x y).1 hb)
      | false => rw [hb] at hs; exact g1 ih IH hs (fun h hR => (hE l G d _ _ _ x y).2 hb)
    · cases hs
  | 5 =>
    intro hE hs
    change p_iald ih rd fz t ls st L = _ at hs
    unfold p_iald at hs
    split at hs
    · rename_i i x st'
      split at hs
      · rename_i q N f hx
        obtain ⟨e1, e2⟩ := bif_some hs
        rw [hfz] at e2
        rw [nth_eq] at hx
        rw [Bool.and_eq_true] at e1
        obtain rfl := Nat.eq_of_beq_eq_true e1.1
        refine g1 ih IH e2 (fun h hR => ?_)
        have key := (hE l G d h (sls lb ls) (st'.map (sv lb))).1 (lb x) N (rd f) i (hR.2.1 _ _ hx) (pin_ok e1.2)
        rw [pin_ix e1.2] at key
        exact key
      · cases hs
    · rename_i i j st'
      obtain ⟨e1, e2⟩ := bif_some hs
      rw [hfz] at e2
      rw [Bool.and_eq_true] at e1
      refine g1 ih IH e2 (fun h hR => ?_)
      have key := (hE l G d h (sls lb ls) (st'.map (sv lb))).2 j i (Nat.blt_eq.mp e1.1) (pin_ok e1.2)
      rw [pin_ix e1.2] at key
      exact key
    · cases hs
  | 6 =>
    intro hE hs
    change p_bin ih fz a t ls st L = _ at hs
    unfold p_bin at hs
    split at hs
    · rename_i y x st'
      rw [hfz] at hs
      exact g1 ih IH hs (fun h hR => hE l G d _ _ _ x y)
    · cases hs
  | 7 =>
    intro hE hs
    change p_istore ih a t ls st L = _ at hs
    unfold p_istore at hs
    split at hs
    · rename_i x st'
      refine g1 ih IH hs (fun h hR => ?_)
      rw [stl_eq, sls_set]
      exact hE l G d _ _ _ x
    · cases hs
  | 8 =>
    intro hE hs
    change p_iinc ih fz a v t ls st L = _ at hs
    unfold p_iinc at hs
    split at hs
    · rename_i x hx
      rw [hfz] at hs
      rw [nth_eq] at hx
      refine g1 ih IH hs (fun h hR => ?_)
      rw [stl_eq, sls_set]
      exact hE l G d _ _ _ x (sls_get hx)
    · cases hs
  | 9 =>
    intro hE hs
    exact g1 ih IH hs (fun h hR => hE l G d _ _ _)
  | 10 =>
    intro hE hs
    change p_if0 ih a b t ls st L = _ at hs
    unfold p_if0 at hs
    split at hs
    · rename_i x st'
      cases hb : pcmp b x 0 with
      | true => rw [hb] at hs; exact g1 ih IH hs (fun h hR => (hE l G d _ _ _ x).1 hb)
      | false => rw [hb] at hs; exact g1 ih IH hs (fun h hR => (hE l G d _ _ _ x).2 hb)
    · cases hs
  | 11 =>
    intro hE hs
    change p_iast ih wr t ls st L = _ at hs
    unfold p_iast at hs
    split at hs
    · rename_i z i x st'
      split at hs
      · rename_i q N f hx
        obtain ⟨e1, e2⟩ := bif_some hs
        rw [nth_eq] at hx
        rw [Bool.and_eq_true] at e1
        obtain rfl := Nat.eq_of_beq_eq_true e1.1
        refine g2 ih IH e2 hx (fun h hR => ?_)
        have key := hE l G d h (sls lb ls) (st'.map (sv lb)) (lb x) N (rd f) i z (hR.2.1 _ _ hx) (pin_ok e1.2)
        rw [pin_ix e1.2, ← hwr] at key
        exact key
      · cases hs
    · cases hs
  | 12 =>
    intro hE hs
    change p_callV ih call a b (hd0 tg) t ls st L = _ at hs
    unfold p_callV at hs
    split at hs
    · rename_i x st' hst
      split at hs
      · rename_i c1 fs hx
        obtain ⟨e1, e2⟩ := bif_some hs
        split at e2
        · rename_i r1 L1 hcall
          simp only [Bool.and_eq_true] at e1
          obtain ⟨e11, e12, e13⟩ := e1
          obtain rfl := Nat.eq_of_beq_eq_true e11
          rw [nth_eq] at hx
          have hlen : (((st.take b).reverse).map (sv lb)).length = b := by simp [Nat.le_of_ble_eq_true e12]
          have hstk : st.map (sv lb) = (((st.take b).reverse).map (sv lb)).reverse ++ vR (lb x) :: st'.map (sv lb) := by
            rw [← List.map_reverse, List.reverse_reverse]
            conv => lhs; rw [← List.take_append_drop b st, hst]
            rw [List.map_append]
            rfl
          intro h hR
          have hM := hc _ _ _ _ _ hcall h hR
          have key := hE l G d h (sls lb ls) (st'.map (sv lb)) (((st.take b).reverse).map (sv lb)) (lb x) (fs.map (sv lb)) _ d (Nat.le_refl _) hlen (hR.2.1 _ _ hx) (by rw [List.length_map]; exact Nat.le_of_ble_eq_true e13) hM
          rw [hstk]
          refine key p e s m args below meth c _ X ?_
          rintro r2 h1 ⟨rfl, hR1⟩
          rw [optl, ← List.map_append]
          exact IH _ _ _ _ e2 h1 hR1
        · cases e2
      · cases hs
    · cases hs
  | 13 =>
    intro hE hs
    change p_callS ih call a b t ls st L = _ at hs
    unfold p_callS at hs
    obtain ⟨e1, e2⟩ := bif_some hs
    split at e2
    · rename_i r1 L1 hcall
      simp only [Bool.and_eq_true] at e1
      obtain ⟨e12, e13⟩ := e1
      have hlen : (((st.take b).reverse).map (sv lb)).length = b := by simp [Nat.le_of_ble_eq_true e12]
      have hstk : st.map (sv lb) = (((st.take b).reverse).map (sv lb)).reverse ++ (st.drop b).map (sv lb) := by
        rw [← List.map_reverse, List.reverse_reverse, ← List.map_append, List.take_append_drop]
      intro h hR
      have hM := hc _ _ _ _ _ hcall h hR
      have key := hE l G d h (sls lb ls) ((st.drop b).map (sv lb)) (((st.take b).reverse).map (sv lb)) _ d (Nat.le_refl _) hlen (by rw [List.length_map]; exact Nat.le_of_ble_eq_true e13) hM
      rw [hstk]
      refine key p e s m args below meth c _ X ?_
      rintro r2 h1 ⟨rfl, hR1⟩
      rw [optl, ← List.map_append]
      exact IH _ _ _ _ e2 h1 hR1
    · cases e2
  | 14 =>
    intro hE hs
    change p_iret st L = _ at hs
    unfold p_iret at hs
    split at hs
    · rename_i z
      cases hs
      exact fun h hR => hE l G d _ _ [] z p e s m args below meth c Φ X hr hlk (hΦ h hR)
    · cases hs
  | 15 =>
    intro hE hs
    change p_zret st L = _ at hs
    unfold p_zret at hs
    split at hs
    · rename_i z
      obtain ⟨e1, e2⟩ := bif_some hs
      cases e2
      simp only [Bool.or_eq_true, cmp_eq, decide_eq_true_eq] at e1
      exact fun h hR => hE l G d _ _ [] z e1 p e s m args below meth c Φ X hr hlk (hΦ h hR)
    · cases hs
  | 16 =>
    intro hE hs
    change p_vret st L = _ at hs
    unfold p_vret at hs
    split at hs
    · cases hs
      exact fun h hR => hE l G d _ _ [] p e s m args below meth c Φ X hr hlk (hΦ h hR)
    · cases hs
  | 17 =>
    intro hE hs
    change p_div ih fz t ls st L = _ at hs
    unfold p_div at hs
    split at hs
    · rename_i y x st'
      obtain ⟨e1, e2⟩ := bif_some hs
      rw [hfz] at e2
      rw [cmp_ne] at e1
      exact g1 ih IH e2 (fun h hR => hE l G d _ _ _ x y (of_decide_eq_true e1))
    · cases hs
  | 18 =>
    intro hE hs
    change p_rem ih fz t ls st L = _ at hs
    unfold p_rem at hs
    split at hs
    · rename_i y x st'
      obtain ⟨e1, e2⟩ := bif_some hs
      rw [hfz] at e2
      rw [cmp_ne] at e1
      exact g1 ih IH e2 (fun h hR => hE l G d _ _ _ x y (of_decide_eq_true e1))
    · cases hs
  | 19 =>
    intro hE hs
    change p_put ih a b v t ls st L = _ at hs
    unfold p_put at hs
    split at hs
    · rename_i z x st'
      split at hs
      · rename_i c1 fs hx
        obtain ⟨e1, e2⟩ := bif_some hs
        rw [nth_eq] at hx
        simp only [Bool.and_eq_true, Bool.or_eq_true, cmp_eq, decide_eq_true_eq, Nat.blt_eq] at e1
        obtain ⟨e11, e12, e13⟩ := e1
        obtain rfl := Nat.eq_of_beq_eq_true e11
        refine g2 ih IH e2 hx (fun h hR => ?_)
        have e5 : se rd lb (.inr (c1, stl fs (.inl z) b)) = eO c1 ((fs.map (sv lb)).set b (vI z)) := by
          show (.inr (c1, (stl fs (.inl z) b).map (sv lb)) : PE) = _
          rw [stl_eq, List.map_set]
          rfl
        rw [e5]
        exact hE l G d _ _ _ (lb x) (fs.map (sv lb)) z (hR.2.1 _ _ hx) (by rw [List.length_map]; exact e12) e13
      · cases hs
    · cases hs
  | 20 =>
    intro hE hs
    change p_neg ih fz t ls st L = _ at hs
    unfold p_neg at hs
    split at hs
    · rename_i x st'
      rw [hfz] at hs
      exact g1 ih IH hs (fun h hR => hE l G d _ _ _ x)
    · cases hs
  | 21 =>
    intro hE hs
    change p_dup ih t ls st L = _ at hs
    unfold p_dup at hs
    split at hs
    · rename_i z st'
      exact g1 ih IH hs (fun h hR => hE l G d _ _ _ (sv lb z))
    · cases hs
  | 22 =>
    intro hE hs
    change p_dup2 ih t ls st L = _ at hs
    unfold p_dup2 at hs
    split at hs
    · rename_i z w st'
      exact g1 ih IH hs (fun h hR => hE l G d _ _ _ (sv lb z) (sv lb w))
    · cases hs
  | 23 =>
    intro hE hs
    change p_pop ih t ls st L = _ at hs
    unfold p_pop at hs
    split at hs
    · rename_i z st'
      exact g1 ih IH hs (fun h hR => hE l G d _ _ _ (sv lb z))
    · cases hs
  | 24 =>
    intro hE hs
    change p_alen ih t ls st L = _ at hs
    unfold p_alen at hs
    split at hs
    · rename_i x st'
      split at hs
      · rename_i q N f hx
        obtain ⟨e1, e2⟩ := bif_some hs
        rw [nth_eq] at hx
        obtain rfl := Nat.eq_of_beq_eq_true e1
        exact g1 ih IH e2 (fun h hR => (hE l G d _ _ _).1 (lb x) N (rd f) (hR.2.1 _ _ hx))
      · cases hs
    · rename_i j st'
      obtain ⟨e1, e2⟩ := bif_some hs
      exact g1 ih IH e2 (fun h hR => (hE l G d _ _ _).2 j (Nat.blt_eq.mp e1))
    · cases hs
  | 25 =>
    intro hE hs
    change p_aald ih t ls st L = _ at hs
    unfold p_aald at hs
    split at hs
    · rename_i i x st'
      split at hs
      · rename_i q N f hx
        obtain ⟨e1, e2⟩ := bif_some hs
        rw [nth_eq] at hx
        simp only [Bool.and_eq_true, Bool.or_eq_true] at e1
        have hq : q = 1 ∨ q = 2 ∨ q = 3 := by
          rcases e1.1 with z | z | z
          · exact Or.inl (Nat.eq_of_beq_eq_true z)
          · exact Or.inr (Or.inl (Nat.eq_of_beq_eq_true z))
          · exact Or.inr (Or.inr (Nat.eq_of_beq_eq_true z))
        refine g1 ih IH e2 (fun h hR => ?_)
        have key := hE l G d h (sls lb ls) (st'.map (sv lb)) (lb x) q N (fun j => (f j).map lb) i hq (hR.2.1 _ _ hx) (pin_ok e1.2)
        rw [pin_ix e1.2] at key
        have e6 : sv lb (.inr (.inl (f (ix i)))) = .inr (.inl ((f (ix i)).map lb)) := by cases f (ix i) <;> rfl
        show Tr l G d own cc nL (hpc (drp i0 code)) (hpc (drp t code)) h h (sls lb ls) (sls lb ls) (vI i :: vR (lb x) :: st'.map (sv lb)) (sv lb (.inr (.inl (f (ix i)))) :: st'.map (sv lb))
        rw [e6]
        exact key
      · cases hs
    · cases hs
  | 26 =>
    intro hE hs
    exact g1 ih IH hs (fun h hR => hE l G d _ _ _)
  | 27 =>
    intro hE hs
    change p_max ih t ls st L = _ at hs
    unfold p_max at hs
    split at hs
    · rename_i y x st'
      obtain ⟨e1, e2⟩ := bif_some hs
      have hl8 : (st'.map (sv lb)).length ≤ 8 := by rw [List.length_map]; exact Nat.le_of_ble_eq_true e1
      cases hb : pcmp 2 x y with
      | true =>
        rw [hb] at e2
        refine g1 ih IH e2 (fun h hR => ?_)
        have key := hE l G d h (sls lb ls) (st'.map (sv lb)) x y hl8
        rw [if_pos (of_decide_eq_true (cmp_lt.symm.trans hb))] at key
        exact key
      | false =>
        rw [hb] at e2
        refine g1 ih IH e2 (fun h hR => ?_)
        have key := hE l G d h (sls lb ls) (st'.map (sv lb)) x y hl8
        rw [if_neg (of_decide_eq_false (cmp_lt.symm.trans hb))] at key
        exact key
    · cases hs
  | 28 =>
    intro hE hs
    change p_min ih t ls st L = _ at hs
    unfold p_min at hs
    split at hs
    · rename_i y x st'
      obtain ⟨e1, e2⟩ := bif_some hs
      have hl8 : (st'.map (sv lb)).length ≤ 8 := by rw [List.length_map]; exact Nat.le_of_ble_eq_true e1
      cases hb : pcmp 2 y x with
      | true =>
        rw [hb] at e2
        refine g1 ih IH e2 (fun h hR => ?_)
        have key := hE l G d h (sls lb ls) (st'.map (sv lb)) x y hl8
        rw [if_pos (of_decide_eq_true (cmp_lt.symm.trans hb))] at key
        exact key
      | false =>
        rw [hb] at e2
        refine g1 ih IH e2 (fun h hR => ?_)
        have key := hE l G d h (sls lb ls) (st'.map (sv lb)) x y hl8
        rw [if_neg (of_decide_eq_false (cmp_lt.symm.trans hb))] at key
        exact key
    · cases hs
  | 29 =>
    intro hE hs
    change p_abs ih fz t ls st L = _ at hs
    unfold p_abs at hs
    split at hs
    · rename_i x st'
      obtain ⟨e1, e2⟩ := bif_some hs
      have hl8 : (st'.map (sv lb)).length ≤ 8 := by rw [List.length_map]; exact Nat.le_of_ble_eq_true e1
      cases hb : pcmp 3 x 0 with
      | true =>
        rw [hb] at e2
        refine g1 ih IH e2 (fun h hR => ?_)
        have key := hE l G d h (sls lb ls) (st'.map (sv lb)) x hl8
        rw [if_pos (of_decide_eq_true (cmp_ge.symm.trans hb))] at key
        exact key
      | false =>
        rw [hb] at e2
        simp only [cond_false, hfz] at e2
        refine g1 ih IH e2 (fun h hR => ?_)
        have key := hE l G d h (sls lb ls) (st'.map (sv lb)) x hl8
        rw [if_neg (of_decide_eq_false (cmp_ge.symm.trans hb))] at key
        exact key
    · cases hs
  | 30 =>
    intro hE hs
    change p_tab ih a b tg ls st L = _ at hs
    unfold p_tab at hs
    split at hs
    · rename_i x st'
      cases hb : (decide (x.toInt < (a : Int)) || decide ((b : Int) < x.toInt)) with
      | true =>
        rw [hb] at hs
        simp only [cond_true] at hs
        split at hs
        · rename_i k hk
          simp only [Bool.or_eq_true, decide_eq_true_eq] at hb
          exact g1 ih IH hs (fun h hR => (hE l G d _ _ _ x).1 hb k hk)
        · cases hs
      | false =>
        rw [hb] at hs
        simp only [cond_false] at hs
        split at hs
        · rename_i k hk
          simp only [Bool.or_eq_false_iff, decide_eq_false_iff_not] at hb
          exact g1 ih IH hs (fun h hR => (hE l G d _ _ _ x).2 (fun q => q.elim hb.1 hb.2) k hk)
        · cases hs
    · cases hs
  | 31 =>
    intro hE hs
    change p_astore ih a t ls st L = _ at hs
    unfold p_astore at hs
    split at hs
    · rename_i x st'
      refine g1 ih IH hs (fun h hR => ?_)
      rw [stl_eq, sls_set]
      cases x with
      | none => exact hE l G d _ _ _ none
      | some x => exact hE l G d _ _ _ (some (lb x))
    · cases hs
  | _ + 32 =>
    intro hE hs
    cases hs
theorem run_ok (hwr : ∀ a k z, rd (wr a k z) = upd (rd a) k z) (hfz : ∀ x k, fz x k = k x) (hi : LbI lb N0) (hc : hCall rd l G d H lb N0 call) (hcode : OKs (eOK own cc nL ret code) code) (X : pX p s m args c G nL cc own) (hr : meth.sig.returnType = ret) (hlk : meth.locks = false) {r : Option PV} {L' : QH A} (hΦ : ∀ h', Rep rd H lb N0 L' h' → Φ (r.map (sv lb)) h') : ∀ (F i : Nat) (ls : List (Option PV)) (st : List PV) (L : QH A), run (mkc rd wr fz call code 0) F i ls st L = some (r, L') → GL rd l G d nL H lb N0 p e s m args below meth c Φ code i ls st L := by
  intro F
  induction F with
  | zero => intro i ls st L h; cases h
  | succ F ih =>
    intro i ls st L h
    have h' : (match nth (mkc rd wr fz call code 0) i with
      | some f => f (run (mkc rd wr fz call code 0) F) ls st L
      | none => none) = some (r, L') := h
    cases hs : nth (mkc rd wr fz call code 0) i with
    | none => rw [hs] at h'; cases h'
    | some f =>
      rw [hs] at h'
      obtain ⟨pc, op, a, b, v, tg, h1, h2⟩ := mkc_nth code 0 i f hs
      subst h2
      rw [Nat.zero_add] at h'
      exact pdo_ok hwr hfz hi hc X hr hlk hΦ _ ih (hpc_drp h1) (OKs_nth i code _ hcode h1) h'
end PSound
