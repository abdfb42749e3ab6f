/-! lines of the other texts, in themselves -/
/-- a token that must be c (0), a number below c (1) -/
def pIt (q c : Nat) (x : TT) : (Nat × Nat) ⊕ List Nat := if q = 0 then (if x.2.1 = c then .inr [] else .inl (1, x.1)) else if x.2.1 = 1 then (if x.2.2 < c then .inr [x.2.2] else .inl (2, x.1)) else .inl (1, x.1)
def pxI : List (Nat × Nat) → List TT → (Nat × Nat) ⊕ (List Nat × List TT)
  | [], ts => .inr ([], ts)
  | _ :: _, [] => .inl (0, 0)
  | (q, c) :: P, x :: r => match pIt q c x with
    | .inl e => .inl e
    | .inr l => match pxI P r with
      | .inl e => .inl e
      | .inr (l', r') => .inr (l ++ l', r')
theorem pxI_e {q c : Nat} {P : List (Nat × Nat)} {x : TT} {r : List TT} {e : Nat × Nat} (h : pIt q c x = .inl e) : pxI ((q, c) :: P) (x :: r) = .inl e := by
  rw [pxI, h]
theorem pxI_s {q c : Nat} {P : List (Nat × Nat)} {x : TT} {r : List TT} {l : List Nat} (h : pIt q c x = .inr l) : pxI ((q, c) :: P) (x :: r) = match pxI P r with
      | .inl e => .inl e
      | .inr (l', r') => .inr (l ++ l', r') := by
  rw [pxI, h]
theorem pIt_0 {c : Nat} {x : TT} (h : x.2.1 = c) : pIt 0 c x = .inr [] := (if_pos rfl).trans (if_pos h)
theorem pIt_0e {c : Nat} {x : TT} (h : ¬ x.2.1 = c) : pIt 0 c x = .inl (1, x.1) := (if_pos rfl).trans (if_neg h)
theorem pIt_1 {c : Nat} {x : TT} (h : x.2.1 = 1) (h2 : x.2.2 < c) : pIt 1 c x = .inr [x.2.2] := (if_neg (by decide)).trans ((if_pos h).trans (if_pos h2))
theorem pIt_1e {c : Nat} {x : TT} (h : ¬ x.2.1 = 1) : pIt 1 c x = .inl (1, x.1) := (if_neg (by decide)).trans (if_neg h)
theorem pIt_1f {c : Nat} {x : TT} (h : x.2.1 = 1) (h2 : ¬ x.2.2 < c) : pIt 1 c x = .inl (2, x.1) := (if_neg (by decide)).trans ((if_pos h).trans (if_neg h2))
abbrev PLS : Type := (Nat × Nat) ⊕ (List Nat × List TT)
/-- a further item, whose numbers come behind -/
def pJ (l : List Nat) (p : PLS) : PLS := match p with
  | .inl e => .inl e
  | .inr (l', r) => .inr (l ++ l', r)
/-- the rest of a line of ways (1), sky (2), twins (3), with m voters -/
def pXw (m : Nat) (ts : List TT) : PLS := pxI [(1, m), (0, 318), (1, 12), (0, 319), (1, 12), (0, 59)] ts
def pXm (ts : List TT) : PLS := match ts with
  | [] => .inl (0, 0)
  | x :: r => if x.2.1 = 322 then pJ [1] (pxI [(0, 59)] r) else if x.2.1 = 323 then pJ [2] (pxI [(0, 59)] r) else if x.2.1 = 324 then pJ [0] (pxI [(0, 59)] r) else .inl (1, x.1)
def pXq (m : Nat) (ts : List TT) : PLS := match ts with
  | [] => .inl (0, 0)
  | y :: r => if y.2.1 = 307 then pJ [0] (pxI [(1, 10), (0, 318), (1, 12), (0, 59)] r) else if y.2.1 = 321 then pJ [1] (pxI [(0, 318), (1, 12), (1, 12), (1, 12), (0, 59)] r) else if y.2.1 = 303 then pJ [2] (match pxI [(1, m)] r with
      | .inl e => .inl e
      | .inr (l, r') => pJ l (pXm r')) else .inl (1, y.1)
def pXs (m : Nat) (ts : List TT) : PLS := match pxI [(1, 1000)] ts with
  | .inl e => .inl e
  | .inr (l, r) => pJ l (pXq m r)
def pXb (m a : Nat) (ts : List TT) : PLS := match ts with
  | [] => .inl (0, 0)
  | y :: r => if y.2.1 = 1 ∧ y.2.2 = a then .inl (2, y.1) else pxI [(1, m), (0, 59)] (y :: r)
def pXt (m : Nat) (ts : List TT) : PLS := match pxI [(1, m), (0, 325)] ts with
  | .inl e => .inl e
  | .inr (l, r) => pJ l (pXb m (l.headD 0) r)
def pX4 (k m : Nat) (ts : List TT) : PLS := if k = 1 then pXw m ts else if k = 2 then pXs m ts else pXt m ts
/-- lines, behind k lines -/
def pXL (k m : Nat) : Nat → Nat → List TT → (Nat × Nat) ⊕ List (List Nat)
  | 0, _, _ => .inl (9, 0)
  | _ + 1, _, [] => .inl (0, 0)
  | n + 1, i, x :: r => if x.2.1 = 2 then .inr [] else if ¬ x.2.1 = (if k = 2 then 320 else 317) then .inl (1, x.1) else if 16 ≤ i then .inl (3, x.1) else match pX4 k m r with
    | .inl e => .inl e
    | .inr (l, r') => match pXL k m n (i + 1) r' with
      | .inl e => .inl e
      | .inr L => .inr (l :: L)
