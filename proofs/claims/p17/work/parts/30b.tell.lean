/-! telling, on the class's side -/
theorem pab (ih : QK FA) (t : Nat) (x : Int32) (ls : List (Option PV)) (st : List PV) (L : QH FA) (h : Nat.ble st.length 8 = true) : p_abs ih fzF t ls (vI x :: st) L = bif pcmp 3 x 0 then ih t ls (vI x :: st) L else ih t ls (vI (0 - x) :: st) L := by
  show (bif Nat.ble st.length 8 then (bif pcmp 3 x 0 then ih t ls (vI x :: st) L else ih t ls (vI (0 - x) :: st) L) else none) = _
  rw [h, cond_true]
theorem pmn (ih : QK FA) (t : Nat) (x y : Int32) (ls : List (Option PV)) (st : List PV) (L : QH FA) (h : Nat.ble st.length 8 = true) : p_min ih t ls (vI y :: vI x :: st) L = bif pcmp 2 y x then ih t ls (vI y :: st) L else ih t ls (vI x :: st) L := by
  show (bif Nat.ble st.length 8 then (bif pcmp 2 y x then ih t ls (vI y :: st) L else ih t ls (vI x :: st) L) else none) = _
  rw [h, cond_true]
theorem pmxr (ih : QK FA) (t : Nat) (x y : Int32) (ls : List (Option PV)) (st : List PV) (L : QH FA) (h : Nat.ble st.length 8 = true) : p_max ih t ls (vI y :: vI x :: st) L = bif pcmp 2 x y then ih t ls (vI y :: st) L else ih t ls (vI x :: st) L := by
  show (bif Nat.ble st.length 8 then (bif pcmp 2 x y then ih t ls (vI y :: st) L else ih t ls (vI x :: st) L) else none) = _
  rw [h, cond_true]
section TLs
variable {u : Nat → Option Nat}
end TLs
