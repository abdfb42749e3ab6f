variable {bb : Int32}
theorem lay_hi {D : Nat} {K f : FA} {a s l : Int32} (h0 : ¬ a < 0) (h : ¬ a ≤ 222222222) : MC (D + 1) 35 [vR 0, vI a] (gL bb K f s l) (some (vI 0), gL bb K f s l) := by
  refine mc_of rfl ?_
  show Rn (D) 35 0 [some (vR 0), some (vI a), none, none, none, none, none] [] (gL bb K f s l) _
  refine rb (i' := 1) (ls' := [some (vR 0), some (vI a), none, none, none, none, none]) (st' := [vI a]) (L' := (gL bb K f s l)) 1 (fun _ _ => rfl) ?_
  refine rn_if (b := 2) (x := a) (y := 0) (it := 5) (ie := 2) (ls' := [some (vR 0), some (vI a), none, none, none, none, none]) (st' := []) (fun Fu F => bq_35_1 _ Fu F _ _ _ _) (fun k1 => absurd (of_decide_eq_true (cmp_lt.symm.trans k1)) (show ¬ ((a : Int32) < (0 : Int32)) from h0)) (fun _ => ?_)
  refine rb (i' := 4) (ls' := [some (vR 0), some (vI a), none, none, none, none, none]) (st' := [vI 222222222, vI a]) (L' := (gL bb K f s l)) 2 (fun _ _ => rfl) ?_
  refine rn_if (b := 5) (x := a) (y := 222222222) (it := 7) (ie := 5) (ls' := [some (vR 0), some (vI a), none, none, none, none, none]) (st' := []) (fun Fu F => bq_35_4 _ Fu F _ _ _ _ _) (fun k2 => absurd (of_decide_eq_true (cmp_le.symm.trans k2)) (show ¬ ((a : Int32) ≤ (222222222 : Int32)) from h)) (fun _ => ?_)
  refine rb (i' := 6) (ls' := [some (vR 0), some (vI a), none, none, none, none, none]) (st' := [vI 0]) (L' := (gL bb K f s l)) 1 (fun _ _ => rfl) ?_
  exact rn_fin (fun _ _ => rfl) rfl
