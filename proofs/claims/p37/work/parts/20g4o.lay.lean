variable {bb : Int32}
theorem lay_lo {D : Nat} {K f : FA} {a s l : Int32} (h : a < 0) : MC (D + 1) 35 [vR 0, vI a] (gL bb K f s l) (some (vI 0), gL bb K f s l) := by
  refine mc_of rfl ?_
  show Rn (D) 35 0 [some (vR 0), some (vI a), none, none, none, none, none] [] (gL bb K f s l) _
  refine rb (i' := 1) (ls' := [some (vR 0), some (vI a), none, none, none, none, none]) (st' := [vI a]) (L' := (gL bb K f s l)) 1 (fun _ _ => rfl) ?_
  refine rn_if (b := 2) (x := a) (y := 0) (it := 5) (ie := 2) (ls' := [some (vR 0), some (vI a), none, none, none, none, none]) (st' := []) (fun Fu F => bq_35_1 _ Fu F _ _ _ _) (fun _ => ?_) (fun k1 => absurd (show (a : Int32) < (0 : Int32) from h) (of_decide_eq_false (cmp_lt.symm.trans k1)))
  refine rb (i' := 6) (ls' := [some (vR 0), some (vI a), none, none, none, none, none]) (st' := [vI 0]) (L' := (gL bb K f s l)) 1 (fun _ _ => rfl) ?_
  exact rn_fin (fun _ _ => rfl) rfl
