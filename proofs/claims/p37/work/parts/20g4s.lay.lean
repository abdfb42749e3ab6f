variable {bb : Int32}
theorem gm_b2 {D : Nat} {K f : FA} {a b s l : Int32} (h0 : ¬ b < 0) (h : 1 < b) : MC (D + 1) 34 [vR 3, vI a, vI b] (gL bb K f s l) (some (vI (-10)), gL bb K f s l) := by
  refine mc_of rfl ?_
  show Rn (D) 34 0 [some (vR 3), some (vI a), some (vI b)] [] (gL bb K f s l) _
  refine rb (i' := 1) (ls' := [some (vR 3), some (vI a), some (vI b)]) (st' := [vI b]) (L' := (gL bb K f s l)) 1 (fun _ _ => rfl) ?_
  refine rn_if (b := 2) (x := b) (y := 0) (it := 10) (ie := 2) (ls' := [some (vR 3), some (vI a), some (vI b)]) (st' := []) (fun Fu F => bq_34_1 _ Fu F _ _ _ _) (fun k1 => absurd (of_decide_eq_true (cmp_lt.symm.trans k1)) (show ¬ ((b : Int32) < (0 : Int32)) from h0)) (fun _ => ?_)
  refine rb (i' := 4) (ls' := [some (vR 3), some (vI a), some (vI b)]) (st' := [vI 1, vI b]) (L' := (gL bb K f s l)) 2 (fun _ _ => rfl) ?_
  refine rn_if (b := 4) (x := b) (y := 1) (it := 10) (ie := 5) (ls' := [some (vR 3), some (vI a), some (vI b)]) (st' := []) (fun Fu F => bq_34_4 _ Fu F _ _ _ _ _) (fun _ => ?_) (fun k2 => absurd (show (1 : Int32) < (b : Int32) from h) (of_decide_eq_false (cmp_gt.symm.trans k2)))
  refine rb (i' := 11) (ls' := [some (vR 3), some (vI a), some (vI b)]) (st' := [vI ((-10))]) (L' := (gL bb K f s l)) 1 (fun _ _ => rfl) ?_
  exact rn_fin (fun _ _ => rfl) rfl
