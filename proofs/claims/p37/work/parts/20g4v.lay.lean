variable {bb : Int32}
theorem gm_f {D : Nat} {K f f1 : FA} {a b s l s1 l1 : Int32} {x : Int32} {K' : FA} (h0 : ¬ b < 0) (h : ¬ 1 < b) (hb : ¬ b = 0) (hL : MC (D + 1) 35 [vR 0, vI a] (gL bb K f s l) (some (vI 1), gL bb K f1 s1 l1)) (hV : MC (D + 1) 43 [vR 0] (gL bb K f1 s1 l1) (some (vI x), gL bb K' f1 s1 l1)) : MC (D + 1 + 1) 34 [vR 3, vI a, vI b] (gL bb K f s l) (some (vI x), gL bb K' f1 s1 l1) := by
  refine mc_of rfl ?_
  show Rn (D + 1) 34 0 [some (vR 3), some (vI a), some (vI b)] [] (gL bb K f s l) _
  refine rb (i' := 1) (ls' := [some (vR 3), some (vI a), some (vI b)]) (st' := [vI b]) (L' := (gL bb K f s l)) 1 (fun _ _ => rfl) ?_
  refine rn_if (b := 2) (x := b) (y := 0) (it := 10) (ie := 2) (ls' := [some (vR 3), some (vI a), some (vI b)]) (st' := []) (fun Fu F => bq_34_1 _ Fu F _ _ _ _) (fun k1 => absurd (of_decide_eq_true (cmp_lt.symm.trans k1)) (show ¬ ((b : Int32) < (0 : Int32)) from h0)) (fun _ => ?_)
  refine rb (i' := 4) (ls' := [some (vR 3), some (vI a), some (vI b)]) (st' := [vI 1, vI b]) (L' := (gL bb K f s l)) 2 (fun _ _ => rfl) ?_
  refine rn_if (b := 4) (x := b) (y := 1) (it := 10) (ie := 5) (ls' := [some (vR 3), some (vI a), some (vI b)]) (st' := []) (fun Fu F => bq_34_4 _ Fu F _ _ _ _ _) (fun k2 => absurd (of_decide_eq_true (cmp_gt.symm.trans k2)) (show ¬ ((1 : Int32) < (b : Int32)) from h)) (fun _ => ?_)
  refine rb (i' := 8) (ls' := [some (vR 3), some (vI a), some (vI b)]) (st' := [vI a, vR 0]) (L' := (gL bb K f s l)) 3 (fun _ _ => rfl) ?_
  refine rn_call (a := 35) (As := [vR 0, vI a]) (t := 9) (ls' := [some (vR 3), some (vI a), some (vI b)]) (st' := []) (fun Fu F => cq_34_8 (evF Fu _) F _ _ _ _ _ _) (hL) ?_
  refine rn_eq (ls' := [some (vR 3), some (vI a), some (vI b)]) (st' := [vI 1]) (L' := (gL bb K f1 s1 l1)) rfl rfl rfl ?_
  refine rn_if (b := 1) (x := 1) (y := 0) (it := 12) (ie := 10) (ls' := [some (vR 3), some (vI a), some (vI b)]) (st' := []) (fun Fu F => bq_34_9 _ Fu F _ _ _ _) (fun _ => ?_) (fun k3 => absurd (show ¬ (1 : Int32) = (0 : Int32) from by decide) (of_decide_eq_false (cmp_ne.symm.trans k3)))
  refine rb (i' := 13) (ls' := [some (vR 3), some (vI a), some (vI b)]) (st' := [vI b]) (L' := (gL bb K f1 s1 l1)) 1 (fun _ _ => rfl) ?_
  refine rn_if (b := 1) (x := b) (y := 0) (it := 18) (ie := 14) (ls' := [some (vR 3), some (vI a), some (vI b)]) (st' := []) (fun Fu F => bq_34_13 _ Fu F _ _ _ _) (fun _ => ?_) (fun k4 => absurd (show ¬ (b : Int32) = (0 : Int32) from hb) (of_decide_eq_false (cmp_ne.symm.trans k4)))
  refine rb (i' := 20) (ls' := [some (vR 3), some (vI a), some (vI b)]) (st' := [vR 0]) (L' := (gL bb K f1 s1 l1)) 2 (fun _ _ => rfl) ?_
  refine rn_call (a := 43) (As := [vR 0]) (t := 21) (ls' := [some (vR 3), some (vI a), some (vI b)]) (st' := []) (fun Fu F => cq_34_20 (evF Fu _) F _ _ _ _ _) (hV) ?_
  refine rn_eq (ls' := [some (vR 3), some (vI a), some (vI b)]) (st' := [vI x]) (L' := (gL bb K' f1 s1 l1)) rfl rfl rfl ?_
  exact rn_fin (fun _ _ => rfl) rfl
