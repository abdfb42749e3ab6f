variable {bb : Int32}
theorem lay_in {D A : Nat} {K f : FA} {s l : Int32} {res : Option PV × QH FA} (hA : A ≤ 222222222) (hk : Rn D 35 18 [some (vR 0), some (vI (nI A)), some (vI (nI A)), some (vI 0), some (vI 0), some (vI 8), none] [] (gL bb K f 0 l) res) : Rn D 35 0 [some (vR 0), some (vI (nI A)), none, none, none, none, none] [] (gL bb K f s l) res := by
  refine rb (i' := 1) (ls' := [some (vR 0), some (vI (nI A)), none, none, none, none, none]) (st' := [vI (nI A)]) (L' := (gL bb K f s l)) 1 (fun _ _ => rfl) ?_
  refine rn_if (b := 2) (x := nI A) (y := 0) (it := 5) (ie := 2) (ls' := [some (vR 0), some (vI (nI A)), none, none, none, none, none]) (st' := []) (fun Fu F => bq_35_1 _ Fu F _ _ _ _) (fun k1 => absurd (of_decide_eq_true (cmp_lt.symm.trans k1)) (show ¬ ((nI A : Int32) < (0 : Int32)) from nI_pos (by omega))) (fun _ => ?_)
  refine rb (i' := 4) (ls' := [some (vR 0), some (vI (nI A)), none, none, none, none, none]) (st' := [vI 222222222, vI (nI A)]) (L' := (gL bb K f s l)) 2 (fun _ _ => rfl) ?_
  refine rn_if (b := 5) (x := nI A) (y := 222222222) (it := 7) (ie := 5) (ls' := [some (vR 0), some (vI (nI A)), none, none, none, none, none]) (st' := []) (fun Fu F => bq_35_4 _ Fu F _ _ _ _ _) (fun _ => ?_) (fun k2 => absurd (show (nI A : Int32) ≤ (222222222 : Int32) from nI_le hA (by decide)) (of_decide_eq_false (cmp_le.symm.trans k2)))
  refine rb (i' := 18) (ls' := [some (vR 0), some (vI (nI A)), some (vI (nI A)), some (vI 0), some (vI 0), some (vI 8), none]) (st' := []) (L' := (gL bb K f 0 l)) 11 (fun _ _ => rfl) ?_
  exact hk
