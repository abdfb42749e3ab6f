/-- the first t of the other's, then one's own -/
def cpf (g f : Nat → Int32) (t : Nat) : Nat → Int32 := fun j => if j < t then g j else f j
theorem cpf_0 {g f : Nat → Int32} : cpf g f 0 = f := by
  funext j
  exact if_neg (Nat.not_lt_zero j)
theorem cpf_s {g f : Nat → Int32} {t : Nat} : upd (cpf g f t) t (g t) = cpf g f (t + 1) := by
  funext j
  unfold upd cpf
  by_cases e : j = t
  · subst e
    simp
  · simp only [e, if_false]
    by_cases q : j < t
    · rw [if_pos q, if_pos (by omega)]
    · rw [if_neg q, if_neg (by omega)]
theorem t_take (l : Launch) (G : PG) {h : PH} {a da b db m N : Nat} {f g : Nat → Int32} {x : Int32} (ha : h[a]? = some (eO 9 [vR da, vI x])) (hda : h[da]? = some (eI N f)) (hb : h[b]? = some (eO 9 [vR db, vI (nI m)])) (hdb : h[db]? = some (eI N g)) (n1 : a ≠ da) (n2 : a ≠ b) (n3 : a ≠ db) (n4 : da ≠ b) (n5 : da ≠ db) (hN : N ≤ 400) (hm : m ≤ N) : PMet l G yX9_takeList cX9_takeList 3 none 2 0 0 [vR a, vR b] h (qV (fun h' => h' = (h.set a (eO 9 [vR da, vI (nI m)])).set da (eI N (cpf g f m)))) := by
  refine PMet.intro (by decide) (show 2 ≤ 3 by decide) ?_
  intro p e s m' args below meth c X hr hlk hnm
  have hla : a < h.length := (List.getElem?_eq_some_iff.mp ha).1
  have hlda : da < h.length := (List.getElem?_eq_some_iff.mp hda).1
  refine r_aload_n X dX9_takeList_0 rfl ?_
  refine r_aload_n X dX9_takeList_1 rfl ?_
  refine r_get X fg_X9_9 dX9_takeList_2 hb rfl ?_
  refine r_aload_n X dX9_takeList_5 rfl ?_
  refine r_get X fg_X9_21 dX9_takeList_6 ha rfl ?_
  refine r_alen (v := nI N) X dX9_takeList_9 hda rfl ?_
  refine r_min (v := nI m) X ks_X9_25.1.1 dX9_takeList_10 rfl (if_neg (fun q => by have := (ltI (by omega) (by omega)).mp q; omega)) ?_
  refine r_put X fp_X9_9 dX9_takeList_13 ha (show 1 < 2 by decide) rfl rfl ?_
  have loop : ∀ r t : Nat, t + r = m → PW p l e (rmD 2 0 0) s m' args below meth c G 3 (MQ below (pQ G (qV (fun h' => h' = (h.set a (eO 9 [vR da, vI (nI m)])).set da (eI N (cpf g f m))))) args s 0 0 (pF G)) 0 0 ((h.set a (eO 9 [vR da, vI (nI m)])).set da (eI N (cpf g f t))) 18 [some (vR a), some (vR b), some (vI (nI t))] [] := by
    intro r
    induction r with
    | zero =>
      intro t ht
      have e0 : t = m := by omega
      subst e0
      have ka : ((h.set a (eO 9 [vR da, vI (nI t)])).set da (eI N (cpf g f t)))[a]? = some (eO 9 [vR da, vI (nI t)]) := by
        rw [List.getElem?_set_ne (fun e => n1 e.symm)]
        exact List.getElem?_set_self hla
      refine r_iload_n X dX9_takeList_18 rfl ?_
      refine r_aload_n X dX9_takeList_19 rfl ?_
      refine r_get X fg_X9_9 dX9_takeList_20 ka rfl ?_
      refine r_icmp_ge_t (tgt := 43) X dX9_takeList_23 rfl ((leI (by omega) (by omega)).mpr (Nat.le_refl _)) ?_
      exact r_ret_v X hr hlk dX9_takeList_43 (Nat.le_refl _) (Nat.le_refl _) ⟨rfl, rfl⟩
    | succ r ih =>
      intro t ht
      have ka : ((h.set a (eO 9 [vR da, vI (nI m)])).set da (eI N (cpf g f t)))[a]? = some (eO 9 [vR da, vI (nI m)]) := by
        rw [List.getElem?_set_ne (fun e => n1 e.symm)]
        exact List.getElem?_set_self hla
      have kda : ((h.set a (eO 9 [vR da, vI (nI m)])).set da (eI N (cpf g f t)))[da]? = some (eI N (cpf g f t)) := List.getElem?_set_self (by rw [List.length_set]; exact hlda)
      have kb : ((h.set a (eO 9 [vR da, vI (nI m)])).set da (eI N (cpf g f t)))[b]? = some (eO 9 [vR db, vI (nI m)]) := by
        rw [List.getElem?_set_ne n4, List.getElem?_set_ne n2]
        exact hb
      have kdb : ((h.set a (eO 9 [vR da, vI (nI m)])).set da (eI N (cpf g f t)))[db]? = some (eI N g) := by
        rw [List.getElem?_set_ne n5, List.getElem?_set_ne n3]
        exact hdb
      refine r_iload_n X dX9_takeList_18 rfl ?_
      refine r_aload_n X dX9_takeList_19 rfl ?_
      refine r_get X fg_X9_9 dX9_takeList_20 ka rfl ?_
      refine r_icmp_ge_f (tgt := 43) X dX9_takeList_23 rfl (fun q => by have := (leI (by omega) (by omega)).mp q; omega) ?_
      refine r_aload_n X dX9_takeList_26 rfl ?_
      refine r_get X fg_X9_21 dX9_takeList_27 ka rfl ?_
      refine r_iload_n X dX9_takeList_30 rfl ?_
      refine r_aload_n X dX9_takeList_31 rfl ?_
      refine r_iload_n X dX9_takeList_32 rfl ?_
      refine r_V1i X kv_X9_28 dX9_takeList_33 kb rfl (t_item l G kb kdb hN hm (show t < m by omega)) rfl (fun v h' hv => ?_)
      obtain ⟨rfl, rfl⟩ := hv
      refine r_iast X dX9_takeList_36 kda (vp_in_nI (by omega) (by omega)) ?_
      rw [clamp_nI (by omega), List.set_set, cpf_s]
      refine r_iinc (v := nI (t + 1)) X dX9_takeList_37 rfl (nI_add t 1) (by decide) ?_
      refine r_goto (tgt := 18) X dX9_takeList_40 rfl ?_
      exact ih (t + 1) (by omega)
  refine r_iconst (v := nI 0) X dX9_takeList_16 rfl ?_
  refine r_istore_n X dX9_takeList_17 (by decide) ?_
  have e0 : (h.set a (eO 9 [vR da, vI (nI m)])).set da (eI N (cpf g f 0)) = h.set a (eO 9 [vR da, vI (nI m)]) := by
    rw [cpf_0]
    exact set_id (by rw [List.getElem?_set_ne n1]; exact hda)
  have := loop m 0 (by omega)
  rw [e0] at this
  exact this
