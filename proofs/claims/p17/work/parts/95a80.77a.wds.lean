/-! the reference's constructor: its words exactly -/
def wdsL : List Int32 := [32, 99, 111, 109, 101, 115, 32, 109, 101, 108, 116, 115, 32, 119, 101, 105, 103, 104, 115, 32, 119, 104, 101, 110, 32, 111, 114, 32, 97, 110, 100, 32, 110, 111, 116, 32, 109, 105, 110, 100, 32, 112, 114, 101, 115, 115, 32, 104, 101, 105, 103, 104, 116, 32, 100, 101, 112, 116, 104, 32, 104, 101, 97, 116, 32, 104, 111, 117, 114, 32, 114, 111, 119, 32, 98, 101, 115, 105, 100, 101, 32, 99, 97, 109, 101, 32, 100, 97, 121, 32, 118, 111, 116, 101, 114, 32, 97, 116, 32, 116, 111, 32, 111, 110, 32, 112, 117, 116, 116, 121, 32, 102, 111, 114, 32, 97, 103, 97, 105, 110, 115, 116, 32, 110, 111, 110, 101, 32, 116, 119, 105, 110, 32]
def wdsF (j : Nat) : Int32 := wdsL.getD j 0
def WDS (k : Nat) (g : Nat → Int32) : Prop := ∀ j, j < k → g j = wdsF j
theorem WDS_0 (g : Nat → Int32) : WDS 0 g := fun j hj => absurd hj (Nat.not_lt_zero j)
section ARk
variable {p : Program} {l : Launch} {e : Env} {R : Room} {s : State} {m : MethodId} {args : Array Value} {below : List Frame} {meth : Method} {c : Code} {G : PG} {nL : Nat} {Q : State → Prop} {cells slots : Nat} {h0 L : PH} {n pc : Nat} {ls : List (Option PV)} {st : List PV} {cc : ByteArray} {own : String}
theorem a_iast_k (k : Nat) (X : pX p s m args c G nL cc own) (hn : h0.length = n) {a N : Nat} {f : Nat → Int32} {i x : Int32} (hf : WDS k f) (hd : decode cc pc = .ok (.iastore, 1)) (hh : L[a]? = some (eI N f)) (hin : vp_in i N) (hi : i.toNatClampNeg = k) (hx : x = wdsF k) (kk : ∀ g : Nat → Int32, WDS (k + 1) g → PW p l e R s m args below meth c G nL Q cells slots (h0 ++ L.set a (eI N g)) (pc + 1) ls st) : PW p l e R s m args below meth c G nL Q cells slots (h0 ++ L) pc ls (vI x :: vI i :: vR (n + a) :: st) := a_iast X hn hd hh hin (kk _ (by
  rw [hi, hx]
  intro j hj
  by_cases q : j = k
  · rw [q]
    exact pk_us
  · exact (pk_un q).trans (hf j (by omega))))
end ARk
set_option maxRecDepth 100000 in
set_option maxHeartbeats 4000000 in
theorem c_X12_initW (l : Launch) (G : PG) (h0 : PH) (n : Nat) (hn : h0.length = n)  : PMet l G yX12_init cX12_init 1 none 1 42 32760 [vR (n + 0)] (h0 ++ [eO 12 [vI 0, vN, vN, vI 0, vN, vI 0, vI 0, vN, vN, vN, vN, vN, vI 0, vI 0, vI 0, vI 0, vI 0, vN, vN, vN, vN, vN, vN, vN, vN, vI 0, vI 0, vI 0, vN, vI 0, vI 0, vI 0, vI 0, vI 0, vI 0, vN, vI 0, vN, vI 0, vN, vN, vN, vN, vI 0, vN, vN, vI 0, vN, vN, vN, vI 0, vN, vI 0, vN, vI 0, vN, vN, vI 0, vN, vN, vN, vI 0, vN, vI 0, vN, vI 0, vN, vN, vN, vN, vI 0, vI 0, vI 0, vI 0, vI 0, vN]]) (qV (fun h' => ∃ wf : Nat → Int32, WDS 133 wf ∧ h' = h0 ++ [eO 12 [vI 0, vR (n + 1), vR (n + 2), vI 0, vR (n + 3), vI 0, vI 0, vR (n + 4), vR (n + 5), vR (n + 6), vR (n + 7), vR (n + 8), vI 0, vI 0, vI 0, vI 0, vI 0, vR (n + 9), vR (n + 10), vR (n + 11), vR (n + 12), vR (n + 13), vR (n + 14), vR (n + 15), vR (n + 16), vI 0, vI 0, vI 0, vR (n + 17), vI 0, vI 0, vI 0, vI 0, vI ((-1)), vI 0, vR (n + 18), vI 0, vR (n + 19), vI 0, vR (n + 20), vR (n + 21), vR (n + 22), vR (n + 23), vI 0, vR (n + 24), vR (n + 25), vI 0, vR (n + 26), vR (n + 27), vR (n + 28), vI 0, vR (n + 29), vI 0, vR (n + 30), vI 0, vR (n + 31), vR (n + 32), vI 0, vR (n + 33), vR (n + 34), vR (n + 35), vI 0, vR (n + 36), vI 0, vR (n + 37), vI 0, vR (n + 38), vR (n + 39), vR (n + 40), vR (n + 41), vI 0, vI 0, vI 0, vI 0, vI 0, vR (n + 42)], eI 499 (fun _ => 0), eI 2994 (fun _ => 0), eI 499 (fun _ => 0), eI 20 (fun _ => 0), eI 20 (fun _ => 0), eI 20 (fun _ => 0), eI 750 (fun _ => 0), eI 400 (fun _ => 0), eI 133 wf, eI 2 (fun _ => 0), eI 48 (fun _ => 0), eI 48 (fun _ => 0), eI 48 (fun _ => 0), eI 48 (fun _ => 0), eI 1200 (fun _ => 0), eI 1200 (fun _ => 0), eI 40 (fun _ => 0), eI 96 (fun _ => 0), eI 160 (fun _ => 0), eI 40 (fun _ => 0), eI 10 (fun _ => 0), eI 420 (fun _ => 0), eI 144 (fun _ => 0), eI 6 (fun _ => 0), eI 6 (fun _ => 0), eI 16 (fun _ => 0), eI 153 (fun _ => 0), eI 153 (fun _ => 0), eI 15 (fun _ => 0), eI 15 (fun _ => 0), eI 8 (fun _ => 0), eI 401 (fun _ => 0), eI 8 (fun _ => 0), eI 8 (fun _ => 0), eI 256 (fun _ => 0), eI 12 (fun _ => 0), eI 8 (fun _ => 0), eI 8 (fun _ => 0), eI 256 (fun _ => 0), eI 19683 (fun _ => 0), eI 9 (fun _ => 0), eI 2900 (fun _ => 0)])) := by
  refine PMet.intro (by decide) (Nat.le_of_ble_eq_true rfl) ?_
  intro p e s m args below meth c X hr hlk hnm
  refine r_aload_n X dX12_init_0 rfl ?_
  refine r_obji X lo_X12_1 w_oi w_oc dX12_init_1 (Nat.le_of_ble_eq_true rfl) (Nat.le_of_ble_eq_true rfl) ?_
  refine r_aload_n X dX12_init_4 rfl ?_
  refine r_sipush (v := 499) X dX12_init_5 (by decide +kernel) ?_
  refine a_newi (N := 499) (k := 1) X hn dX12_init_8 (by decide +kernel) (by decide +kernel) rfl rfl rfl rfl ?_
  refine a_putF (a := 0) X hn ff_X12_7 hnm dX12_init_10 rfl rfl rfl rfl ?_
  refine r_aload_n X dX12_init_13 rfl ?_
  refine r_sipush (v := 2994) X dX12_init_14 (by decide +kernel) ?_
  refine a_newi (N := 2994) (k := 2) X hn dX12_init_17 (by decide +kernel) (by decide +kernel) rfl rfl rfl rfl ?_
  refine a_putF (a := 0) X hn ff_X12_13 hnm dX12_init_19 rfl rfl rfl rfl ?_
  refine r_aload_n X dX12_init_22 rfl ?_
  refine r_sipush (v := 499) X dX12_init_23 (by decide +kernel) ?_
  refine a_newi (N := 499) (k := 3) X hn dX12_init_26 (by decide +kernel) (by decide +kernel) rfl rfl rfl rfl ?_
  refine a_putF (a := 0) X hn ff_X12_16 hnm dX12_init_28 rfl rfl rfl rfl ?_
  refine r_aload_n X dX12_init_31 rfl ?_
  refine r_bipush (v := 20) X dX12_init_32 (by decide +kernel) ?_
  refine a_newi (N := 20) (k := 4) X hn dX12_init_34 (by decide +kernel) (by decide +kernel) rfl rfl rfl rfl ?_
  refine a_putF (a := 0) X hn ff_X12_19 hnm dX12_init_36 rfl rfl rfl rfl ?_
  refine r_aload_n X dX12_init_39 rfl ?_
  refine r_bipush (v := 20) X dX12_init_40 (by decide +kernel) ?_
  refine a_newi (N := 20) (k := 5) X hn dX12_init_42 (by decide +kernel) (by decide +kernel) rfl rfl rfl rfl ?_
  refine a_putF (a := 0) X hn ff_X12_22 hnm dX12_init_44 rfl rfl rfl rfl ?_
  refine r_aload_n X dX12_init_47 rfl ?_
  refine r_bipush (v := 20) X dX12_init_48 (by decide +kernel) ?_
  refine a_newi (N := 20) (k := 6) X hn dX12_init_50 (by decide +kernel) (by decide +kernel) rfl rfl rfl rfl ?_
  refine a_putF (a := 0) X hn ff_X12_25 hnm dX12_init_52 rfl rfl rfl rfl ?_
  refine r_eq (h' := h0 ++ [eO 12 [vI 0, vR (n + 1), vR (n + 2), vI 0, vR (n + 3), vI 0, vI 0, vR (n + 4), vR (n + 5), vR (n + 6), vN, vN, vI 0, vI 0, vI 0, vI 0, vI 0, vN, vN, vN, vN, vN, vN, vN, vN, vI 0, vI 0, vI 0, vN, vI 0, vI 0, vI 0, vI 0, vI 0, vI 0, vN, vI 0, vN, vI 0, vN, vN, vN, vN, vI 0, vN, vN, vI 0, vN, vN, vN, vI 0, vN, vI 0, vN, vI 0, vN, vN, vI 0, vN, vN, vN, vI 0, vN, vI 0, vN, vI 0, vN, vN, vN, vN, vI 0, vI 0, vI 0, vI 0, vI 0, vN], eI 499 (fun _ => 0), eI 2994 (fun _ => 0), eI 499 (fun _ => 0), eI 20 (fun _ => 0), eI 20 (fun _ => 0), eI 20 (fun _ => 0)]) (ls' := [some (vR (n + 0))]) (st' := []) rfl rfl rfl ?_
  refine r_aload_n X dX12_init_55 rfl ?_
  refine r_sipush (v := 750) X dX12_init_56 (by decide +kernel) ?_
  refine a_newi (N := 750) (k := 7) X hn dX12_init_59 (by decide +kernel) (by decide +kernel) rfl rfl rfl rfl ?_
  refine a_putF (a := 0) X hn ff_X12_28 hnm dX12_init_61 rfl rfl rfl rfl ?_
  refine r_aload_n X dX12_init_64 rfl ?_
  refine r_sipush (v := 400) X dX12_init_65 (by decide +kernel) ?_
  refine a_newi (N := 400) (k := 8) X hn dX12_init_68 (by decide +kernel) (by decide +kernel) rfl rfl rfl rfl ?_
  refine a_putF (a := 0) X hn ff_X12_31 hnm dX12_init_70 rfl rfl rfl rfl ?_
  refine r_aload_n X dX12_init_73 rfl ?_
  refine r_sipush (v := 133) X dX12_init_74 (by decide +kernel) ?_
  refine a_newi (N := 133) (k := 9) X hn dX12_init_77 (by decide +kernel) (by decide +kernel) rfl rfl rfl rfl ?_
  refine r_dup X dX12_init_79 ?_
  refine r_iconst (v := 0) X dX12_init_80 (by decide +kernel) ?_
  refine r_bipush (v := 32) X dX12_init_81 (by decide +kernel) ?_
  refine a_iast_k 0 (a := 9) X hn (WDS_0 _) dX12_init_83 rfl (inK (by decide +kernel)) (by decide) (by decide +kernel) (fun wf hwf => ?_)
  refine r_dup X dX12_init_84 ?_
  refine r_iconst (v := 1) X dX12_init_85 (by decide +kernel) ?_
  refine r_bipush (v := 99) X dX12_init_86 (by decide +kernel) ?_
  refine a_iast_k 1 (a := 9) X hn hwf dX12_init_88 rfl (inK (by decide +kernel)) (by decide) (by decide +kernel) (fun wf hwf => ?_)
  refine r_dup X dX12_init_89 ?_
  refine r_iconst (v := 2) X dX12_init_90 (by decide +kernel) ?_
  refine r_bipush (v := 111) X dX12_init_91 (by decide +kernel) ?_
  refine a_iast_k 2 (a := 9) X hn hwf dX12_init_93 rfl (inK (by decide +kernel)) (by decide) (by decide +kernel) (fun wf hwf => ?_)
  refine r_dup X dX12_init_94 ?_
  refine r_iconst (v := 3) X dX12_init_95 (by decide +kernel) ?_
  refine r_bipush (v := 109) X dX12_init_96 (by decide +kernel) ?_
  refine a_iast_k 3 (a := 9) X hn hwf dX12_init_98 rfl (inK (by decide +kernel)) (by decide) (by decide +kernel) (fun wf hwf => ?_)
  refine r_eq (h' := h0 ++ [eO 12 [vI 0, vR (n + 1), vR (n + 2), vI 0, vR (n + 3), vI 0, vI 0, vR (n + 4), vR (n + 5), vR (n + 6), vR (n + 7), vR (n + 8), vI 0, vI 0, vI 0, vI 0, vI 0, vN, vN, vN, vN, vN, vN, vN, vN, vI 0, vI 0, vI 0, vN, vI 0, vI 0, vI 0, vI 0, vI 0, vI 0, vN, vI 0, vN, vI 0, vN, vN, vN, vN, vI 0, vN, vN, vI 0, vN, vN, vN, vI 0, vN, vI 0, vN, vI 0, vN, vN, vI 0, vN, vN, vN, vI 0, vN, vI 0, vN, vI 0, vN, vN, vN, vN, vI 0, vI 0, vI 0, vI 0, vI 0, vN], eI 499 (fun _ => 0), eI 2994 (fun _ => 0), eI 499 (fun _ => 0), eI 20 (fun _ => 0), eI 20 (fun _ => 0), eI 20 (fun _ => 0), eI 750 (fun _ => 0), eI 400 (fun _ => 0), eI 133 wf]) (ls' := [some (vR (n + 0))]) (st' := [vR (n + 9), vR (n + 0)]) rfl rfl rfl ?_
  refine r_dup X dX12_init_99 ?_
  refine r_iconst (v := 4) X dX12_init_100 (by decide +kernel) ?_
  refine r_bipush (v := 101) X dX12_init_101 (by decide +kernel) ?_
  refine a_iast_k 4 (a := 9) X hn hwf dX12_init_103 rfl (inK (by decide +kernel)) (by decide) (by decide +kernel) (fun wf hwf => ?_)
  refine r_dup X dX12_init_104 ?_
  refine r_iconst (v := 5) X dX12_init_105 (by decide +kernel) ?_
  refine r_bipush (v := 115) X dX12_init_106 (by decide +kernel) ?_
  refine a_iast_k 5 (a := 9) X hn hwf dX12_init_108 rfl (inK (by decide +kernel)) (by decide) (by decide +kernel) (fun wf hwf => ?_)
  refine r_dup X dX12_init_109 ?_
  refine r_bipush (v := 6) X dX12_init_110 (by decide +kernel) ?_
  refine r_bipush (v := 32) X dX12_init_112 (by decide +kernel) ?_
  refine a_iast_k 6 (a := 9) X hn hwf dX12_init_114 rfl (inK (by decide +kernel)) (by decide) (by decide +kernel) (fun wf hwf => ?_)
  refine r_dup X dX12_init_115 ?_
  refine r_bipush (v := 7) X dX12_init_116 (by decide +kernel) ?_
  refine r_bipush (v := 109) X dX12_init_118 (by decide +kernel) ?_
  refine a_iast_k 7 (a := 9) X hn hwf dX12_init_120 rfl (inK (by decide +kernel)) (by decide) (by decide +kernel) (fun wf hwf => ?_)
  refine r_dup X dX12_init_121 ?_
  refine r_bipush (v := 8) X dX12_init_122 (by decide +kernel) ?_
  refine r_bipush (v := 101) X dX12_init_124 (by decide +kernel) ?_
  refine a_iast_k 8 (a := 9) X hn hwf dX12_init_126 rfl (inK (by decide +kernel)) (by decide) (by decide +kernel) (fun wf hwf => ?_)
  refine r_dup X dX12_init_127 ?_
  refine r_bipush (v := 9) X dX12_init_128 (by decide +kernel) ?_
  refine r_bipush (v := 108) X dX12_init_130 (by decide +kernel) ?_
  refine a_iast_k 9 (a := 9) X hn hwf dX12_init_132 rfl (inK (by decide +kernel)) (by decide) (by decide +kernel) (fun wf hwf => ?_)
  refine r_eq (h' := h0 ++ [eO 12 [vI 0, vR (n + 1), vR (n + 2), vI 0, vR (n + 3), vI 0, vI 0, vR (n + 4), vR (n + 5), vR (n + 6), vR (n + 7), vR (n + 8), vI 0, vI 0, vI 0, vI 0, vI 0, vN, vN, vN, vN, vN, vN, vN, vN, vI 0, vI 0, vI 0, vN, vI 0, vI 0, vI 0, vI 0, vI 0, vI 0, vN, vI 0, vN, vI 0, vN, vN, vN, vN, vI 0, vN, vN, vI 0, vN, vN, vN, vI 0, vN, vI 0, vN, vI 0, vN, vN, vI 0, vN, vN, vN, vI 0, vN, vI 0, vN, vI 0, vN, vN, vN, vN, vI 0, vI 0, vI 0, vI 0, vI 0, vN], eI 499 (fun _ => 0), eI 2994 (fun _ => 0), eI 499 (fun _ => 0), eI 20 (fun _ => 0), eI 20 (fun _ => 0), eI 20 (fun _ => 0), eI 750 (fun _ => 0), eI 400 (fun _ => 0), eI 133 wf]) (ls' := [some (vR (n + 0))]) (st' := [vR (n + 9), vR (n + 0)]) rfl rfl rfl ?_
  refine r_dup X dX12_init_133 ?_
  refine r_bipush (v := 10) X dX12_init_134 (by decide +kernel) ?_
  refine r_bipush (v := 116) X dX12_init_136 (by decide +kernel) ?_
  refine a_iast_k 10 (a := 9) X hn hwf dX12_init_138 rfl (inK (by decide +kernel)) (by decide) (by decide +kernel) (fun wf hwf => ?_)
  refine r_dup X dX12_init_139 ?_
  refine r_bipush (v := 11) X dX12_init_140 (by decide +kernel) ?_
  refine r_bipush (v := 115) X dX12_init_142 (by decide +kernel) ?_
  refine a_iast_k 11 (a := 9) X hn hwf dX12_init_144 rfl (inK (by decide +kernel)) (by decide) (by decide +kernel) (fun wf hwf => ?_)
  refine r_dup X dX12_init_145 ?_
  refine r_bipush (v := 12) X dX12_init_146 (by decide +kernel) ?_
  refine r_bipush (v := 32) X dX12_init_148 (by decide +kernel) ?_
  refine a_iast_k 12 (a := 9) X hn hwf dX12_init_150 rfl (inK (by decide +kernel)) (by decide) (by decide +kernel) (fun wf hwf => ?_)
  refine r_dup X dX12_init_151 ?_
  refine r_bipush (v := 13) X dX12_init_152 (by decide +kernel) ?_
  refine r_bipush (v := 119) X dX12_init_154 (by decide +kernel) ?_
  refine a_iast_k 13 (a := 9) X hn hwf dX12_init_156 rfl (inK (by decide +kernel)) (by decide) (by decide +kernel) (fun wf hwf => ?_)
  refine r_dup X dX12_init_157 ?_
  refine r_bipush (v := 14) X dX12_init_158 (by decide +kernel) ?_
  refine r_bipush (v := 101) X dX12_init_160 (by decide +kernel) ?_
  refine a_iast_k 14 (a := 9) X hn hwf dX12_init_162 rfl (inK (by decide +kernel)) (by decide) (by decide +kernel) (fun wf hwf => ?_)
  refine r_dup X dX12_init_163 ?_
  refine r_bipush (v := 15) X dX12_init_164 (by decide +kernel) ?_
  refine r_bipush (v := 105) X dX12_init_166 (by decide +kernel) ?_
  refine a_iast_k 15 (a := 9) X hn hwf dX12_init_168 rfl (inK (by decide +kernel)) (by decide) (by decide +kernel) (fun wf hwf => ?_)
  refine r_eq (h' := h0 ++ [eO 12 [vI 0, vR (n + 1), vR (n + 2), vI 0, vR (n + 3), vI 0, vI 0, vR (n + 4), vR (n + 5), vR (n + 6), vR (n + 7), vR (n + 8), vI 0, vI 0, vI 0, vI 0, vI 0, vN, vN, vN, vN, vN, vN, vN, vN, vI 0, vI 0, vI 0, vN, vI 0, vI 0, vI 0, vI 0, vI 0, vI 0, vN, vI 0, vN, vI 0, vN, vN, vN, vN, vI 0, vN, vN, vI 0, vN, vN, vN, vI 0, vN, vI 0, vN, vI 0, vN, vN, vI 0, vN, vN, vN, vI 0, vN, vI 0, vN, vI 0, vN, vN, vN, vN, vI 0, vI 0, vI 0, vI 0, vI 0, vN], eI 499 (fun _ => 0), eI 2994 (fun _ => 0), eI 499 (fun _ => 0), eI 20 (fun _ => 0), eI 20 (fun _ => 0), eI 20 (fun _ => 0), eI 750 (fun _ => 0), eI 400 (fun _ => 0), eI 133 wf]) (ls' := [some (vR (n + 0))]) (st' := [vR (n + 9), vR (n + 0)]) rfl rfl rfl ?_
  refine r_dup X dX12_init_169 ?_
  refine r_bipush (v := 16) X dX12_init_170 (by decide +kernel) ?_
  refine r_bipush (v := 103) X dX12_init_172 (by decide +kernel) ?_
  refine a_iast_k 16 (a := 9) X hn hwf dX12_init_174 rfl (inK (by decide +kernel)) (by decide) (by decide +kernel) (fun wf hwf => ?_)
  refine r_dup X dX12_init_175 ?_
  refine r_bipush (v := 17) X dX12_init_176 (by decide +kernel) ?_
  refine r_bipush (v := 104) X dX12_init_178 (by decide +kernel) ?_
  refine a_iast_k 17 (a := 9) X hn hwf dX12_init_180 rfl (inK (by decide +kernel)) (by decide) (by decide +kernel) (fun wf hwf => ?_)
  refine r_dup X dX12_init_181 ?_
  refine r_bipush (v := 18) X dX12_init_182 (by decide +kernel) ?_
  refine r_bipush (v := 115) X dX12_init_184 (by decide +kernel) ?_
  refine a_iast_k 18 (a := 9) X hn hwf dX12_init_186 rfl (inK (by decide +kernel)) (by decide) (by decide +kernel) (fun wf hwf => ?_)
  refine r_dup X dX12_init_187 ?_
  refine r_bipush (v := 19) X dX12_init_188 (by decide +kernel) ?_
  refine r_bipush (v := 32) X dX12_init_190 (by decide +kernel) ?_
  refine a_iast_k 19 (a := 9) X hn hwf dX12_init_192 rfl (inK (by decide +kernel)) (by decide) (by decide +kernel) (fun wf hwf => ?_)
  refine r_dup X dX12_init_193 ?_
  refine r_bipush (v := 20) X dX12_init_194 (by decide +kernel) ?_
  refine r_bipush (v := 119) X dX12_init_196 (by decide +kernel) ?_
  refine a_iast_k 20 (a := 9) X hn hwf dX12_init_198 rfl (inK (by decide +kernel)) (by decide) (by decide +kernel) (fun wf hwf => ?_)
  refine r_dup X dX12_init_199 ?_
  refine r_bipush (v := 21) X dX12_init_200 (by decide +kernel) ?_
  refine r_bipush (v := 104) X dX12_init_202 (by decide +kernel) ?_
  refine a_iast_k 21 (a := 9) X hn hwf dX12_init_204 rfl (inK (by decide +kernel)) (by decide) (by decide +kernel) (fun wf hwf => ?_)
  refine r_eq (h' := h0 ++ [eO 12 [vI 0, vR (n + 1), vR (n + 2), vI 0, vR (n + 3), vI 0, vI 0, vR (n + 4), vR (n + 5), vR (n + 6), vR (n + 7), vR (n + 8), vI 0, vI 0, vI 0, vI 0, vI 0, vN, vN, vN, vN, vN, vN, vN, vN, vI 0, vI 0, vI 0, vN, vI 0, vI 0, vI 0, vI 0, vI 0, vI 0, vN, vI 0, vN, vI 0, vN, vN, vN, vN, vI 0, vN, vN, vI 0, vN, vN, vN, vI 0, vN, vI 0, vN, vI 0, vN, vN, vI 0, vN, vN, vN, vI 0, vN, vI 0, vN, vI 0, vN, vN, vN, vN, vI 0, vI 0, vI 0, vI 0, vI 0, vN], eI 499 (fun _ => 0), eI 2994 (fun _ => 0), eI 499 (fun _ => 0), eI 20 (fun _ => 0), eI 20 (fun _ => 0), eI 20 (fun _ => 0), eI 750 (fun _ => 0), eI 400 (fun _ => 0), eI 133 wf]) (ls' := [some (vR (n + 0))]) (st' := [vR (n + 9), vR (n + 0)]) rfl rfl rfl ?_
  refine r_dup X dX12_init_205 ?_
  refine r_bipush (v := 22) X dX12_init_206 (by decide +kernel) ?_
  refine r_bipush (v := 101) X dX12_init_208 (by decide +kernel) ?_
  refine a_iast_k 22 (a := 9) X hn hwf dX12_init_210 rfl (inK (by decide +kernel)) (by decide) (by decide +kernel) (fun wf hwf => ?_)
  refine r_dup X dX12_init_211 ?_
  refine r_bipush (v := 23) X dX12_init_212 (by decide +kernel) ?_
  refine r_bipush (v := 110) X dX12_init_214 (by decide +kernel) ?_
  refine a_iast_k 23 (a := 9) X hn hwf dX12_init_216 rfl (inK (by decide +kernel)) (by decide) (by decide +kernel) (fun wf hwf => ?_)
  refine r_dup X dX12_init_217 ?_
  refine r_bipush (v := 24) X dX12_init_218 (by decide +kernel) ?_
  refine r_bipush (v := 32) X dX12_init_220 (by decide +kernel) ?_
  refine a_iast_k 24 (a := 9) X hn hwf dX12_init_222 rfl (inK (by decide +kernel)) (by decide) (by decide +kernel) (fun wf hwf => ?_)
  refine r_dup X dX12_init_223 ?_
  refine r_bipush (v := 25) X dX12_init_224 (by decide +kernel) ?_
  refine r_bipush (v := 111) X dX12_init_226 (by decide +kernel) ?_
  refine a_iast_k 25 (a := 9) X hn hwf dX12_init_228 rfl (inK (by decide +kernel)) (by decide) (by decide +kernel) (fun wf hwf => ?_)
  refine r_dup X dX12_init_229 ?_
  refine r_bipush (v := 26) X dX12_init_230 (by decide +kernel) ?_
  refine r_bipush (v := 114) X dX12_init_232 (by decide +kernel) ?_
  refine a_iast_k 26 (a := 9) X hn hwf dX12_init_234 rfl (inK (by decide +kernel)) (by decide) (by decide +kernel) (fun wf hwf => ?_)
  refine r_dup X dX12_init_235 ?_
  refine r_bipush (v := 27) X dX12_init_236 (by decide +kernel) ?_
  refine r_bipush (v := 32) X dX12_init_238 (by decide +kernel) ?_
  refine a_iast_k 27 (a := 9) X hn hwf dX12_init_240 rfl (inK (by decide +kernel)) (by decide) (by decide +kernel) (fun wf hwf => ?_)
  refine r_eq (h' := h0 ++ [eO 12 [vI 0, vR (n + 1), vR (n + 2), vI 0, vR (n + 3), vI 0, vI 0, vR (n + 4), vR (n + 5), vR (n + 6), vR (n + 7), vR (n + 8), vI 0, vI 0, vI 0, vI 0, vI 0, vN, vN, vN, vN, vN, vN, vN, vN, vI 0, vI 0, vI 0, vN, vI 0, vI 0, vI 0, vI 0, vI 0, vI 0, vN, vI 0, vN, vI 0, vN, vN, vN, vN, vI 0, vN, vN, vI 0, vN, vN, vN, vI 0, vN, vI 0, vN, vI 0, vN, vN, vI 0, vN, vN, vN, vI 0, vN, vI 0, vN, vI 0, vN, vN, vN, vN, vI 0, vI 0, vI 0, vI 0, vI 0, vN], eI 499 (fun _ => 0), eI 2994 (fun _ => 0), eI 499 (fun _ => 0), eI 20 (fun _ => 0), eI 20 (fun _ => 0), eI 20 (fun _ => 0), eI 750 (fun _ => 0), eI 400 (fun _ => 0), eI 133 wf]) (ls' := [some (vR (n + 0))]) (st' := [vR (n + 9), vR (n + 0)]) rfl rfl rfl ?_
  refine r_dup X dX12_init_241 ?_
  refine r_bipush (v := 28) X dX12_init_242 (by decide +kernel) ?_
  refine r_bipush (v := 97) X dX12_init_244 (by decide +kernel) ?_
  refine a_iast_k 28 (a := 9) X hn hwf dX12_init_246 rfl (inK (by decide +kernel)) (by decide) (by decide +kernel) (fun wf hwf => ?_)
  refine r_dup X dX12_init_247 ?_
  refine r_bipush (v := 29) X dX12_init_248 (by decide +kernel) ?_
  refine r_bipush (v := 110) X dX12_init_250 (by decide +kernel) ?_
  refine a_iast_k 29 (a := 9) X hn hwf dX12_init_252 rfl (inK (by decide +kernel)) (by decide) (by decide +kernel) (fun wf hwf => ?_)
  refine r_dup X dX12_init_253 ?_
  refine r_bipush (v := 30) X dX12_init_254 (by decide +kernel) ?_
  refine r_bipush (v := 100) X dX12_init_256 (by decide +kernel) ?_
  refine a_iast_k 30 (a := 9) X hn hwf dX12_init_258 rfl (inK (by decide +kernel)) (by decide) (by decide +kernel) (fun wf hwf => ?_)
  refine r_dup X dX12_init_259 ?_
  refine r_bipush (v := 31) X dX12_init_260 (by decide +kernel) ?_
  refine r_bipush (v := 32) X dX12_init_262 (by decide +kernel) ?_
  refine a_iast_k 31 (a := 9) X hn hwf dX12_init_264 rfl (inK (by decide +kernel)) (by decide) (by decide +kernel) (fun wf hwf => ?_)
  refine r_dup X dX12_init_265 ?_
  refine r_bipush (v := 32) X dX12_init_266 (by decide +kernel) ?_
  refine r_bipush (v := 110) X dX12_init_268 (by decide +kernel) ?_
  refine a_iast_k 32 (a := 9) X hn hwf dX12_init_270 rfl (inK (by decide +kernel)) (by decide) (by decide +kernel) (fun wf hwf => ?_)
  refine r_dup X dX12_init_271 ?_
  refine r_bipush (v := 33) X dX12_init_272 (by decide +kernel) ?_
  refine r_bipush (v := 111) X dX12_init_274 (by decide +kernel) ?_
  refine a_iast_k 33 (a := 9) X hn hwf dX12_init_276 rfl (inK (by decide +kernel)) (by decide) (by decide +kernel) (fun wf hwf => ?_)
  refine r_eq (h' := h0 ++ [eO 12 [vI 0, vR (n + 1), vR (n + 2), vI 0, vR (n + 3), vI 0, vI 0, vR (n + 4), vR (n + 5), vR (n + 6), vR (n + 7), vR (n + 8), vI 0, vI 0, vI 0, vI 0, vI 0, vN, vN, vN, vN, vN, vN, vN, vN, vI 0, vI 0, vI 0, vN, vI 0, vI 0, vI 0, vI 0, vI 0, vI 0, vN, vI 0, vN, vI 0, vN, vN, vN, vN, vI 0, vN, vN, vI 0, vN, vN, vN, vI 0, vN, vI 0, vN, vI 0, vN, vN, vI 0, vN, vN, vN, vI 0, vN, vI 0, vN, vI 0, vN, vN, vN, vN, vI 0, vI 0, vI 0, vI 0, vI 0, vN], eI 499 (fun _ => 0), eI 2994 (fun _ => 0), eI 499 (fun _ => 0), eI 20 (fun _ => 0), eI 20 (fun _ => 0), eI 20 (fun _ => 0), eI 750 (fun _ => 0), eI 400 (fun _ => 0), eI 133 wf]) (ls' := [some (vR (n + 0))]) (st' := [vR (n + 9), vR (n + 0)]) rfl rfl rfl ?_
  refine r_dup X dX12_init_277 ?_
  refine r_bipush (v := 34) X dX12_init_278 (by decide +kernel) ?_
  refine r_bipush (v := 116) X dX12_init_280 (by decide +kernel) ?_
  refine a_iast_k 34 (a := 9) X hn hwf dX12_init_282 rfl (inK (by decide +kernel)) (by decide) (by decide +kernel) (fun wf hwf => ?_)
  refine r_dup X dX12_init_283 ?_
  refine r_bipush (v := 35) X dX12_init_284 (by decide +kernel) ?_
  refine r_bipush (v := 32) X dX12_init_286 (by decide +kernel) ?_
  refine a_iast_k 35 (a := 9) X hn hwf dX12_init_288 rfl (inK (by decide +kernel)) (by decide) (by decide +kernel) (fun wf hwf => ?_)
  refine r_dup X dX12_init_289 ?_
  refine r_bipush (v := 36) X dX12_init_290 (by decide +kernel) ?_
  refine r_bipush (v := 109) X dX12_init_292 (by decide +kernel) ?_
  refine a_iast_k 36 (a := 9) X hn hwf dX12_init_294 rfl (inK (by decide +kernel)) (by decide) (by decide +kernel) (fun wf hwf => ?_)
  refine r_dup X dX12_init_295 ?_
  refine r_bipush (v := 37) X dX12_init_296 (by decide +kernel) ?_
  refine r_bipush (v := 105) X dX12_init_298 (by decide +kernel) ?_
  refine a_iast_k 37 (a := 9) X hn hwf dX12_init_300 rfl (inK (by decide +kernel)) (by decide) (by decide +kernel) (fun wf hwf => ?_)
  refine r_dup X dX12_init_301 ?_
  refine r_bipush (v := 38) X dX12_init_302 (by decide +kernel) ?_
  refine r_bipush (v := 110) X dX12_init_304 (by decide +kernel) ?_
  refine a_iast_k 38 (a := 9) X hn hwf dX12_init_306 rfl (inK (by decide +kernel)) (by decide) (by decide +kernel) (fun wf hwf => ?_)
  refine r_dup X dX12_init_307 ?_
  refine r_bipush (v := 39) X dX12_init_308 (by decide +kernel) ?_
  refine r_bipush (v := 100) X dX12_init_310 (by decide +kernel) ?_
  refine a_iast_k 39 (a := 9) X hn hwf dX12_init_312 rfl (inK (by decide +kernel)) (by decide) (by decide +kernel) (fun wf hwf => ?_)
  refine r_eq (h' := h0 ++ [eO 12 [vI 0, vR (n + 1), vR (n + 2), vI 0, vR (n + 3), vI 0, vI 0, vR (n + 4), vR (n + 5), vR (n + 6), vR (n + 7), vR (n + 8), vI 0, vI 0, vI 0, vI 0, vI 0, vN, vN, vN, vN, vN, vN, vN, vN, vI 0, vI 0, vI 0, vN, vI 0, vI 0, vI 0, vI 0, vI 0, vI 0, vN, vI 0, vN, vI 0, vN, vN, vN, vN, vI 0, vN, vN, vI 0, vN, vN, vN, vI 0, vN, vI 0, vN, vI 0, vN, vN, vI 0, vN, vN, vN, vI 0, vN, vI 0, vN, vI 0, vN, vN, vN, vN, vI 0, vI 0, vI 0, vI 0, vI 0, vN], eI 499 (fun _ => 0), eI 2994 (fun _ => 0), eI 499 (fun _ => 0), eI 20 (fun _ => 0), eI 20 (fun _ => 0), eI 20 (fun _ => 0), eI 750 (fun _ => 0), eI 400 (fun _ => 0), eI 133 wf]) (ls' := [some (vR (n + 0))]) (st' := [vR (n + 9), vR (n + 0)]) rfl rfl rfl ?_
  refine r_dup X dX12_init_313 ?_
  refine r_bipush (v := 40) X dX12_init_314 (by decide +kernel) ?_
  refine r_bipush (v := 32) X dX12_init_316 (by decide +kernel) ?_
  refine a_iast_k 40 (a := 9) X hn hwf dX12_init_318 rfl (inK (by decide +kernel)) (by decide) (by decide +kernel) (fun wf hwf => ?_)
  refine r_dup X dX12_init_319 ?_
  refine r_bipush (v := 41) X dX12_init_320 (by decide +kernel) ?_
  refine r_bipush (v := 112) X dX12_init_322 (by decide +kernel) ?_
  refine a_iast_k 41 (a := 9) X hn hwf dX12_init_324 rfl (inK (by decide +kernel)) (by decide) (by decide +kernel) (fun wf hwf => ?_)
  refine r_dup X dX12_init_325 ?_
  refine r_bipush (v := 42) X dX12_init_326 (by decide +kernel) ?_
  refine r_bipush (v := 114) X dX12_init_328 (by decide +kernel) ?_
  refine a_iast_k 42 (a := 9) X hn hwf dX12_init_330 rfl (inK (by decide +kernel)) (by decide) (by decide +kernel) (fun wf hwf => ?_)
  refine r_dup X dX12_init_331 ?_
  refine r_bipush (v := 43) X dX12_init_332 (by decide +kernel) ?_
  refine r_bipush (v := 101) X dX12_init_334 (by decide +kernel) ?_
  refine a_iast_k 43 (a := 9) X hn hwf dX12_init_336 rfl (inK (by decide +kernel)) (by decide) (by decide +kernel) (fun wf hwf => ?_)
  refine r_dup X dX12_init_337 ?_
  refine r_bipush (v := 44) X dX12_init_338 (by decide +kernel) ?_
  refine r_bipush (v := 115) X dX12_init_340 (by decide +kernel) ?_
  refine a_iast_k 44 (a := 9) X hn hwf dX12_init_342 rfl (inK (by decide +kernel)) (by decide) (by decide +kernel) (fun wf hwf => ?_)
  refine r_dup X dX12_init_343 ?_
  refine r_bipush (v := 45) X dX12_init_344 (by decide +kernel) ?_
  refine r_bipush (v := 115) X dX12_init_346 (by decide +kernel) ?_
  refine a_iast_k 45 (a := 9) X hn hwf dX12_init_348 rfl (inK (by decide +kernel)) (by decide) (by decide +kernel) (fun wf hwf => ?_)
  refine r_eq (h' := h0 ++ [eO 12 [vI 0, vR (n + 1), vR (n + 2), vI 0, vR (n + 3), vI 0, vI 0, vR (n + 4), vR (n + 5), vR (n + 6), vR (n + 7), vR (n + 8), vI 0, vI 0, vI 0, vI 0, vI 0, vN, vN, vN, vN, vN, vN, vN, vN, vI 0, vI 0, vI 0, vN, vI 0, vI 0, vI 0, vI 0, vI 0, vI 0, vN, vI 0, vN, vI 0, vN, vN, vN, vN, vI 0, vN, vN, vI 0, vN, vN, vN, vI 0, vN, vI 0, vN, vI 0, vN, vN, vI 0, vN, vN, vN, vI 0, vN, vI 0, vN, vI 0, vN, vN, vN, vN, vI 0, vI 0, vI 0, vI 0, vI 0, vN], eI 499 (fun _ => 0), eI 2994 (fun _ => 0), eI 499 (fun _ => 0), eI 20 (fun _ => 0), eI 20 (fun _ => 0), eI 20 (fun _ => 0), eI 750 (fun _ => 0), eI 400 (fun _ => 0), eI 133 wf]) (ls' := [some (vR (n + 0))]) (st' := [vR (n + 9), vR (n + 0)]) rfl rfl rfl ?_
  refine r_dup X dX12_init_349 ?_
  refine r_bipush (v := 46) X dX12_init_350 (by decide +kernel) ?_
  refine r_bipush (v := 32) X dX12_init_352 (by decide +kernel) ?_
  refine a_iast_k 46 (a := 9) X hn hwf dX12_init_354 rfl (inK (by decide +kernel)) (by decide) (by decide +kernel) (fun wf hwf => ?_)
  refine r_dup X dX12_init_355 ?_
  refine r_bipush (v := 47) X dX12_init_356 (by decide +kernel) ?_
  refine r_bipush (v := 104) X dX12_init_358 (by decide +kernel) ?_
  refine a_iast_k 47 (a := 9) X hn hwf dX12_init_360 rfl (inK (by decide +kernel)) (by decide) (by decide +kernel) (fun wf hwf => ?_)
  refine r_dup X dX12_init_361 ?_
  refine r_bipush (v := 48) X dX12_init_362 (by decide +kernel) ?_
  refine r_bipush (v := 101) X dX12_init_364 (by decide +kernel) ?_
  refine a_iast_k 48 (a := 9) X hn hwf dX12_init_366 rfl (inK (by decide +kernel)) (by decide) (by decide +kernel) (fun wf hwf => ?_)
  refine r_dup X dX12_init_367 ?_
  refine r_bipush (v := 49) X dX12_init_368 (by decide +kernel) ?_
  refine r_bipush (v := 105) X dX12_init_370 (by decide +kernel) ?_
  refine a_iast_k 49 (a := 9) X hn hwf dX12_init_372 rfl (inK (by decide +kernel)) (by decide) (by decide +kernel) (fun wf hwf => ?_)
  refine r_dup X dX12_init_373 ?_
  refine r_bipush (v := 50) X dX12_init_374 (by decide +kernel) ?_
  refine r_bipush (v := 103) X dX12_init_376 (by decide +kernel) ?_
  refine a_iast_k 50 (a := 9) X hn hwf dX12_init_378 rfl (inK (by decide +kernel)) (by decide) (by decide +kernel) (fun wf hwf => ?_)
  refine r_dup X dX12_init_379 ?_
  refine r_bipush (v := 51) X dX12_init_380 (by decide +kernel) ?_
  refine r_bipush (v := 104) X dX12_init_382 (by decide +kernel) ?_
  refine a_iast_k 51 (a := 9) X hn hwf dX12_init_384 rfl (inK (by decide +kernel)) (by decide) (by decide +kernel) (fun wf hwf => ?_)
  refine r_eq (h' := h0 ++ [eO 12 [vI 0, vR (n + 1), vR (n + 2), vI 0, vR (n + 3), vI 0, vI 0, vR (n + 4), vR (n + 5), vR (n + 6), vR (n + 7), vR (n + 8), vI 0, vI 0, vI 0, vI 0, vI 0, vN, vN, vN, vN, vN, vN, vN, vN, vI 0, vI 0, vI 0, vN, vI 0, vI 0, vI 0, vI 0, vI 0, vI 0, vN, vI 0, vN, vI 0, vN, vN, vN, vN, vI 0, vN, vN, vI 0, vN, vN, vN, vI 0, vN, vI 0, vN, vI 0, vN, vN, vI 0, vN, vN, vN, vI 0, vN, vI 0, vN, vI 0, vN, vN, vN, vN, vI 0, vI 0, vI 0, vI 0, vI 0, vN], eI 499 (fun _ => 0), eI 2994 (fun _ => 0), eI 499 (fun _ => 0), eI 20 (fun _ => 0), eI 20 (fun _ => 0), eI 20 (fun _ => 0), eI 750 (fun _ => 0), eI 400 (fun _ => 0), eI 133 wf]) (ls' := [some (vR (n + 0))]) (st' := [vR (n + 9), vR (n + 0)]) rfl rfl rfl ?_
  refine r_dup X dX12_init_385 ?_
  refine r_bipush (v := 52) X dX12_init_386 (by decide +kernel) ?_
  refine r_bipush (v := 116) X dX12_init_388 (by decide +kernel) ?_
  refine a_iast_k 52 (a := 9) X hn hwf dX12_init_390 rfl (inK (by decide +kernel)) (by decide) (by decide +kernel) (fun wf hwf => ?_)
  refine r_dup X dX12_init_391 ?_
  refine r_bipush (v := 53) X dX12_init_392 (by decide +kernel) ?_
  refine r_bipush (v := 32) X dX12_init_394 (by decide +kernel) ?_
  refine a_iast_k 53 (a := 9) X hn hwf dX12_init_396 rfl (inK (by decide +kernel)) (by decide) (by decide +kernel) (fun wf hwf => ?_)
  refine r_dup X dX12_init_397 ?_
  refine r_bipush (v := 54) X dX12_init_398 (by decide +kernel) ?_
  refine r_bipush (v := 100) X dX12_init_400 (by decide +kernel) ?_
  refine a_iast_k 54 (a := 9) X hn hwf dX12_init_402 rfl (inK (by decide +kernel)) (by decide) (by decide +kernel) (fun wf hwf => ?_)
  refine r_dup X dX12_init_403 ?_
  refine r_bipush (v := 55) X dX12_init_404 (by decide +kernel) ?_
  refine r_bipush (v := 101) X dX12_init_406 (by decide +kernel) ?_
  refine a_iast_k 55 (a := 9) X hn hwf dX12_init_408 rfl (inK (by decide +kernel)) (by decide) (by decide +kernel) (fun wf hwf => ?_)
  refine r_dup X dX12_init_409 ?_
  refine r_bipush (v := 56) X dX12_init_410 (by decide +kernel) ?_
  refine r_bipush (v := 112) X dX12_init_412 (by decide +kernel) ?_
  refine a_iast_k 56 (a := 9) X hn hwf dX12_init_414 rfl (inK (by decide +kernel)) (by decide) (by decide +kernel) (fun wf hwf => ?_)
  refine r_dup X dX12_init_415 ?_
  refine r_bipush (v := 57) X dX12_init_416 (by decide +kernel) ?_
  refine r_bipush (v := 116) X dX12_init_418 (by decide +kernel) ?_
  refine a_iast_k 57 (a := 9) X hn hwf dX12_init_420 rfl (inK (by decide +kernel)) (by decide) (by decide +kernel) (fun wf hwf => ?_)
  refine r_eq (h' := h0 ++ [eO 12 [vI 0, vR (n + 1), vR (n + 2), vI 0, vR (n + 3), vI 0, vI 0, vR (n + 4), vR (n + 5), vR (n + 6), vR (n + 7), vR (n + 8), vI 0, vI 0, vI 0, vI 0, vI 0, vN, vN, vN, vN, vN, vN, vN, vN, vI 0, vI 0, vI 0, vN, vI 0, vI 0, vI 0, vI 0, vI 0, vI 0, vN, vI 0, vN, vI 0, vN, vN, vN, vN, vI 0, vN, vN, vI 0, vN, vN, vN, vI 0, vN, vI 0, vN, vI 0, vN, vN, vI 0, vN, vN, vN, vI 0, vN, vI 0, vN, vI 0, vN, vN, vN, vN, vI 0, vI 0, vI 0, vI 0, vI 0, vN], eI 499 (fun _ => 0), eI 2994 (fun _ => 0), eI 499 (fun _ => 0), eI 20 (fun _ => 0), eI 20 (fun _ => 0), eI 20 (fun _ => 0), eI 750 (fun _ => 0), eI 400 (fun _ => 0), eI 133 wf]) (ls' := [some (vR (n + 0))]) (st' := [vR (n + 9), vR (n + 0)]) rfl rfl rfl ?_
  refine r_dup X dX12_init_421 ?_
  refine r_bipush (v := 58) X dX12_init_422 (by decide +kernel) ?_
  refine r_bipush (v := 104) X dX12_init_424 (by decide +kernel) ?_
  refine a_iast_k 58 (a := 9) X hn hwf dX12_init_426 rfl (inK (by decide +kernel)) (by decide) (by decide +kernel) (fun wf hwf => ?_)
  refine r_dup X dX12_init_427 ?_
  refine r_bipush (v := 59) X dX12_init_428 (by decide +kernel) ?_
  refine r_bipush (v := 32) X dX12_init_430 (by decide +kernel) ?_
  refine a_iast_k 59 (a := 9) X hn hwf dX12_init_432 rfl (inK (by decide +kernel)) (by decide) (by decide +kernel) (fun wf hwf => ?_)
  refine r_dup X dX12_init_433 ?_
  refine r_bipush (v := 60) X dX12_init_434 (by decide +kernel) ?_
  refine r_bipush (v := 104) X dX12_init_436 (by decide +kernel) ?_
  refine a_iast_k 60 (a := 9) X hn hwf dX12_init_438 rfl (inK (by decide +kernel)) (by decide) (by decide +kernel) (fun wf hwf => ?_)
  refine r_dup X dX12_init_439 ?_
  refine r_bipush (v := 61) X dX12_init_440 (by decide +kernel) ?_
  refine r_bipush (v := 101) X dX12_init_442 (by decide +kernel) ?_
  refine a_iast_k 61 (a := 9) X hn hwf dX12_init_444 rfl (inK (by decide +kernel)) (by decide) (by decide +kernel) (fun wf hwf => ?_)
  refine r_dup X dX12_init_445 ?_
  refine r_bipush (v := 62) X dX12_init_446 (by decide +kernel) ?_
  refine r_bipush (v := 97) X dX12_init_448 (by decide +kernel) ?_
  refine a_iast_k 62 (a := 9) X hn hwf dX12_init_450 rfl (inK (by decide +kernel)) (by decide) (by decide +kernel) (fun wf hwf => ?_)
  refine r_dup X dX12_init_451 ?_
  refine r_bipush (v := 63) X dX12_init_452 (by decide +kernel) ?_
  refine r_bipush (v := 116) X dX12_init_454 (by decide +kernel) ?_
  refine a_iast_k 63 (a := 9) X hn hwf dX12_init_456 rfl (inK (by decide +kernel)) (by decide) (by decide +kernel) (fun wf hwf => ?_)
  refine r_eq (h' := h0 ++ [eO 12 [vI 0, vR (n + 1), vR (n + 2), vI 0, vR (n + 3), vI 0, vI 0, vR (n + 4), vR (n + 5), vR (n + 6), vR (n + 7), vR (n + 8), vI 0, vI 0, vI 0, vI 0, vI 0, vN, vN, vN, vN, vN, vN, vN, vN, vI 0, vI 0, vI 0, vN, vI 0, vI 0, vI 0, vI 0, vI 0, vI 0, vN, vI 0, vN, vI 0, vN, vN, vN, vN, vI 0, vN, vN, vI 0, vN, vN, vN, vI 0, vN, vI 0, vN, vI 0, vN, vN, vI 0, vN, vN, vN, vI 0, vN, vI 0, vN, vI 0, vN, vN, vN, vN, vI 0, vI 0, vI 0, vI 0, vI 0, vN], eI 499 (fun _ => 0), eI 2994 (fun _ => 0), eI 499 (fun _ => 0), eI 20 (fun _ => 0), eI 20 (fun _ => 0), eI 20 (fun _ => 0), eI 750 (fun _ => 0), eI 400 (fun _ => 0), eI 133 wf]) (ls' := [some (vR (n + 0))]) (st' := [vR (n + 9), vR (n + 0)]) rfl rfl rfl ?_
  refine r_dup X dX12_init_457 ?_
  refine r_bipush (v := 64) X dX12_init_458 (by decide +kernel) ?_
  refine r_bipush (v := 32) X dX12_init_460 (by decide +kernel) ?_
  refine a_iast_k 64 (a := 9) X hn hwf dX12_init_462 rfl (inK (by decide +kernel)) (by decide) (by decide +kernel) (fun wf hwf => ?_)
  refine r_dup X dX12_init_463 ?_
  refine r_bipush (v := 65) X dX12_init_464 (by decide +kernel) ?_
  refine r_bipush (v := 104) X dX12_init_466 (by decide +kernel) ?_
  refine a_iast_k 65 (a := 9) X hn hwf dX12_init_468 rfl (inK (by decide +kernel)) (by decide) (by decide +kernel) (fun wf hwf => ?_)
  refine r_dup X dX12_init_469 ?_
  refine r_bipush (v := 66) X dX12_init_470 (by decide +kernel) ?_
  refine r_bipush (v := 111) X dX12_init_472 (by decide +kernel) ?_
  refine a_iast_k 66 (a := 9) X hn hwf dX12_init_474 rfl (inK (by decide +kernel)) (by decide) (by decide +kernel) (fun wf hwf => ?_)
  refine r_dup X dX12_init_475 ?_
  refine r_bipush (v := 67) X dX12_init_476 (by decide +kernel) ?_
  refine r_bipush (v := 117) X dX12_init_478 (by decide +kernel) ?_
  refine a_iast_k 67 (a := 9) X hn hwf dX12_init_480 rfl (inK (by decide +kernel)) (by decide) (by decide +kernel) (fun wf hwf => ?_)
  refine r_dup X dX12_init_481 ?_
  refine r_bipush (v := 68) X dX12_init_482 (by decide +kernel) ?_
  refine r_bipush (v := 114) X dX12_init_484 (by decide +kernel) ?_
  refine a_iast_k 68 (a := 9) X hn hwf dX12_init_486 rfl (inK (by decide +kernel)) (by decide) (by decide +kernel) (fun wf hwf => ?_)
  refine r_dup X dX12_init_487 ?_
  refine r_bipush (v := 69) X dX12_init_488 (by decide +kernel) ?_
  refine r_bipush (v := 32) X dX12_init_490 (by decide +kernel) ?_
  refine a_iast_k 69 (a := 9) X hn hwf dX12_init_492 rfl (inK (by decide +kernel)) (by decide) (by decide +kernel) (fun wf hwf => ?_)
  refine r_eq (h' := h0 ++ [eO 12 [vI 0, vR (n + 1), vR (n + 2), vI 0, vR (n + 3), vI 0, vI 0, vR (n + 4), vR (n + 5), vR (n + 6), vR (n + 7), vR (n + 8), vI 0, vI 0, vI 0, vI 0, vI 0, vN, vN, vN, vN, vN, vN, vN, vN, vI 0, vI 0, vI 0, vN, vI 0, vI 0, vI 0, vI 0, vI 0, vI 0, vN, vI 0, vN, vI 0, vN, vN, vN, vN, vI 0, vN, vN, vI 0, vN, vN, vN, vI 0, vN, vI 0, vN, vI 0, vN, vN, vI 0, vN, vN, vN, vI 0, vN, vI 0, vN, vI 0, vN, vN, vN, vN, vI 0, vI 0, vI 0, vI 0, vI 0, vN], eI 499 (fun _ => 0), eI 2994 (fun _ => 0), eI 499 (fun _ => 0), eI 20 (fun _ => 0), eI 20 (fun _ => 0), eI 20 (fun _ => 0), eI 750 (fun _ => 0), eI 400 (fun _ => 0), eI 133 wf]) (ls' := [some (vR (n + 0))]) (st' := [vR (n + 9), vR (n + 0)]) rfl rfl rfl ?_
  refine r_dup X dX12_init_493 ?_
  refine r_bipush (v := 70) X dX12_init_494 (by decide +kernel) ?_
  refine r_bipush (v := 114) X dX12_init_496 (by decide +kernel) ?_
  refine a_iast_k 70 (a := 9) X hn hwf dX12_init_498 rfl (inK (by decide +kernel)) (by decide) (by decide +kernel) (fun wf hwf => ?_)
  refine r_dup X dX12_init_499 ?_
  refine r_bipush (v := 71) X dX12_init_500 (by decide +kernel) ?_
  refine r_bipush (v := 111) X dX12_init_502 (by decide +kernel) ?_
  refine a_iast_k 71 (a := 9) X hn hwf dX12_init_504 rfl (inK (by decide +kernel)) (by decide) (by decide +kernel) (fun wf hwf => ?_)
  refine r_dup X dX12_init_505 ?_
  refine r_bipush (v := 72) X dX12_init_506 (by decide +kernel) ?_
  refine r_bipush (v := 119) X dX12_init_508 (by decide +kernel) ?_
  refine a_iast_k 72 (a := 9) X hn hwf dX12_init_510 rfl (inK (by decide +kernel)) (by decide) (by decide +kernel) (fun wf hwf => ?_)
  refine r_dup X dX12_init_511 ?_
  refine r_bipush (v := 73) X dX12_init_512 (by decide +kernel) ?_
  refine r_bipush (v := 32) X dX12_init_514 (by decide +kernel) ?_
  refine a_iast_k 73 (a := 9) X hn hwf dX12_init_516 rfl (inK (by decide +kernel)) (by decide) (by decide +kernel) (fun wf hwf => ?_)
  refine r_dup X dX12_init_517 ?_
  refine r_bipush (v := 74) X dX12_init_518 (by decide +kernel) ?_
  refine r_bipush (v := 98) X dX12_init_520 (by decide +kernel) ?_
  refine a_iast_k 74 (a := 9) X hn hwf dX12_init_522 rfl (inK (by decide +kernel)) (by decide) (by decide +kernel) (fun wf hwf => ?_)
  refine r_dup X dX12_init_523 ?_
  refine r_bipush (v := 75) X dX12_init_524 (by decide +kernel) ?_
  refine r_bipush (v := 101) X dX12_init_526 (by decide +kernel) ?_
  refine a_iast_k 75 (a := 9) X hn hwf dX12_init_528 rfl (inK (by decide +kernel)) (by decide) (by decide +kernel) (fun wf hwf => ?_)
  refine r_eq (h' := h0 ++ [eO 12 [vI 0, vR (n + 1), vR (n + 2), vI 0, vR (n + 3), vI 0, vI 0, vR (n + 4), vR (n + 5), vR (n + 6), vR (n + 7), vR (n + 8), vI 0, vI 0, vI 0, vI 0, vI 0, vN, vN, vN, vN, vN, vN, vN, vN, vI 0, vI 0, vI 0, vN, vI 0, vI 0, vI 0, vI 0, vI 0, vI 0, vN, vI 0, vN, vI 0, vN, vN, vN, vN, vI 0, vN, vN, vI 0, vN, vN, vN, vI 0, vN, vI 0, vN, vI 0, vN, vN, vI 0, vN, vN, vN, vI 0, vN, vI 0, vN, vI 0, vN, vN, vN, vN, vI 0, vI 0, vI 0, vI 0, vI 0, vN], eI 499 (fun _ => 0), eI 2994 (fun _ => 0), eI 499 (fun _ => 0), eI 20 (fun _ => 0), eI 20 (fun _ => 0), eI 20 (fun _ => 0), eI 750 (fun _ => 0), eI 400 (fun _ => 0), eI 133 wf]) (ls' := [some (vR (n + 0))]) (st' := [vR (n + 9), vR (n + 0)]) rfl rfl rfl ?_
  refine r_dup X dX12_init_529 ?_
  refine r_bipush (v := 76) X dX12_init_530 (by decide +kernel) ?_
  refine r_bipush (v := 115) X dX12_init_532 (by decide +kernel) ?_
  refine a_iast_k 76 (a := 9) X hn hwf dX12_init_534 rfl (inK (by decide +kernel)) (by decide) (by decide +kernel) (fun wf hwf => ?_)
  refine r_dup X dX12_init_535 ?_
  refine r_bipush (v := 77) X dX12_init_536 (by decide +kernel) ?_
  refine r_bipush (v := 105) X dX12_init_538 (by decide +kernel) ?_
  refine a_iast_k 77 (a := 9) X hn hwf dX12_init_540 rfl (inK (by decide +kernel)) (by decide) (by decide +kernel) (fun wf hwf => ?_)
  refine r_dup X dX12_init_541 ?_
  refine r_bipush (v := 78) X dX12_init_542 (by decide +kernel) ?_
  refine r_bipush (v := 100) X dX12_init_544 (by decide +kernel) ?_
  refine a_iast_k 78 (a := 9) X hn hwf dX12_init_546 rfl (inK (by decide +kernel)) (by decide) (by decide +kernel) (fun wf hwf => ?_)
  refine r_dup X dX12_init_547 ?_
  refine r_bipush (v := 79) X dX12_init_548 (by decide +kernel) ?_
  refine r_bipush (v := 101) X dX12_init_550 (by decide +kernel) ?_
  refine a_iast_k 79 (a := 9) X hn hwf dX12_init_552 rfl (inK (by decide +kernel)) (by decide) (by decide +kernel) (fun wf hwf => ?_)
  refine r_dup X dX12_init_553 ?_
  refine r_bipush (v := 80) X dX12_init_554 (by decide +kernel) ?_
  refine r_bipush (v := 32) X dX12_init_556 (by decide +kernel) ?_
  refine a_iast_k 80 (a := 9) X hn hwf dX12_init_558 rfl (inK (by decide +kernel)) (by decide) (by decide +kernel) (fun wf hwf => ?_)
  refine r_dup X dX12_init_559 ?_
  refine r_bipush (v := 81) X dX12_init_560 (by decide +kernel) ?_
  refine r_bipush (v := 99) X dX12_init_562 (by decide +kernel) ?_
  refine a_iast_k 81 (a := 9) X hn hwf dX12_init_564 rfl (inK (by decide +kernel)) (by decide) (by decide +kernel) (fun wf hwf => ?_)
  refine r_eq (h' := h0 ++ [eO 12 [vI 0, vR (n + 1), vR (n + 2), vI 0, vR (n + 3), vI 0, vI 0, vR (n + 4), vR (n + 5), vR (n + 6), vR (n + 7), vR (n + 8), vI 0, vI 0, vI 0, vI 0, vI 0, vN, vN, vN, vN, vN, vN, vN, vN, vI 0, vI 0, vI 0, vN, vI 0, vI 0, vI 0, vI 0, vI 0, vI 0, vN, vI 0, vN, vI 0, vN, vN, vN, vN, vI 0, vN, vN, vI 0, vN, vN, vN, vI 0, vN, vI 0, vN, vI 0, vN, vN, vI 0, vN, vN, vN, vI 0, vN, vI 0, vN, vI 0, vN, vN, vN, vN, vI 0, vI 0, vI 0, vI 0, vI 0, vN], eI 499 (fun _ => 0), eI 2994 (fun _ => 0), eI 499 (fun _ => 0), eI 20 (fun _ => 0), eI 20 (fun _ => 0), eI 20 (fun _ => 0), eI 750 (fun _ => 0), eI 400 (fun _ => 0), eI 133 wf]) (ls' := [some (vR (n + 0))]) (st' := [vR (n + 9), vR (n + 0)]) rfl rfl rfl ?_
  refine r_dup X dX12_init_565 ?_
  refine r_bipush (v := 82) X dX12_init_566 (by decide +kernel) ?_
  refine r_bipush (v := 97) X dX12_init_568 (by decide +kernel) ?_
  refine a_iast_k 82 (a := 9) X hn hwf dX12_init_570 rfl (inK (by decide +kernel)) (by decide) (by decide +kernel) (fun wf hwf => ?_)
  refine r_dup X dX12_init_571 ?_
  refine r_bipush (v := 83) X dX12_init_572 (by decide +kernel) ?_
  refine r_bipush (v := 109) X dX12_init_574 (by decide +kernel) ?_
  refine a_iast_k 83 (a := 9) X hn hwf dX12_init_576 rfl (inK (by decide +kernel)) (by decide) (by decide +kernel) (fun wf hwf => ?_)
  refine r_dup X dX12_init_577 ?_
  refine r_bipush (v := 84) X dX12_init_578 (by decide +kernel) ?_
  refine r_bipush (v := 101) X dX12_init_580 (by decide +kernel) ?_
  refine a_iast_k 84 (a := 9) X hn hwf dX12_init_582 rfl (inK (by decide +kernel)) (by decide) (by decide +kernel) (fun wf hwf => ?_)
  refine r_dup X dX12_init_583 ?_
  refine r_bipush (v := 85) X dX12_init_584 (by decide +kernel) ?_
  refine r_bipush (v := 32) X dX12_init_586 (by decide +kernel) ?_
  refine a_iast_k 85 (a := 9) X hn hwf dX12_init_588 rfl (inK (by decide +kernel)) (by decide) (by decide +kernel) (fun wf hwf => ?_)
  refine r_dup X dX12_init_589 ?_
  refine r_bipush (v := 86) X dX12_init_590 (by decide +kernel) ?_
  refine r_bipush (v := 100) X dX12_init_592 (by decide +kernel) ?_
  refine a_iast_k 86 (a := 9) X hn hwf dX12_init_594 rfl (inK (by decide +kernel)) (by decide) (by decide +kernel) (fun wf hwf => ?_)
  refine r_dup X dX12_init_595 ?_
  refine r_bipush (v := 87) X dX12_init_596 (by decide +kernel) ?_
  refine r_bipush (v := 97) X dX12_init_598 (by decide +kernel) ?_
  refine a_iast_k 87 (a := 9) X hn hwf dX12_init_600 rfl (inK (by decide +kernel)) (by decide) (by decide +kernel) (fun wf hwf => ?_)
  refine r_eq (h' := h0 ++ [eO 12 [vI 0, vR (n + 1), vR (n + 2), vI 0, vR (n + 3), vI 0, vI 0, vR (n + 4), vR (n + 5), vR (n + 6), vR (n + 7), vR (n + 8), vI 0, vI 0, vI 0, vI 0, vI 0, vN, vN, vN, vN, vN, vN, vN, vN, vI 0, vI 0, vI 0, vN, vI 0, vI 0, vI 0, vI 0, vI 0, vI 0, vN, vI 0, vN, vI 0, vN, vN, vN, vN, vI 0, vN, vN, vI 0, vN, vN, vN, vI 0, vN, vI 0, vN, vI 0, vN, vN, vI 0, vN, vN, vN, vI 0, vN, vI 0, vN, vI 0, vN, vN, vN, vN, vI 0, vI 0, vI 0, vI 0, vI 0, vN], eI 499 (fun _ => 0), eI 2994 (fun _ => 0), eI 499 (fun _ => 0), eI 20 (fun _ => 0), eI 20 (fun _ => 0), eI 20 (fun _ => 0), eI 750 (fun _ => 0), eI 400 (fun _ => 0), eI 133 wf]) (ls' := [some (vR (n + 0))]) (st' := [vR (n + 9), vR (n + 0)]) rfl rfl rfl ?_
  refine r_dup X dX12_init_601 ?_
  refine r_bipush (v := 88) X dX12_init_602 (by decide +kernel) ?_
  refine r_bipush (v := 121) X dX12_init_604 (by decide +kernel) ?_
  refine a_iast_k 88 (a := 9) X hn hwf dX12_init_606 rfl (inK (by decide +kernel)) (by decide) (by decide +kernel) (fun wf hwf => ?_)
  refine r_dup X dX12_init_607 ?_
  refine r_bipush (v := 89) X dX12_init_608 (by decide +kernel) ?_
  refine r_bipush (v := 32) X dX12_init_610 (by decide +kernel) ?_
  refine a_iast_k 89 (a := 9) X hn hwf dX12_init_612 rfl (inK (by decide +kernel)) (by decide) (by decide +kernel) (fun wf hwf => ?_)
  refine r_dup X dX12_init_613 ?_
  refine r_bipush (v := 90) X dX12_init_614 (by decide +kernel) ?_
  refine r_bipush (v := 118) X dX12_init_616 (by decide +kernel) ?_
  refine a_iast_k 90 (a := 9) X hn hwf dX12_init_618 rfl (inK (by decide +kernel)) (by decide) (by decide +kernel) (fun wf hwf => ?_)
  refine r_dup X dX12_init_619 ?_
  refine r_bipush (v := 91) X dX12_init_620 (by decide +kernel) ?_
  refine r_bipush (v := 111) X dX12_init_622 (by decide +kernel) ?_
  refine a_iast_k 91 (a := 9) X hn hwf dX12_init_624 rfl (inK (by decide +kernel)) (by decide) (by decide +kernel) (fun wf hwf => ?_)
  refine r_dup X dX12_init_625 ?_
  refine r_bipush (v := 92) X dX12_init_626 (by decide +kernel) ?_
  refine r_bipush (v := 116) X dX12_init_628 (by decide +kernel) ?_
  refine a_iast_k 92 (a := 9) X hn hwf dX12_init_630 rfl (inK (by decide +kernel)) (by decide) (by decide +kernel) (fun wf hwf => ?_)
  refine r_dup X dX12_init_631 ?_
  refine r_bipush (v := 93) X dX12_init_632 (by decide +kernel) ?_
  refine r_bipush (v := 101) X dX12_init_634 (by decide +kernel) ?_
  refine a_iast_k 93 (a := 9) X hn hwf dX12_init_636 rfl (inK (by decide +kernel)) (by decide) (by decide +kernel) (fun wf hwf => ?_)
  refine r_eq (h' := h0 ++ [eO 12 [vI 0, vR (n + 1), vR (n + 2), vI 0, vR (n + 3), vI 0, vI 0, vR (n + 4), vR (n + 5), vR (n + 6), vR (n + 7), vR (n + 8), vI 0, vI 0, vI 0, vI 0, vI 0, vN, vN, vN, vN, vN, vN, vN, vN, vI 0, vI 0, vI 0, vN, vI 0, vI 0, vI 0, vI 0, vI 0, vI 0, vN, vI 0, vN, vI 0, vN, vN, vN, vN, vI 0, vN, vN, vI 0, vN, vN, vN, vI 0, vN, vI 0, vN, vI 0, vN, vN, vI 0, vN, vN, vN, vI 0, vN, vI 0, vN, vI 0, vN, vN, vN, vN, vI 0, vI 0, vI 0, vI 0, vI 0, vN], eI 499 (fun _ => 0), eI 2994 (fun _ => 0), eI 499 (fun _ => 0), eI 20 (fun _ => 0), eI 20 (fun _ => 0), eI 20 (fun _ => 0), eI 750 (fun _ => 0), eI 400 (fun _ => 0), eI 133 wf]) (ls' := [some (vR (n + 0))]) (st' := [vR (n + 9), vR (n + 0)]) rfl rfl rfl ?_
  refine r_dup X dX12_init_637 ?_
  refine r_bipush (v := 94) X dX12_init_638 (by decide +kernel) ?_
  refine r_bipush (v := 114) X dX12_init_640 (by decide +kernel) ?_
  refine a_iast_k 94 (a := 9) X hn hwf dX12_init_642 rfl (inK (by decide +kernel)) (by decide) (by decide +kernel) (fun wf hwf => ?_)
  refine r_dup X dX12_init_643 ?_
  refine r_bipush (v := 95) X dX12_init_644 (by decide +kernel) ?_
  refine r_bipush (v := 32) X dX12_init_646 (by decide +kernel) ?_
  refine a_iast_k 95 (a := 9) X hn hwf dX12_init_648 rfl (inK (by decide +kernel)) (by decide) (by decide +kernel) (fun wf hwf => ?_)
  refine r_dup X dX12_init_649 ?_
  refine r_bipush (v := 96) X dX12_init_650 (by decide +kernel) ?_
  refine r_bipush (v := 97) X dX12_init_652 (by decide +kernel) ?_
  refine a_iast_k 96 (a := 9) X hn hwf dX12_init_654 rfl (inK (by decide +kernel)) (by decide) (by decide +kernel) (fun wf hwf => ?_)
  refine r_dup X dX12_init_655 ?_
  refine r_bipush (v := 97) X dX12_init_656 (by decide +kernel) ?_
  refine r_bipush (v := 116) X dX12_init_658 (by decide +kernel) ?_
  refine a_iast_k 97 (a := 9) X hn hwf dX12_init_660 rfl (inK (by decide +kernel)) (by decide) (by decide +kernel) (fun wf hwf => ?_)
  refine r_dup X dX12_init_661 ?_
  refine r_bipush (v := 98) X dX12_init_662 (by decide +kernel) ?_
  refine r_bipush (v := 32) X dX12_init_664 (by decide +kernel) ?_
  refine a_iast_k 98 (a := 9) X hn hwf dX12_init_666 rfl (inK (by decide +kernel)) (by decide) (by decide +kernel) (fun wf hwf => ?_)
  refine r_dup X dX12_init_667 ?_
  refine r_bipush (v := 99) X dX12_init_668 (by decide +kernel) ?_
  refine r_bipush (v := 116) X dX12_init_670 (by decide +kernel) ?_
  refine a_iast_k 99 (a := 9) X hn hwf dX12_init_672 rfl (inK (by decide +kernel)) (by decide) (by decide +kernel) (fun wf hwf => ?_)
  refine r_eq (h' := h0 ++ [eO 12 [vI 0, vR (n + 1), vR (n + 2), vI 0, vR (n + 3), vI 0, vI 0, vR (n + 4), vR (n + 5), vR (n + 6), vR (n + 7), vR (n + 8), vI 0, vI 0, vI 0, vI 0, vI 0, vN, vN, vN, vN, vN, vN, vN, vN, vI 0, vI 0, vI 0, vN, vI 0, vI 0, vI 0, vI 0, vI 0, vI 0, vN, vI 0, vN, vI 0, vN, vN, vN, vN, vI 0, vN, vN, vI 0, vN, vN, vN, vI 0, vN, vI 0, vN, vI 0, vN, vN, vI 0, vN, vN, vN, vI 0, vN, vI 0, vN, vI 0, vN, vN, vN, vN, vI 0, vI 0, vI 0, vI 0, vI 0, vN], eI 499 (fun _ => 0), eI 2994 (fun _ => 0), eI 499 (fun _ => 0), eI 20 (fun _ => 0), eI 20 (fun _ => 0), eI 20 (fun _ => 0), eI 750 (fun _ => 0), eI 400 (fun _ => 0), eI 133 wf]) (ls' := [some (vR (n + 0))]) (st' := [vR (n + 9), vR (n + 0)]) rfl rfl rfl ?_
  refine r_dup X dX12_init_673 ?_
  refine r_bipush (v := 100) X dX12_init_674 (by decide +kernel) ?_
  refine r_bipush (v := 111) X dX12_init_676 (by decide +kernel) ?_
  refine a_iast_k 100 (a := 9) X hn hwf dX12_init_678 rfl (inK (by decide +kernel)) (by decide) (by decide +kernel) (fun wf hwf => ?_)
  refine r_dup X dX12_init_679 ?_
  refine r_bipush (v := 101) X dX12_init_680 (by decide +kernel) ?_
  refine r_bipush (v := 32) X dX12_init_682 (by decide +kernel) ?_
  refine a_iast_k 101 (a := 9) X hn hwf dX12_init_684 rfl (inK (by decide +kernel)) (by decide) (by decide +kernel) (fun wf hwf => ?_)
  refine r_dup X dX12_init_685 ?_
  refine r_bipush (v := 102) X dX12_init_686 (by decide +kernel) ?_
  refine r_bipush (v := 111) X dX12_init_688 (by decide +kernel) ?_
  refine a_iast_k 102 (a := 9) X hn hwf dX12_init_690 rfl (inK (by decide +kernel)) (by decide) (by decide +kernel) (fun wf hwf => ?_)
  refine r_dup X dX12_init_691 ?_
  refine r_bipush (v := 103) X dX12_init_692 (by decide +kernel) ?_
  refine r_bipush (v := 110) X dX12_init_694 (by decide +kernel) ?_
  refine a_iast_k 103 (a := 9) X hn hwf dX12_init_696 rfl (inK (by decide +kernel)) (by decide) (by decide +kernel) (fun wf hwf => ?_)
  refine r_dup X dX12_init_697 ?_
  refine r_bipush (v := 104) X dX12_init_698 (by decide +kernel) ?_
  refine r_bipush (v := 32) X dX12_init_700 (by decide +kernel) ?_
  refine a_iast_k 104 (a := 9) X hn hwf dX12_init_702 rfl (inK (by decide +kernel)) (by decide) (by decide +kernel) (fun wf hwf => ?_)
  refine r_dup X dX12_init_703 ?_
  refine r_bipush (v := 105) X dX12_init_704 (by decide +kernel) ?_
  refine r_bipush (v := 112) X dX12_init_706 (by decide +kernel) ?_
  refine a_iast_k 105 (a := 9) X hn hwf dX12_init_708 rfl (inK (by decide +kernel)) (by decide) (by decide +kernel) (fun wf hwf => ?_)
  refine r_eq (h' := h0 ++ [eO 12 [vI 0, vR (n + 1), vR (n + 2), vI 0, vR (n + 3), vI 0, vI 0, vR (n + 4), vR (n + 5), vR (n + 6), vR (n + 7), vR (n + 8), vI 0, vI 0, vI 0, vI 0, vI 0, vN, vN, vN, vN, vN, vN, vN, vN, vI 0, vI 0, vI 0, vN, vI 0, vI 0, vI 0, vI 0, vI 0, vI 0, vN, vI 0, vN, vI 0, vN, vN, vN, vN, vI 0, vN, vN, vI 0, vN, vN, vN, vI 0, vN, vI 0, vN, vI 0, vN, vN, vI 0, vN, vN, vN, vI 0, vN, vI 0, vN, vI 0, vN, vN, vN, vN, vI 0, vI 0, vI 0, vI 0, vI 0, vN], eI 499 (fun _ => 0), eI 2994 (fun _ => 0), eI 499 (fun _ => 0), eI 20 (fun _ => 0), eI 20 (fun _ => 0), eI 20 (fun _ => 0), eI 750 (fun _ => 0), eI 400 (fun _ => 0), eI 133 wf]) (ls' := [some (vR (n + 0))]) (st' := [vR (n + 9), vR (n + 0)]) rfl rfl rfl ?_
  refine r_dup X dX12_init_709 ?_
  refine r_bipush (v := 106) X dX12_init_710 (by decide +kernel) ?_
  refine r_bipush (v := 117) X dX12_init_712 (by decide +kernel) ?_
  refine a_iast_k 106 (a := 9) X hn hwf dX12_init_714 rfl (inK (by decide +kernel)) (by decide) (by decide +kernel) (fun wf hwf => ?_)
  refine r_dup X dX12_init_715 ?_
  refine r_bipush (v := 107) X dX12_init_716 (by decide +kernel) ?_
  refine r_bipush (v := 116) X dX12_init_718 (by decide +kernel) ?_
  refine a_iast_k 107 (a := 9) X hn hwf dX12_init_720 rfl (inK (by decide +kernel)) (by decide) (by decide +kernel) (fun wf hwf => ?_)
  refine r_dup X dX12_init_721 ?_
  refine r_bipush (v := 108) X dX12_init_722 (by decide +kernel) ?_
  refine r_bipush (v := 116) X dX12_init_724 (by decide +kernel) ?_
  refine a_iast_k 108 (a := 9) X hn hwf dX12_init_726 rfl (inK (by decide +kernel)) (by decide) (by decide +kernel) (fun wf hwf => ?_)
  refine r_dup X dX12_init_727 ?_
  refine r_bipush (v := 109) X dX12_init_728 (by decide +kernel) ?_
  refine r_bipush (v := 121) X dX12_init_730 (by decide +kernel) ?_
  refine a_iast_k 109 (a := 9) X hn hwf dX12_init_732 rfl (inK (by decide +kernel)) (by decide) (by decide +kernel) (fun wf hwf => ?_)
  refine r_dup X dX12_init_733 ?_
  refine r_bipush (v := 110) X dX12_init_734 (by decide +kernel) ?_
  refine r_bipush (v := 32) X dX12_init_736 (by decide +kernel) ?_
  refine a_iast_k 110 (a := 9) X hn hwf dX12_init_738 rfl (inK (by decide +kernel)) (by decide) (by decide +kernel) (fun wf hwf => ?_)
  refine r_dup X dX12_init_739 ?_
  refine r_bipush (v := 111) X dX12_init_740 (by decide +kernel) ?_
  refine r_bipush (v := 102) X dX12_init_742 (by decide +kernel) ?_
  refine a_iast_k 111 (a := 9) X hn hwf dX12_init_744 rfl (inK (by decide +kernel)) (by decide) (by decide +kernel) (fun wf hwf => ?_)
  refine r_eq (h' := h0 ++ [eO 12 [vI 0, vR (n + 1), vR (n + 2), vI 0, vR (n + 3), vI 0, vI 0, vR (n + 4), vR (n + 5), vR (n + 6), vR (n + 7), vR (n + 8), vI 0, vI 0, vI 0, vI 0, vI 0, vN, vN, vN, vN, vN, vN, vN, vN, vI 0, vI 0, vI 0, vN, vI 0, vI 0, vI 0, vI 0, vI 0, vI 0, vN, vI 0, vN, vI 0, vN, vN, vN, vN, vI 0, vN, vN, vI 0, vN, vN, vN, vI 0, vN, vI 0, vN, vI 0, vN, vN, vI 0, vN, vN, vN, vI 0, vN, vI 0, vN, vI 0, vN, vN, vN, vN, vI 0, vI 0, vI 0, vI 0, vI 0, vN], eI 499 (fun _ => 0), eI 2994 (fun _ => 0), eI 499 (fun _ => 0), eI 20 (fun _ => 0), eI 20 (fun _ => 0), eI 20 (fun _ => 0), eI 750 (fun _ => 0), eI 400 (fun _ => 0), eI 133 wf]) (ls' := [some (vR (n + 0))]) (st' := [vR (n + 9), vR (n + 0)]) rfl rfl rfl ?_
  refine r_dup X dX12_init_745 ?_
  refine r_bipush (v := 112) X dX12_init_746 (by decide +kernel) ?_
  refine r_bipush (v := 111) X dX12_init_748 (by decide +kernel) ?_
  refine a_iast_k 112 (a := 9) X hn hwf dX12_init_750 rfl (inK (by decide +kernel)) (by decide) (by decide +kernel) (fun wf hwf => ?_)
  refine r_dup X dX12_init_751 ?_
  refine r_bipush (v := 113) X dX12_init_752 (by decide +kernel) ?_
  refine r_bipush (v := 114) X dX12_init_754 (by decide +kernel) ?_
  refine a_iast_k 113 (a := 9) X hn hwf dX12_init_756 rfl (inK (by decide +kernel)) (by decide) (by decide +kernel) (fun wf hwf => ?_)
  refine r_dup X dX12_init_757 ?_
  refine r_bipush (v := 114) X dX12_init_758 (by decide +kernel) ?_
  refine r_bipush (v := 32) X dX12_init_760 (by decide +kernel) ?_
  refine a_iast_k 114 (a := 9) X hn hwf dX12_init_762 rfl (inK (by decide +kernel)) (by decide) (by decide +kernel) (fun wf hwf => ?_)
  refine r_dup X dX12_init_763 ?_
  refine r_bipush (v := 115) X dX12_init_764 (by decide +kernel) ?_
  refine r_bipush (v := 97) X dX12_init_766 (by decide +kernel) ?_
  refine a_iast_k 115 (a := 9) X hn hwf dX12_init_768 rfl (inK (by decide +kernel)) (by decide) (by decide +kernel) (fun wf hwf => ?_)
  refine r_dup X dX12_init_769 ?_
  refine r_bipush (v := 116) X dX12_init_770 (by decide +kernel) ?_
  refine r_bipush (v := 103) X dX12_init_772 (by decide +kernel) ?_
  refine a_iast_k 116 (a := 9) X hn hwf dX12_init_774 rfl (inK (by decide +kernel)) (by decide) (by decide +kernel) (fun wf hwf => ?_)
  refine r_dup X dX12_init_775 ?_
  refine r_bipush (v := 117) X dX12_init_776 (by decide +kernel) ?_
  refine r_bipush (v := 97) X dX12_init_778 (by decide +kernel) ?_
  refine a_iast_k 117 (a := 9) X hn hwf dX12_init_780 rfl (inK (by decide +kernel)) (by decide) (by decide +kernel) (fun wf hwf => ?_)
  refine r_eq (h' := h0 ++ [eO 12 [vI 0, vR (n + 1), vR (n + 2), vI 0, vR (n + 3), vI 0, vI 0, vR (n + 4), vR (n + 5), vR (n + 6), vR (n + 7), vR (n + 8), vI 0, vI 0, vI 0, vI 0, vI 0, vN, vN, vN, vN, vN, vN, vN, vN, vI 0, vI 0, vI 0, vN, vI 0, vI 0, vI 0, vI 0, vI 0, vI 0, vN, vI 0, vN, vI 0, vN, vN, vN, vN, vI 0, vN, vN, vI 0, vN, vN, vN, vI 0, vN, vI 0, vN, vI 0, vN, vN, vI 0, vN, vN, vN, vI 0, vN, vI 0, vN, vI 0, vN, vN, vN, vN, vI 0, vI 0, vI 0, vI 0, vI 0, vN], eI 499 (fun _ => 0), eI 2994 (fun _ => 0), eI 499 (fun _ => 0), eI 20 (fun _ => 0), eI 20 (fun _ => 0), eI 20 (fun _ => 0), eI 750 (fun _ => 0), eI 400 (fun _ => 0), eI 133 wf]) (ls' := [some (vR (n + 0))]) (st' := [vR (n + 9), vR (n + 0)]) rfl rfl rfl ?_
  refine r_dup X dX12_init_781 ?_
  refine r_bipush (v := 118) X dX12_init_782 (by decide +kernel) ?_
  refine r_bipush (v := 105) X dX12_init_784 (by decide +kernel) ?_
  refine a_iast_k 118 (a := 9) X hn hwf dX12_init_786 rfl (inK (by decide +kernel)) (by decide) (by decide +kernel) (fun wf hwf => ?_)
  refine r_dup X dX12_init_787 ?_
  refine r_bipush (v := 119) X dX12_init_788 (by decide +kernel) ?_
  refine r_bipush (v := 110) X dX12_init_790 (by decide +kernel) ?_
  refine a_iast_k 119 (a := 9) X hn hwf dX12_init_792 rfl (inK (by decide +kernel)) (by decide) (by decide +kernel) (fun wf hwf => ?_)
  refine r_dup X dX12_init_793 ?_
  refine r_bipush (v := 120) X dX12_init_794 (by decide +kernel) ?_
  refine r_bipush (v := 115) X dX12_init_796 (by decide +kernel) ?_
  refine a_iast_k 120 (a := 9) X hn hwf dX12_init_798 rfl (inK (by decide +kernel)) (by decide) (by decide +kernel) (fun wf hwf => ?_)
  refine r_dup X dX12_init_799 ?_
  refine r_bipush (v := 121) X dX12_init_800 (by decide +kernel) ?_
  refine r_bipush (v := 116) X dX12_init_802 (by decide +kernel) ?_
  refine a_iast_k 121 (a := 9) X hn hwf dX12_init_804 rfl (inK (by decide +kernel)) (by decide) (by decide +kernel) (fun wf hwf => ?_)
  refine r_dup X dX12_init_805 ?_
  refine r_bipush (v := 122) X dX12_init_806 (by decide +kernel) ?_
  refine r_bipush (v := 32) X dX12_init_808 (by decide +kernel) ?_
  refine a_iast_k 122 (a := 9) X hn hwf dX12_init_810 rfl (inK (by decide +kernel)) (by decide) (by decide +kernel) (fun wf hwf => ?_)
  refine r_dup X dX12_init_811 ?_
  refine r_bipush (v := 123) X dX12_init_812 (by decide +kernel) ?_
  refine r_bipush (v := 110) X dX12_init_814 (by decide +kernel) ?_
  refine a_iast_k 123 (a := 9) X hn hwf dX12_init_816 rfl (inK (by decide +kernel)) (by decide) (by decide +kernel) (fun wf hwf => ?_)
  refine r_eq (h' := h0 ++ [eO 12 [vI 0, vR (n + 1), vR (n + 2), vI 0, vR (n + 3), vI 0, vI 0, vR (n + 4), vR (n + 5), vR (n + 6), vR (n + 7), vR (n + 8), vI 0, vI 0, vI 0, vI 0, vI 0, vN, vN, vN, vN, vN, vN, vN, vN, vI 0, vI 0, vI 0, vN, vI 0, vI 0, vI 0, vI 0, vI 0, vI 0, vN, vI 0, vN, vI 0, vN, vN, vN, vN, vI 0, vN, vN, vI 0, vN, vN, vN, vI 0, vN, vI 0, vN, vI 0, vN, vN, vI 0, vN, vN, vN, vI 0, vN, vI 0, vN, vI 0, vN, vN, vN, vN, vI 0, vI 0, vI 0, vI 0, vI 0, vN], eI 499 (fun _ => 0), eI 2994 (fun _ => 0), eI 499 (fun _ => 0), eI 20 (fun _ => 0), eI 20 (fun _ => 0), eI 20 (fun _ => 0), eI 750 (fun _ => 0), eI 400 (fun _ => 0), eI 133 wf]) (ls' := [some (vR (n + 0))]) (st' := [vR (n + 9), vR (n + 0)]) rfl rfl rfl ?_
  refine r_dup X dX12_init_817 ?_
  refine r_bipush (v := 124) X dX12_init_818 (by decide +kernel) ?_
  refine r_bipush (v := 111) X dX12_init_820 (by decide +kernel) ?_
  refine a_iast_k 124 (a := 9) X hn hwf dX12_init_822 rfl (inK (by decide +kernel)) (by decide) (by decide +kernel) (fun wf hwf => ?_)
  refine r_dup X dX12_init_823 ?_
  refine r_bipush (v := 125) X dX12_init_824 (by decide +kernel) ?_
  refine r_bipush (v := 110) X dX12_init_826 (by decide +kernel) ?_
  refine a_iast_k 125 (a := 9) X hn hwf dX12_init_828 rfl (inK (by decide +kernel)) (by decide) (by decide +kernel) (fun wf hwf => ?_)
  refine r_dup X dX12_init_829 ?_
  refine r_bipush (v := 126) X dX12_init_830 (by decide +kernel) ?_
  refine r_bipush (v := 101) X dX12_init_832 (by decide +kernel) ?_
  refine a_iast_k 126 (a := 9) X hn hwf dX12_init_834 rfl (inK (by decide +kernel)) (by decide) (by decide +kernel) (fun wf hwf => ?_)
  refine r_dup X dX12_init_835 ?_
  refine r_bipush (v := 127) X dX12_init_836 (by decide +kernel) ?_
  refine r_bipush (v := 32) X dX12_init_838 (by decide +kernel) ?_
  refine a_iast_k 127 (a := 9) X hn hwf dX12_init_840 rfl (inK (by decide +kernel)) (by decide) (by decide +kernel) (fun wf hwf => ?_)
  refine r_dup X dX12_init_841 ?_
  refine r_sipush (v := 128) X dX12_init_842 (by decide +kernel) ?_
  refine r_bipush (v := 116) X dX12_init_845 (by decide +kernel) ?_
  refine a_iast_k 128 (a := 9) X hn hwf dX12_init_847 rfl (inK (by decide +kernel)) (by decide) (by decide +kernel) (fun wf hwf => ?_)
  refine r_dup X dX12_init_848 ?_
  refine r_sipush (v := 129) X dX12_init_849 (by decide +kernel) ?_
  refine r_bipush (v := 119) X dX12_init_852 (by decide +kernel) ?_
  refine a_iast_k 129 (a := 9) X hn hwf dX12_init_854 rfl (inK (by decide +kernel)) (by decide) (by decide +kernel) (fun wf hwf => ?_)
  refine r_eq (h' := h0 ++ [eO 12 [vI 0, vR (n + 1), vR (n + 2), vI 0, vR (n + 3), vI 0, vI 0, vR (n + 4), vR (n + 5), vR (n + 6), vR (n + 7), vR (n + 8), vI 0, vI 0, vI 0, vI 0, vI 0, vN, vN, vN, vN, vN, vN, vN, vN, vI 0, vI 0, vI 0, vN, vI 0, vI 0, vI 0, vI 0, vI 0, vI 0, vN, vI 0, vN, vI 0, vN, vN, vN, vN, vI 0, vN, vN, vI 0, vN, vN, vN, vI 0, vN, vI 0, vN, vI 0, vN, vN, vI 0, vN, vN, vN, vI 0, vN, vI 0, vN, vI 0, vN, vN, vN, vN, vI 0, vI 0, vI 0, vI 0, vI 0, vN], eI 499 (fun _ => 0), eI 2994 (fun _ => 0), eI 499 (fun _ => 0), eI 20 (fun _ => 0), eI 20 (fun _ => 0), eI 20 (fun _ => 0), eI 750 (fun _ => 0), eI 400 (fun _ => 0), eI 133 wf]) (ls' := [some (vR (n + 0))]) (st' := [vR (n + 9), vR (n + 0)]) rfl rfl rfl ?_
  refine r_dup X dX12_init_855 ?_
  refine r_sipush (v := 130) X dX12_init_856 (by decide +kernel) ?_
  refine r_bipush (v := 105) X dX12_init_859 (by decide +kernel) ?_
  refine a_iast_k 130 (a := 9) X hn hwf dX12_init_861 rfl (inK (by decide +kernel)) (by decide) (by decide +kernel) (fun wf hwf => ?_)
  refine r_dup X dX12_init_862 ?_
  refine r_sipush (v := 131) X dX12_init_863 (by decide +kernel) ?_
  refine r_bipush (v := 110) X dX12_init_866 (by decide +kernel) ?_
  refine a_iast_k 131 (a := 9) X hn hwf dX12_init_868 rfl (inK (by decide +kernel)) (by decide) (by decide +kernel) (fun wf hwf => ?_)
  refine r_dup X dX12_init_869 ?_
  refine r_sipush (v := 132) X dX12_init_870 (by decide +kernel) ?_
  refine r_bipush (v := 32) X dX12_init_873 (by decide +kernel) ?_
  refine a_iast_k 132 (a := 9) X hn hwf dX12_init_875 rfl (inK (by decide +kernel)) (by decide) (by decide +kernel) (fun wf hwf => ?_)
  refine a_putF (a := 0) X hn ff_X12_34 hnm dX12_init_876 rfl rfl rfl rfl ?_
  refine r_aload_n X dX12_init_879 rfl ?_
  refine r_iconst (v := 2) X dX12_init_880 (by decide +kernel) ?_
  refine a_newi (N := 2) (k := 10) X hn dX12_init_881 (by decide +kernel) (by decide +kernel) rfl rfl rfl rfl ?_
  refine a_putF (a := 0) X hn ff_X12_37 hnm dX12_init_883 rfl rfl rfl rfl ?_
  refine r_aload_n X dX12_init_886 rfl ?_
  refine r_bipush (v := 48) X dX12_init_887 (by decide +kernel) ?_
  refine a_newi (N := 48) (k := 11) X hn dX12_init_889 (by decide +kernel) (by decide +kernel) rfl rfl rfl rfl ?_
  refine a_putF (a := 0) X hn ff_X12_40 hnm dX12_init_891 rfl rfl rfl rfl ?_
  refine r_eq (h' := h0 ++ [eO 12 [vI 0, vR (n + 1), vR (n + 2), vI 0, vR (n + 3), vI 0, vI 0, vR (n + 4), vR (n + 5), vR (n + 6), vR (n + 7), vR (n + 8), vI 0, vI 0, vI 0, vI 0, vI 0, vR (n + 9), vR (n + 10), vR (n + 11), vN, vN, vN, vN, vN, vI 0, vI 0, vI 0, vN, vI 0, vI 0, vI 0, vI 0, vI 0, vI 0, vN, vI 0, vN, vI 0, vN, vN, vN, vN, vI 0, vN, vN, vI 0, vN, vN, vN, vI 0, vN, vI 0, vN, vI 0, vN, vN, vI 0, vN, vN, vN, vI 0, vN, vI 0, vN, vI 0, vN, vN, vN, vN, vI 0, vI 0, vI 0, vI 0, vI 0, vN], eI 499 (fun _ => 0), eI 2994 (fun _ => 0), eI 499 (fun _ => 0), eI 20 (fun _ => 0), eI 20 (fun _ => 0), eI 20 (fun _ => 0), eI 750 (fun _ => 0), eI 400 (fun _ => 0), eI 133 wf, eI 2 (fun _ => 0), eI 48 (fun _ => 0)]) (ls' := [some (vR (n + 0))]) (st' := []) rfl rfl rfl ?_
  refine r_aload_n X dX12_init_894 rfl ?_
  refine r_bipush (v := 48) X dX12_init_895 (by decide +kernel) ?_
  refine a_newi (N := 48) (k := 12) X hn dX12_init_897 (by decide +kernel) (by decide +kernel) rfl rfl rfl rfl ?_
  refine a_putF (a := 0) X hn ff_X12_43 hnm dX12_init_899 rfl rfl rfl rfl ?_
  refine r_aload_n X dX12_init_902 rfl ?_
  refine r_bipush (v := 48) X dX12_init_903 (by decide +kernel) ?_
  refine a_newi (N := 48) (k := 13) X hn dX12_init_905 (by decide +kernel) (by decide +kernel) rfl rfl rfl rfl ?_
  refine a_putF (a := 0) X hn ff_X12_46 hnm dX12_init_907 rfl rfl rfl rfl ?_
  refine r_aload_n X dX12_init_910 rfl ?_
  refine r_bipush (v := 48) X dX12_init_911 (by decide +kernel) ?_
  refine a_newi (N := 48) (k := 14) X hn dX12_init_913 (by decide +kernel) (by decide +kernel) rfl rfl rfl rfl ?_
  refine a_putF (a := 0) X hn ff_X12_49 hnm dX12_init_915 rfl rfl rfl rfl ?_
  refine r_aload_n X dX12_init_918 rfl ?_
  refine r_sipush (v := 1200) X dX12_init_919 (by decide +kernel) ?_
  refine a_newi (N := 1200) (k := 15) X hn dX12_init_922 (by decide +kernel) (by decide +kernel) rfl rfl rfl rfl ?_
  refine a_putF (a := 0) X hn ff_X12_52 hnm dX12_init_924 rfl rfl rfl rfl ?_
  refine r_aload_n X dX12_init_927 rfl ?_
  refine r_sipush (v := 1200) X dX12_init_928 (by decide +kernel) ?_
  refine a_newi (N := 1200) (k := 16) X hn dX12_init_931 (by decide +kernel) (by decide +kernel) rfl rfl rfl rfl ?_
  refine a_putF (a := 0) X hn ff_X12_55 hnm dX12_init_933 rfl rfl rfl rfl ?_
  refine r_aload_n X dX12_init_936 rfl ?_
  refine r_bipush (v := 40) X dX12_init_937 (by decide +kernel) ?_
  refine a_newi (N := 40) (k := 17) X hn dX12_init_939 (by decide +kernel) (by decide +kernel) rfl rfl rfl rfl ?_
  refine a_putF (a := 0) X hn ff_X12_58 hnm dX12_init_941 rfl rfl rfl rfl ?_
  refine r_eq (h' := h0 ++ [eO 12 [vI 0, vR (n + 1), vR (n + 2), vI 0, vR (n + 3), vI 0, vI 0, vR (n + 4), vR (n + 5), vR (n + 6), vR (n + 7), vR (n + 8), vI 0, vI 0, vI 0, vI 0, vI 0, vR (n + 9), vR (n + 10), vR (n + 11), vR (n + 12), vR (n + 13), vR (n + 14), vR (n + 15), vR (n + 16), vI 0, vI 0, vI 0, vR (n + 17), vI 0, vI 0, vI 0, vI 0, vI 0, vI 0, vN, vI 0, vN, vI 0, vN, vN, vN, vN, vI 0, vN, vN, vI 0, vN, vN, vN, vI 0, vN, vI 0, vN, vI 0, vN, vN, vI 0, vN, vN, vN, vI 0, vN, vI 0, vN, vI 0, vN, vN, vN, vN, vI 0, vI 0, vI 0, vI 0, vI 0, vN], eI 499 (fun _ => 0), eI 2994 (fun _ => 0), eI 499 (fun _ => 0), eI 20 (fun _ => 0), eI 20 (fun _ => 0), eI 20 (fun _ => 0), eI 750 (fun _ => 0), eI 400 (fun _ => 0), eI 133 wf, eI 2 (fun _ => 0), eI 48 (fun _ => 0), eI 48 (fun _ => 0), eI 48 (fun _ => 0), eI 48 (fun _ => 0), eI 1200 (fun _ => 0), eI 1200 (fun _ => 0), eI 40 (fun _ => 0)]) (ls' := [some (vR (n + 0))]) (st' := []) rfl rfl rfl ?_
  refine r_aload_n X dX12_init_944 rfl ?_
  refine r_iconst (v := -1) X dX12_init_945 (by decide +kernel) ?_
  refine a_put (a := 0) X hn fp_X12_61 dX12_init_946 rfl rfl rfl rfl ?_
  refine r_aload_n X dX12_init_949 rfl ?_
  refine r_bipush (v := 96) X dX12_init_950 (by decide +kernel) ?_
  refine a_newi (N := 96) (k := 18) X hn dX12_init_952 (by decide +kernel) (by decide +kernel) rfl rfl rfl rfl ?_
  refine a_putF (a := 0) X hn ff_X12_65 hnm dX12_init_954 rfl rfl rfl rfl ?_
  refine r_aload_n X dX12_init_957 rfl ?_
  refine r_sipush (v := 160) X dX12_init_958 (by decide +kernel) ?_
  refine a_newi (N := 160) (k := 19) X hn dX12_init_961 (by decide +kernel) (by decide +kernel) rfl rfl rfl rfl ?_
  refine a_putF (a := 0) X hn ff_X12_68 hnm dX12_init_963 rfl rfl rfl rfl ?_
  refine r_aload_n X dX12_init_966 rfl ?_
  refine r_bipush (v := 40) X dX12_init_967 (by decide +kernel) ?_
  refine a_newi (N := 40) (k := 20) X hn dX12_init_969 (by decide +kernel) (by decide +kernel) rfl rfl rfl rfl ?_
  refine a_putF (a := 0) X hn ff_X12_71 hnm dX12_init_971 rfl rfl rfl rfl ?_
  refine r_aload_n X dX12_init_974 rfl ?_
  refine r_bipush (v := 10) X dX12_init_975 (by decide +kernel) ?_
  refine a_newi (N := 10) (k := 21) X hn dX12_init_977 (by decide +kernel) (by decide +kernel) rfl rfl rfl rfl ?_
  refine a_putF (a := 0) X hn ff_X12_74 hnm dX12_init_979 rfl rfl rfl rfl ?_
  refine r_aload_n X dX12_init_982 rfl ?_
  refine r_sipush (v := 420) X dX12_init_983 (by decide +kernel) ?_
  refine a_newi (N := 420) (k := 22) X hn dX12_init_986 (by decide +kernel) (by decide +kernel) rfl rfl rfl rfl ?_
  refine a_putF (a := 0) X hn ff_X12_77 hnm dX12_init_988 rfl rfl rfl rfl ?_
  refine r_eq (h' := h0 ++ [eO 12 [vI 0, vR (n + 1), vR (n + 2), vI 0, vR (n + 3), vI 0, vI 0, vR (n + 4), vR (n + 5), vR (n + 6), vR (n + 7), vR (n + 8), vI 0, vI 0, vI 0, vI 0, vI 0, vR (n + 9), vR (n + 10), vR (n + 11), vR (n + 12), vR (n + 13), vR (n + 14), vR (n + 15), vR (n + 16), vI 0, vI 0, vI 0, vR (n + 17), vI 0, vI 0, vI 0, vI 0, vI ((-1)), vI 0, vR (n + 18), vI 0, vR (n + 19), vI 0, vR (n + 20), vR (n + 21), vR (n + 22), vN, vI 0, vN, vN, vI 0, vN, vN, vN, vI 0, vN, vI 0, vN, vI 0, vN, vN, vI 0, vN, vN, vN, vI 0, vN, vI 0, vN, vI 0, vN, vN, vN, vN, vI 0, vI 0, vI 0, vI 0, vI 0, vN], eI 499 (fun _ => 0), eI 2994 (fun _ => 0), eI 499 (fun _ => 0), eI 20 (fun _ => 0), eI 20 (fun _ => 0), eI 20 (fun _ => 0), eI 750 (fun _ => 0), eI 400 (fun _ => 0), eI 133 wf, eI 2 (fun _ => 0), eI 48 (fun _ => 0), eI 48 (fun _ => 0), eI 48 (fun _ => 0), eI 48 (fun _ => 0), eI 1200 (fun _ => 0), eI 1200 (fun _ => 0), eI 40 (fun _ => 0), eI 96 (fun _ => 0), eI 160 (fun _ => 0), eI 40 (fun _ => 0), eI 10 (fun _ => 0), eI 420 (fun _ => 0)]) (ls' := [some (vR (n + 0))]) (st' := []) rfl rfl rfl ?_
  refine r_aload_n X dX12_init_991 rfl ?_
  refine r_sipush (v := 144) X dX12_init_992 (by decide +kernel) ?_
  refine a_newi (N := 144) (k := 23) X hn dX12_init_995 (by decide +kernel) (by decide +kernel) rfl rfl rfl rfl ?_
  refine a_putF (a := 0) X hn ff_X12_80 hnm dX12_init_997 rfl rfl rfl rfl ?_
  refine r_aload_n X dX12_init_1000 rfl ?_
  refine r_bipush (v := 6) X dX12_init_1001 (by decide +kernel) ?_
  refine a_newi (N := 6) (k := 24) X hn dX12_init_1003 (by decide +kernel) (by decide +kernel) rfl rfl rfl rfl ?_
  refine a_putF (a := 0) X hn ff_X12_83 hnm dX12_init_1005 rfl rfl rfl rfl ?_
  refine r_aload_n X dX12_init_1008 rfl ?_
  refine r_bipush (v := 6) X dX12_init_1009 (by decide +kernel) ?_
  refine a_newi (N := 6) (k := 25) X hn dX12_init_1011 (by decide +kernel) (by decide +kernel) rfl rfl rfl rfl ?_
  refine a_putF (a := 0) X hn ff_X12_86 hnm dX12_init_1013 rfl rfl rfl rfl ?_
  refine r_aload_n X dX12_init_1016 rfl ?_
  refine r_bipush (v := 16) X dX12_init_1017 (by decide +kernel) ?_
  refine a_newi (N := 16) (k := 26) X hn dX12_init_1019 (by decide +kernel) (by decide +kernel) rfl rfl rfl rfl ?_
  refine a_putF (a := 0) X hn ff_X12_89 hnm dX12_init_1021 rfl rfl rfl rfl ?_
  refine r_aload_n X dX12_init_1024 rfl ?_
  refine r_sipush (v := 153) X dX12_init_1025 (by decide +kernel) ?_
  refine a_newi (N := 153) (k := 27) X hn dX12_init_1028 (by decide +kernel) (by decide +kernel) rfl rfl rfl rfl ?_
  refine a_putF (a := 0) X hn ff_X12_92 hnm dX12_init_1030 rfl rfl rfl rfl ?_
  refine r_aload_n X dX12_init_1033 rfl ?_
  refine r_sipush (v := 153) X dX12_init_1034 (by decide +kernel) ?_
  refine a_newi (N := 153) (k := 28) X hn dX12_init_1037 (by decide +kernel) (by decide +kernel) rfl rfl rfl rfl ?_
  refine a_putF (a := 0) X hn ff_X12_95 hnm dX12_init_1039 rfl rfl rfl rfl ?_
  refine r_eq (h' := h0 ++ [eO 12 [vI 0, vR (n + 1), vR (n + 2), vI 0, vR (n + 3), vI 0, vI 0, vR (n + 4), vR (n + 5), vR (n + 6), vR (n + 7), vR (n + 8), vI 0, vI 0, vI 0, vI 0, vI 0, vR (n + 9), vR (n + 10), vR (n + 11), vR (n + 12), vR (n + 13), vR (n + 14), vR (n + 15), vR (n + 16), vI 0, vI 0, vI 0, vR (n + 17), vI 0, vI 0, vI 0, vI 0, vI ((-1)), vI 0, vR (n + 18), vI 0, vR (n + 19), vI 0, vR (n + 20), vR (n + 21), vR (n + 22), vR (n + 23), vI 0, vR (n + 24), vR (n + 25), vI 0, vR (n + 26), vR (n + 27), vR (n + 28), vI 0, vN, vI 0, vN, vI 0, vN, vN, vI 0, vN, vN, vN, vI 0, vN, vI 0, vN, vI 0, vN, vN, vN, vN, vI 0, vI 0, vI 0, vI 0, vI 0, vN], eI 499 (fun _ => 0), eI 2994 (fun _ => 0), eI 499 (fun _ => 0), eI 20 (fun _ => 0), eI 20 (fun _ => 0), eI 20 (fun _ => 0), eI 750 (fun _ => 0), eI 400 (fun _ => 0), eI 133 wf, eI 2 (fun _ => 0), eI 48 (fun _ => 0), eI 48 (fun _ => 0), eI 48 (fun _ => 0), eI 48 (fun _ => 0), eI 1200 (fun _ => 0), eI 1200 (fun _ => 0), eI 40 (fun _ => 0), eI 96 (fun _ => 0), eI 160 (fun _ => 0), eI 40 (fun _ => 0), eI 10 (fun _ => 0), eI 420 (fun _ => 0), eI 144 (fun _ => 0), eI 6 (fun _ => 0), eI 6 (fun _ => 0), eI 16 (fun _ => 0), eI 153 (fun _ => 0), eI 153 (fun _ => 0)]) (ls' := [some (vR (n + 0))]) (st' := []) rfl rfl rfl ?_
  refine r_aload_n X dX12_init_1042 rfl ?_
  refine r_bipush (v := 15) X dX12_init_1043 (by decide +kernel) ?_
  refine a_newi (N := 15) (k := 29) X hn dX12_init_1045 (by decide +kernel) (by decide +kernel) rfl rfl rfl rfl ?_
  refine a_putF (a := 0) X hn ff_X12_98 hnm dX12_init_1047 rfl rfl rfl rfl ?_
  refine r_aload_n X dX12_init_1050 rfl ?_
  refine r_bipush (v := 15) X dX12_init_1051 (by decide +kernel) ?_
  refine a_newi (N := 15) (k := 30) X hn dX12_init_1053 (by decide +kernel) (by decide +kernel) rfl rfl rfl rfl ?_
  refine a_putF (a := 0) X hn ff_X12_101 hnm dX12_init_1055 rfl rfl rfl rfl ?_
  refine r_aload_n X dX12_init_1058 rfl ?_
  refine r_bipush (v := 8) X dX12_init_1059 (by decide +kernel) ?_
  refine a_newi (N := 8) (k := 31) X hn dX12_init_1061 (by decide +kernel) (by decide +kernel) rfl rfl rfl rfl ?_
  refine a_putF (a := 0) X hn ff_X12_104 hnm dX12_init_1063 rfl rfl rfl rfl ?_
  refine r_aload_n X dX12_init_1066 rfl ?_
  refine r_sipush (v := 401) X dX12_init_1067 (by decide +kernel) ?_
  refine a_newi (N := 401) (k := 32) X hn dX12_init_1070 (by decide +kernel) (by decide +kernel) rfl rfl rfl rfl ?_
  refine a_putF (a := 0) X hn ff_X12_107 hnm dX12_init_1072 rfl rfl rfl rfl ?_
  refine r_aload_n X dX12_init_1075 rfl ?_
  refine r_bipush (v := 8) X dX12_init_1076 (by decide +kernel) ?_
  refine a_newi (N := 8) (k := 33) X hn dX12_init_1078 (by decide +kernel) (by decide +kernel) rfl rfl rfl rfl ?_
  refine a_putF (a := 0) X hn ff_X12_110 hnm dX12_init_1080 rfl rfl rfl rfl ?_
  refine r_aload_n X dX12_init_1083 rfl ?_
  refine r_bipush (v := 8) X dX12_init_1084 (by decide +kernel) ?_
  refine a_newi (N := 8) (k := 34) X hn dX12_init_1086 (by decide +kernel) (by decide +kernel) rfl rfl rfl rfl ?_
  refine a_putF (a := 0) X hn ff_X12_113 hnm dX12_init_1088 rfl rfl rfl rfl ?_
  refine r_eq (h' := h0 ++ [eO 12 [vI 0, vR (n + 1), vR (n + 2), vI 0, vR (n + 3), vI 0, vI 0, vR (n + 4), vR (n + 5), vR (n + 6), vR (n + 7), vR (n + 8), vI 0, vI 0, vI 0, vI 0, vI 0, vR (n + 9), vR (n + 10), vR (n + 11), vR (n + 12), vR (n + 13), vR (n + 14), vR (n + 15), vR (n + 16), vI 0, vI 0, vI 0, vR (n + 17), vI 0, vI 0, vI 0, vI 0, vI ((-1)), vI 0, vR (n + 18), vI 0, vR (n + 19), vI 0, vR (n + 20), vR (n + 21), vR (n + 22), vR (n + 23), vI 0, vR (n + 24), vR (n + 25), vI 0, vR (n + 26), vR (n + 27), vR (n + 28), vI 0, vR (n + 29), vI 0, vR (n + 30), vI 0, vR (n + 31), vR (n + 32), vI 0, vR (n + 33), vR (n + 34), vN, vI 0, vN, vI 0, vN, vI 0, vN, vN, vN, vN, vI 0, vI 0, vI 0, vI 0, vI 0, vN], eI 499 (fun _ => 0), eI 2994 (fun _ => 0), eI 499 (fun _ => 0), eI 20 (fun _ => 0), eI 20 (fun _ => 0), eI 20 (fun _ => 0), eI 750 (fun _ => 0), eI 400 (fun _ => 0), eI 133 wf, eI 2 (fun _ => 0), eI 48 (fun _ => 0), eI 48 (fun _ => 0), eI 48 (fun _ => 0), eI 48 (fun _ => 0), eI 1200 (fun _ => 0), eI 1200 (fun _ => 0), eI 40 (fun _ => 0), eI 96 (fun _ => 0), eI 160 (fun _ => 0), eI 40 (fun _ => 0), eI 10 (fun _ => 0), eI 420 (fun _ => 0), eI 144 (fun _ => 0), eI 6 (fun _ => 0), eI 6 (fun _ => 0), eI 16 (fun _ => 0), eI 153 (fun _ => 0), eI 153 (fun _ => 0), eI 15 (fun _ => 0), eI 15 (fun _ => 0), eI 8 (fun _ => 0), eI 401 (fun _ => 0), eI 8 (fun _ => 0), eI 8 (fun _ => 0)]) (ls' := [some (vR (n + 0))]) (st' := []) rfl rfl rfl ?_
  refine r_aload_n X dX12_init_1091 rfl ?_
  refine r_sipush (v := 256) X dX12_init_1092 (by decide +kernel) ?_
  refine a_newi (N := 256) (k := 35) X hn dX12_init_1095 (by decide +kernel) (by decide +kernel) rfl rfl rfl rfl ?_
  refine a_putF (a := 0) X hn ff_X12_116 hnm dX12_init_1097 rfl rfl rfl rfl ?_
  refine r_aload_n X dX12_init_1100 rfl ?_
  refine r_bipush (v := 12) X dX12_init_1101 (by decide +kernel) ?_
  refine a_newi (N := 12) (k := 36) X hn dX12_init_1103 (by decide +kernel) (by decide +kernel) rfl rfl rfl rfl ?_
  refine a_putF (a := 0) X hn ff_X12_119 hnm dX12_init_1105 rfl rfl rfl rfl ?_
  refine r_aload_n X dX12_init_1108 rfl ?_
  refine r_bipush (v := 8) X dX12_init_1109 (by decide +kernel) ?_
  refine a_newi (N := 8) (k := 37) X hn dX12_init_1111 (by decide +kernel) (by decide +kernel) rfl rfl rfl rfl ?_
  refine a_putF (a := 0) X hn ff_X12_122 hnm dX12_init_1113 rfl rfl rfl rfl ?_
  refine r_aload_n X dX12_init_1116 rfl ?_
  refine r_bipush (v := 8) X dX12_init_1117 (by decide +kernel) ?_
  refine a_newi (N := 8) (k := 38) X hn dX12_init_1119 (by decide +kernel) (by decide +kernel) rfl rfl rfl rfl ?_
  refine a_putF (a := 0) X hn ff_X12_125 hnm dX12_init_1121 rfl rfl rfl rfl ?_
  refine r_aload_n X dX12_init_1124 rfl ?_
  refine r_sipush (v := 256) X dX12_init_1125 (by decide +kernel) ?_
  refine a_newi (N := 256) (k := 39) X hn dX12_init_1128 (by decide +kernel) (by decide +kernel) rfl rfl rfl rfl ?_
  refine a_putF (a := 0) X hn ff_X12_128 hnm dX12_init_1130 rfl rfl rfl rfl ?_
  refine r_aload_n X dX12_init_1133 rfl ?_
  refine r_sipush (v := 19683) X dX12_init_1134 (by decide +kernel) ?_
  refine a_newi (N := 19683) (k := 40) X hn dX12_init_1137 (by decide +kernel) (by decide +kernel) rfl rfl rfl rfl ?_
  refine a_putF (a := 0) X hn ff_X12_131 hnm dX12_init_1139 rfl rfl rfl rfl ?_
  refine r_eq (h' := h0 ++ [eO 12 [vI 0, vR (n + 1), vR (n + 2), vI 0, vR (n + 3), vI 0, vI 0, vR (n + 4), vR (n + 5), vR (n + 6), vR (n + 7), vR (n + 8), vI 0, vI 0, vI 0, vI 0, vI 0, vR (n + 9), vR (n + 10), vR (n + 11), vR (n + 12), vR (n + 13), vR (n + 14), vR (n + 15), vR (n + 16), vI 0, vI 0, vI 0, vR (n + 17), vI 0, vI 0, vI 0, vI 0, vI ((-1)), vI 0, vR (n + 18), vI 0, vR (n + 19), vI 0, vR (n + 20), vR (n + 21), vR (n + 22), vR (n + 23), vI 0, vR (n + 24), vR (n + 25), vI 0, vR (n + 26), vR (n + 27), vR (n + 28), vI 0, vR (n + 29), vI 0, vR (n + 30), vI 0, vR (n + 31), vR (n + 32), vI 0, vR (n + 33), vR (n + 34), vR (n + 35), vI 0, vR (n + 36), vI 0, vR (n + 37), vI 0, vR (n + 38), vR (n + 39), vR (n + 40), vN, vI 0, vI 0, vI 0, vI 0, vI 0, vN], eI 499 (fun _ => 0), eI 2994 (fun _ => 0), eI 499 (fun _ => 0), eI 20 (fun _ => 0), eI 20 (fun _ => 0), eI 20 (fun _ => 0), eI 750 (fun _ => 0), eI 400 (fun _ => 0), eI 133 wf, eI 2 (fun _ => 0), eI 48 (fun _ => 0), eI 48 (fun _ => 0), eI 48 (fun _ => 0), eI 48 (fun _ => 0), eI 1200 (fun _ => 0), eI 1200 (fun _ => 0), eI 40 (fun _ => 0), eI 96 (fun _ => 0), eI 160 (fun _ => 0), eI 40 (fun _ => 0), eI 10 (fun _ => 0), eI 420 (fun _ => 0), eI 144 (fun _ => 0), eI 6 (fun _ => 0), eI 6 (fun _ => 0), eI 16 (fun _ => 0), eI 153 (fun _ => 0), eI 153 (fun _ => 0), eI 15 (fun _ => 0), eI 15 (fun _ => 0), eI 8 (fun _ => 0), eI 401 (fun _ => 0), eI 8 (fun _ => 0), eI 8 (fun _ => 0), eI 256 (fun _ => 0), eI 12 (fun _ => 0), eI 8 (fun _ => 0), eI 8 (fun _ => 0), eI 256 (fun _ => 0), eI 19683 (fun _ => 0)]) (ls' := [some (vR (n + 0))]) (st' := []) rfl rfl rfl ?_
  refine r_aload_n X dX12_init_1142 rfl ?_
  refine r_bipush (v := 9) X dX12_init_1143 (by decide +kernel) ?_
  refine a_newi (N := 9) (k := 41) X hn dX12_init_1145 (by decide +kernel) (by decide +kernel) rfl rfl rfl rfl ?_
  refine a_putF (a := 0) X hn ff_X12_134 hnm dX12_init_1147 rfl rfl rfl rfl ?_
  refine r_aload_n X dX12_init_1150 rfl ?_
  refine r_sipush (v := 2900) X dX12_init_1151 (by decide +kernel) ?_
  refine a_newi (N := 2900) (k := 42) X hn dX12_init_1154 (by decide +kernel) (by decide +kernel) rfl rfl rfl rfl ?_
  refine a_putF (a := 0) X hn ff_X12_137 hnm dX12_init_1156 rfl rfl rfl rfl ?_
  exact r_ret_v X hr hlk dX12_init_1159 (Nat.le_of_ble_eq_true rfl) (Nat.le_of_ble_eq_true rfl) ⟨rfl, _, hwf, rfl⟩
