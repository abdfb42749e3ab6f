/-! the law: its judgement -/
def R_law : String := "ThumbBallotLaw"
def lw_P (b : Addr) (xs : List Int32) (args : Array Value) (s : State) : Prop := args = #[.ref b] ∧ s.IntsAt b xs ∧ xs.length ≤ 3072 ∧ (Jvm.Cond.and given_1 narrow_1).before args s = true
def lw_Q (_ : Array Value) (s : State) (o : Outcome) (t : State) : Prop := o = .returned (some (.int 1)) ∧ Framed s o t [] 600000 7302249
def lw_Z (below : List Frame) (a : Array Value) (s : State) : State → Prop := fun t => ∃ o, t.status = .running ∧ Ended t below o ∧ lw_Q a s o t
/-- the law's own end, with 1 on the stack, nothing written that was there before, its room as the claim has it -/
theorem lw_ret {p : Program} {l : Launch} {e : Env} {s : State} {m : MethodId} {below : List Frame} {meth : Method} {c : Code} {b : Nat} (hx : p.tables.exec = Jvm.exec) (hb : c.code = code) (hr : meth.sig.returnType = ret) (hlocks : meth.locks = false) {pc : Nat} {H : Heap} {ls : Array Slot} (hdg : decode code pc = .ok (.ireturn, 1)) : W p l e room_1 s m #[Value.ref b] below meth c H [] 600000 7302249 (lw_Z below #[Value.ref b] s) (F0 m pc ls [.int 1]) := by
  intro T hT X
  obtain ⟨fs, hret, hrun, hended, hW, hframe⟩ := X.leave (v := some (.int 1)) (hlocks := hlocks) (fun h => by rw [hr] at h; cases h)
  have hmeth' : T.vm.method? m = some meth := X.method'
  refine ⟨T.setFrames fs, ?_, .returned (some (.int 1)), hrun, hended, rfl, ⟨_, rfl⟩, hW, hframe⟩
  jvm_step X.here [X.here.top, hx, hb, hdg, hmeth', hr, ret, narrow_b1]
  (try refine ⟨rfl, ?_⟩); (try refine ⟨rfl, ?_⟩)
  first | (intro acts; rw [hret _ acts rfl rfl rfl]) | rw [hret _ _ rfl rfl rfl]
  exact Steps.refl _
/-- what holds at the law's entry: the machine, the code, the tables' words (any of lw_tbl by 'hts w (by decide +kernel)'), the script of L ints xs at the cell b, what the Statement gives of the start (any of its parts by flat_of_before) -/
def lw_At (p : Program) (s : State) (m : MethodId) (meth : Method) (c : Code) (b L : Nat) (xs : Nat → Int32) : Prop :=
  p.tables.exec = Jvm.exec ∧ c.code = code ∧ meth.sig.returnType = ret ∧ c.maxLocals = 4 ∧ s.vm.findClass R_law = some m.cls ∧ (∀ w ∈ lw_tbl, w.before #[Value.ref b] s = true) ∧ va_X b L xs s s.heap ∧ b < s.heap.size ∧ meth.locks = false ∧ (Jvm.Cond.and given_1 narrow_1).before #[Value.ref b] s = true
section LawRows
variable {p : Program} {l : Launch} {e : Env} {R : Room} {s : State} {m : MethodId} {args : Array Value} {below : List Frame} {meth : Method} {c : Code} {G : PG} {nL : Nat} {Q : State → Prop} {cells slots : Nat} {h : PH} {pc : Nat} {ls : List (Option PV)} {st : List PV} {cc : ByteArray} {own : String} {b L : Nat} {xs : Nat → Int32}
theorem r_aload_nS (X : pX p s m args c G nL cc own) {i : Fin 4} {j : Nat} (hd : decode cc pc = .ok (.aload_n i, 1)) (hk : ls[(i : Nat)]? = some (some (vS j))) (k : PW p l e R s m args below meth c G nL Q cells slots h (pc + 1) ls (vS j :: st)) : PW p l e R s m args below meth c G nL Q cells slots h pc ls st := by
  intro H locs lsA hI hl
  exact lv_aload_n X.1 X.2.1 hd rfl (pl_at hl hk) (k H locs lsA hI hl)
theorem r_scr (X : pX p s m args c G nL cc own) (hX : va_X b L xs s s.heap) (hbl : b < s.heap.size) (hG : G.2.2.1 = s.heap.size) (hG3 : G.2.2.2 3 = b) {i v : Int32} (hd : decode cc pc = .ok (.iaload, 1)) (hin : vp_in i L) (hv : xs i.toNatClampNeg = v) (k : PW p l e R s m args below meth c G nL Q cells slots h (pc + 1) ls (vI v :: st)) : PW p l e R s m args below meth c G nL Q cells slots h pc ls (vI i :: vS 3 :: st) := by
  intro H locs lsA hI hl
  subst hv
  subst hG3
  exact va_sld X.1 X.2.1 hX hbl (by show ¬ G.2.2.1 ≤ _; rw [hG]; exact Nat.not_le.mpr hbl) hI.2.2 hin hd (k H locs lsA hI hl)
theorem r_scl (X : pX p s m args c G nL cc own) (hX : va_X b L xs s s.heap) (hbl : b < s.heap.size) (hG : G.2.2.1 = s.heap.size) (hG3 : G.2.2.2 3 = b) {v : Int32} (hd : decode cc pc = .ok (.arraylength, 1)) (hv : Int32.ofNat L = v) (k : PW p l e R s m args below meth c G nL Q cells slots h (pc + 1) ls (vI v :: st)) : PW p l e R s m args below meth c G nL Q cells slots h pc ls (vS 3 :: st) := by
  intro H locs lsA hI hl
  subst hv
  subst hG3
  exact va_slen X.1 X.2.1 hX hbl (by show ¬ G.2.2.1 ≤ _; rw [hG]; exact Nat.not_le.mpr hbl) hI.2.2 hd (k H locs lsA hI hl)
theorem r_lret (X : pX p s m #[Value.ref b] c G nL code own) (hr : meth.sig.returnType = ret) (hlk : meth.locks = false) (hG : G.2.2.1 = s.heap.size) (hd : decode code pc = .ok (.ireturn, 1)) (hc : Nat.ble cells 600000 = true) (hs : Nat.ble slots 7302249 = true) : PW p l e room_1 s m #[Value.ref b] below meth c G nL (lw_Z below #[Value.ref b] s) cells slots h pc ls [vI 1] := by
  intro H locs lsA hI hl
  refine va_forget (fun q hq => by rw [← hG]; exact hI.2.2.2.2 q hq) ?_
  refine W.widen (Nat.le_of_ble_eq_true hc) (Nat.le_of_ble_eq_true hs) ?_
  exact lw_ret X.1 X.2.1 hr hlk hd
end LawRows
theorem tabc (x : Int32) (lo hi : Nat) (hb : hi < 2 ^ 31) : (x.toInt < (lo : Int) ∨ (hi : Int) < x.toInt) ∨ ∃ j : Nat, j + lo ≤ hi ∧ x = nI (lo + j) := by
  by_cases h1 : x.toInt < (lo : Int)
  · exact Or.inl (Or.inl h1)
  · by_cases h2 : (hi : Int) < x.toInt
    · exact Or.inl (Or.inr h2)
    · refine Or.inr ⟨x.toInt.toNat - lo, by omega, ?_⟩
      have e : lo + (x.toInt.toNat - lo) = x.toInt.toNat := by omega
      rw [e]
      apply Int32.toInt_inj.mp
      rw [nI_toInt (by omega)]
      omega
abbrev lls (nc nm t : Nat) : List (Option PV) := [some (vS 3), some (vR nc), some (vR nm), some (vI (nI (6 * t)))]
theorem sc_v {xs : Nat → Int32} {k : Nat} (hk : k < 2147483648) : xs (nI k).toNatClampNeg = xs k := by
  have : (nI k).toNatClampNeg = k := by
    show (nI k).toInt.toNat = k
    rw [nI_toInt (by omega)]
    omega
  rw [this]
section LawCase
variable {p : Program} {l : Launch} {e : Env} {s : State} {m : MethodId} {below : List Frame} {meth : Method} {c : Code} {G : PG} {Q : State → Prop} {b L : Nat} {xs : Nat → Int32} {cells slots nc nm t : Nat} {h : PH}
theorem r_arg {R : Room} {st : List PV} {pc j : Nat} {jj : Int} (X : pX p s m #[Value.ref b] c G 4 cL_law RL) (hX : va_X b L xs s s.heap) (hbl : b < s.heap.size) (hG : G.2.2.1 = s.heap.size) (hG3 : G.2.2.2 3 = b) (hL : L ≤ 3072) (ht : 6 * t + 6 ≤ L) (d0 : decode cL_law pc = .ok (.aload_n 0, 1)) (d1 : decode cL_law (pc + 1) = .ok (.iload_n 3, 1)) (d2 : decode cL_law (pc + 1 + 1) = .ok (.iconst jj, 1)) (d3 : decode cL_law (pc + 1 + 1 + 1) = .ok (.iadd, 1)) (d4 : decode cL_law (pc + 1 + 1 + 1 + 1) = .ok (.iaload, 1)) (hj : j < 6) (hjj : Int32.ofInt jj = nI j) (k : PW p l e R s m #[Value.ref b] below meth c G 4 Q cells slots h (pc + 1 + 1 + 1 + 1 + 1) (lls nc nm t) (vI (xs (6 * t + j)) :: st)) : PW p l e R s m #[Value.ref b] below meth c G 4 Q cells slots h pc (lls nc nm t) st := by
  refine r_aload_nS X d0 rfl ?_
  refine r_iload_n X d1 rfl ?_
  refine r_iconst X d2 hjj ?_
  refine r_iaddE (v := nI (6 * t + j)) X d3 (nI_add _ _) ?_
  exact r_scr X hX hbl hG hG3 d4 (vp_in_nI (by omega) (by omega)) (sc_v (by omega)) k
/-- what a case goes on to -/
def lKn (p : Program) (l : Launch) (e : Env) (s : State) (m : MethodId) (below : List Frame) (meth : Method) (c : Code) (G : PG) (Q : State → Prop) (b nc nm t cells slots : Nat) : Prop := ∀ c' s' h', c' ≤ cells + 3 → s' ≤ slots + 488 → LIY PCW nc nm h' → PW p l e room_1 s m #[Value.ref b] below meth c G 4 Q c' s' h' 1357 (lls nc nm t) []
theorem lc_0 (X : pX p s m #[Value.ref b] c G 4 cL_law RL) (hX : va_X b L xs s s.heap) (hbl : b < s.heap.size) (hG : G.2.2.1 = s.heap.size) (hG3 : G.2.2.2 3 = b) (hL : L ≤ 3072) (ht : 6 * t + 6 ≤ L) (hcl : cells + 3 ≤ 600000) (hsl : slots + 488 ≤ 7302249) (hI : LIY PCW nc nm h) (K : lKn p l e s m below meth c G Q b nc nm t cells slots) : PW p l e room_1 s m #[Value.ref b] below meth c G 4 Q cells slots h 204 (lls nc nm t) [] := by
  refine r_aload_n X dL_law_204 rfl ?_
  refine r_arg (j := 1) X hX hbl hG hG3 hL ht dL_law_205 dL_law_206 dL_law_207 dL_law_208 dL_law_209 (by decide) rfl ?_
  obtain ⟨Φ0, hP, hQ⟩ := pq_state l G hI (xs (6 * t + 1))
  obtain ⟨fs, hh⟩ := hI.cl
  refine r_callV X kv_L_13 dL_law_210 (As := [vI (xs (6 * t + 1))]) rfl rfl hh rfl hP ⟨by decide, by decide⟩ (Nat.zero_le _) ⟨by show _ ≤ 600000; omega, by show _ ≤ 7302249; omega⟩ (fun r h1 hr => ?_)
  obtain ⟨v, rfl, ⟨fs1, hh1⟩, Φ1, hP1, hQ1⟩ := hQ _ _ hr
  refine r_pop X dL_law_213 ?_
  refine r_aload_n X dL_law_214 rfl ?_
  refine r_arg (j := 1) X hX hbl hG hG3 hL ht dL_law_215 dL_law_216 dL_law_217 dL_law_218 dL_law_219 (by decide) rfl ?_
  refine r_callV X kv_L_17 dL_law_220 (As := [vI (xs (6 * t + 1))]) (rest := []) rfl rfl hh1 rfl hP1 ⟨by decide, by decide⟩ (Nat.zero_le _) ⟨by show _ ≤ 600000; omega, by show _ ≤ 7302249; omega⟩ (fun r2 h2 hr2 => ?_)
  obtain ⟨rfl, hI2⟩ := hQ1 _ _ hr2
  refine r_pop X dL_law_223 ?_
  refine r_goto (tgt := 1357) X dL_law_224 rfl ?_
  exact K _ _ _ (by omega) (by omega) hI2
theorem lc_1 (X : pX p s m #[Value.ref b] c G 4 cL_law RL) (hX : va_X b L xs s s.heap) (hbl : b < s.heap.size) (hG : G.2.2.1 = s.heap.size) (hG3 : G.2.2.2 3 = b) (hL : L ≤ 3072) (ht : 6 * t + 6 ≤ L) (hcl : cells + 3 ≤ 600000) (hsl : slots + 488 ≤ 7302249) (hI : LIY PCW nc nm h) (K : lKn p l e s m below meth c G Q b nc nm t cells slots) : PW p l e room_1 s m #[Value.ref b] below meth c G 4 Q cells slots h 227 (lls nc nm t) [] := by
  refine r_aload_n X dL_law_227 rfl ?_
  refine r_arg (j := 1) X hX hbl hG hG3 hL ht dL_law_228 dL_law_229 dL_law_230 dL_law_231 dL_law_232 (by decide) rfl ?_
  refine r_arg (j := 2) X hX hbl hG hG3 hL ht dL_law_233 dL_law_234 dL_law_235 dL_law_236 dL_law_237 (by decide) rfl ?_
  refine r_arg (j := 3) X hX hbl hG hG3 hL ht dL_law_238 dL_law_239 dL_law_240 dL_law_241 dL_law_242 (by decide) rfl ?_
  refine r_arg (j := 4) X hX hbl hG hG3 hL ht dL_law_243 dL_law_244 dL_law_245 dL_law_246 dL_law_247 (by decide) rfl ?_
  obtain ⟨Φ0, hP, hQ⟩ := pq_voter l G hI (xs (6 * t + 1)) (xs (6 * t + 2)) (xs (6 * t + 3)) (xs (6 * t + 4))
  obtain ⟨fs, hh⟩ := hI.cl
  refine r_callV X kv_L_18 dL_law_248 (As := [vI (xs (6 * t + 1)), vI (xs (6 * t + 2)), vI (xs (6 * t + 3)), vI (xs (6 * t + 4))]) rfl rfl hh rfl hP ⟨by decide, by decide⟩ (Nat.zero_le _) ⟨by show _ ≤ 600000; omega, by show _ ≤ 7302249; omega⟩ (fun r h1 hr => ?_)
  obtain ⟨v, rfl, ⟨fs1, hh1⟩, Φ1, hP1, hQ1⟩ := hQ _ _ hr
  refine r_pop X dL_law_251 ?_
  refine r_aload_n X dL_law_252 rfl ?_
  refine r_arg (j := 1) X hX hbl hG hG3 hL ht dL_law_253 dL_law_254 dL_law_255 dL_law_256 dL_law_257 (by decide) rfl ?_
  refine r_arg (j := 2) X hX hbl hG hG3 hL ht dL_law_258 dL_law_259 dL_law_260 dL_law_261 dL_law_262 (by decide) rfl ?_
  refine r_arg (j := 3) X hX hbl hG hG3 hL ht dL_law_263 dL_law_264 dL_law_265 dL_law_266 dL_law_267 (by decide) rfl ?_
  refine r_arg (j := 4) X hX hbl hG hG3 hL ht dL_law_268 dL_law_269 dL_law_270 dL_law_271 dL_law_272 (by decide) rfl ?_
  refine r_callV X kv_L_22 dL_law_273 (As := [vI (xs (6 * t + 1)), vI (xs (6 * t + 2)), vI (xs (6 * t + 3)), vI (xs (6 * t + 4))]) (rest := []) rfl rfl hh1 rfl hP1 ⟨by decide, by decide⟩ (Nat.zero_le _) ⟨by show _ ≤ 600000; omega, by show _ ≤ 7302249; omega⟩ (fun r2 h2 hr2 => ?_)
  obtain ⟨rfl, hI2⟩ := hQ1 _ _ hr2
  refine r_pop X dL_law_276 ?_
  refine r_goto (tgt := 1357) X dL_law_277 rfl ?_
  exact K _ _ _ (by omega) (by omega) hI2
theorem lc_2 (X : pX p s m #[Value.ref b] c G 4 cL_law RL) (hX : va_X b L xs s s.heap) (hbl : b < s.heap.size) (hG : G.2.2.1 = s.heap.size) (hG3 : G.2.2.2 3 = b) (hL : L ≤ 3072) (ht : 6 * t + 6 ≤ L) (hcl : cells + 3 ≤ 600000) (hsl : slots + 488 ≤ 7302249) (hI : LIY PCW nc nm h) (K : lKn p l e s m below meth c G Q b nc nm t cells slots) : PW p l e room_1 s m #[Value.ref b] below meth c G 4 Q cells slots h 280 (lls nc nm t) [] := by
  refine r_aload_n X dL_law_280 rfl ?_
  refine r_arg (j := 1) X hX hbl hG hG3 hL ht dL_law_281 dL_law_282 dL_law_283 dL_law_284 dL_law_285 (by decide) rfl ?_
  refine r_arg (j := 2) X hX hbl hG hG3 hL ht dL_law_286 dL_law_287 dL_law_288 dL_law_289 dL_law_290 (by decide) rfl ?_
  refine r_arg (j := 3) X hX hbl hG hG3 hL ht dL_law_291 dL_law_292 dL_law_293 dL_law_294 dL_law_295 (by decide) rfl ?_
  obtain ⟨Φ0, hP, hQ⟩ := pq_set l G hI (xs (6 * t + 1)) (xs (6 * t + 2)) (xs (6 * t + 3))
  obtain ⟨fs, hh⟩ := hI.cl
  refine r_callV X kv_L_23 dL_law_296 (As := [vI (xs (6 * t + 1)), vI (xs (6 * t + 2)), vI (xs (6 * t + 3))]) rfl rfl hh rfl hP ⟨by decide, by decide⟩ (Nat.zero_le _) ⟨by show _ ≤ 600000; omega, by show _ ≤ 7302249; omega⟩ (fun r h1 hr => ?_)
  obtain ⟨v, rfl, ⟨fs1, hh1⟩, Φ1, hP1, hQ1⟩ := hQ _ _ hr
  refine r_pop X dL_law_299 ?_
  refine r_aload_n X dL_law_300 rfl ?_
  refine r_arg (j := 1) X hX hbl hG hG3 hL ht dL_law_301 dL_law_302 dL_law_303 dL_law_304 dL_law_305 (by decide) rfl ?_
  refine r_arg (j := 2) X hX hbl hG hG3 hL ht dL_law_306 dL_law_307 dL_law_308 dL_law_309 dL_law_310 (by decide) rfl ?_
  refine r_arg (j := 3) X hX hbl hG hG3 hL ht dL_law_311 dL_law_312 dL_law_313 dL_law_314 dL_law_315 (by decide) rfl ?_
  refine r_callV X kv_L_27 dL_law_316 (As := [vI (xs (6 * t + 1)), vI (xs (6 * t + 2)), vI (xs (6 * t + 3))]) (rest := []) rfl rfl hh1 rfl hP1 ⟨by decide, by decide⟩ (Nat.zero_le _) ⟨by show _ ≤ 600000; omega, by show _ ≤ 7302249; omega⟩ (fun r2 h2 hr2 => ?_)
  obtain ⟨rfl, hI2⟩ := hQ1 _ _ hr2
  refine r_pop X dL_law_319 ?_
  refine r_goto (tgt := 1357) X dL_law_320 rfl ?_
  exact K _ _ _ (by omega) (by omega) hI2
theorem lc_3 (X : pX p s m #[Value.ref b] c G 4 cL_law RL) (hX : va_X b L xs s s.heap) (hbl : b < s.heap.size) (hG : G.2.2.1 = s.heap.size) (hG3 : G.2.2.2 3 = b) (hL : L ≤ 3072) (ht : 6 * t + 6 ≤ L) (hcl : cells + 3 ≤ 600000) (hsl : slots + 488 ≤ 7302249) (hI : LIY PCW nc nm h) (K : lKn p l e s m below meth c G Q b nc nm t cells slots) : PW p l e room_1 s m #[Value.ref b] below meth c G 4 Q cells slots h 323 (lls nc nm t) [] := by
  refine r_aload_n X dL_law_323 rfl ?_
  refine r_arg (j := 1) X hX hbl hG hG3 hL ht dL_law_324 dL_law_325 dL_law_326 dL_law_327 dL_law_328 (by decide) rfl ?_
  refine r_arg (j := 2) X hX hbl hG hG3 hL ht dL_law_329 dL_law_330 dL_law_331 dL_law_332 dL_law_333 (by decide) rfl ?_
  obtain ⟨Φ0, hP, hQ⟩ := pq_press l G hI (xs (6 * t + 1)) (xs (6 * t + 2))
  obtain ⟨fs, hh⟩ := hI.cl
  refine r_callV X kv_L_28 dL_law_334 (As := [vI (xs (6 * t + 1)), vI (xs (6 * t + 2))]) rfl rfl hh rfl hP ⟨by decide, by decide⟩ (Nat.zero_le _) ⟨by show _ ≤ 600000; omega, by show _ ≤ 7302249; omega⟩ (fun r h1 hr => ?_)
  obtain ⟨v, rfl, ⟨fs1, hh1⟩, Φ1, hP1, hQ1⟩ := hQ _ _ hr
  refine r_pop X dL_law_337 ?_
  refine r_aload_n X dL_law_338 rfl ?_
  refine r_arg (j := 1) X hX hbl hG hG3 hL ht dL_law_339 dL_law_340 dL_law_341 dL_law_342 dL_law_343 (by decide) rfl ?_
  refine r_arg (j := 2) X hX hbl hG hG3 hL ht dL_law_344 dL_law_345 dL_law_346 dL_law_347 dL_law_348 (by decide) rfl ?_
  refine r_callV X kv_L_32 dL_law_349 (As := [vI (xs (6 * t + 1)), vI (xs (6 * t + 2))]) (rest := []) rfl rfl hh1 rfl hP1 ⟨by decide, by decide⟩ (Nat.zero_le _) ⟨by show _ ≤ 600000; omega, by show _ ≤ 7302249; omega⟩ (fun r2 h2 hr2 => ?_)
  obtain ⟨rfl, hI2⟩ := hQ1 _ _ hr2
  refine r_pop X dL_law_352 ?_
  refine r_goto (tgt := 1357) X dL_law_353 rfl ?_
  exact K _ _ _ (by omega) (by omega) hI2
theorem lc_4 (X : pX p s m #[Value.ref b] c G 4 cL_law RL) (hX : va_X b L xs s s.heap) (hbl : b < s.heap.size) (hG : G.2.2.1 = s.heap.size) (hG3 : G.2.2.2 3 = b) (hL : L ≤ 3072) (ht : 6 * t + 6 ≤ L) (hcl : cells + 3 ≤ 600000) (hsl : slots + 488 ≤ 7302249) (hI : LIY PCW nc nm h) (K : lKn p l e s m below meth c G Q b nc nm t cells slots) : PW p l e room_1 s m #[Value.ref b] below meth c G 4 Q cells slots h 356 (lls nc nm t) [] := by
  refine r_aload_n X dL_law_356 rfl ?_
  refine r_arg (j := 1) X hX hbl hG hG3 hL ht dL_law_357 dL_law_358 dL_law_359 dL_law_360 dL_law_361 (by decide) rfl ?_
  refine r_arg (j := 2) X hX hbl hG hG3 hL ht dL_law_362 dL_law_363 dL_law_364 dL_law_365 dL_law_366 (by decide) rfl ?_
  obtain ⟨Φ0, hP, hQ⟩ := pq_lift l G hI (xs (6 * t + 1)) (xs (6 * t + 2))
  obtain ⟨fs, hh⟩ := hI.cl
  refine r_callV X kv_L_33 dL_law_367 (As := [vI (xs (6 * t + 1)), vI (xs (6 * t + 2))]) rfl rfl hh rfl hP ⟨by decide, by decide⟩ (Nat.zero_le _) ⟨by show _ ≤ 600000; omega, by show _ ≤ 7302249; omega⟩ (fun r h1 hr => ?_)
  obtain ⟨v, rfl, ⟨fs1, hh1⟩, Φ1, hP1, hQ1⟩ := hQ _ _ hr
  refine r_pop X dL_law_370 ?_
  refine r_aload_n X dL_law_371 rfl ?_
  refine r_arg (j := 1) X hX hbl hG hG3 hL ht dL_law_372 dL_law_373 dL_law_374 dL_law_375 dL_law_376 (by decide) rfl ?_
  refine r_arg (j := 2) X hX hbl hG hG3 hL ht dL_law_377 dL_law_378 dL_law_379 dL_law_380 dL_law_381 (by decide) rfl ?_
  refine r_callV X kv_L_37 dL_law_382 (As := [vI (xs (6 * t + 1)), vI (xs (6 * t + 2))]) (rest := []) rfl rfl hh1 rfl hP1 ⟨by decide, by decide⟩ (Nat.zero_le _) ⟨by show _ ≤ 600000; omega, by show _ ≤ 7302249; omega⟩ (fun r2 h2 hr2 => ?_)
  obtain ⟨rfl, hI2⟩ := hQ1 _ _ hr2
  refine r_pop X dL_law_385 ?_
  refine r_goto (tgt := 1357) X dL_law_386 rfl ?_
  exact K _ _ _ (by omega) (by omega) hI2
theorem lc_5 (X : pX p s m #[Value.ref b] c G 4 cL_law RL) (hX : va_X b L xs s s.heap) (hbl : b < s.heap.size) (hG : G.2.2.1 = s.heap.size) (hG3 : G.2.2.2 3 = b) (hL : L ≤ 3072) (ht : 6 * t + 6 ≤ L) (hcl : cells + 3 ≤ 600000) (hsl : slots + 488 ≤ 7302249) (hI : LIY PCW nc nm h) (K : lKn p l e s m below meth c G Q b nc nm t cells slots) : PW p l e room_1 s m #[Value.ref b] below meth c G 4 Q cells slots h 389 (lls nc nm t) [] := by
  refine r_aload_n X dL_law_389 rfl ?_
  refine r_arg (j := 1) X hX hbl hG hG3 hL ht dL_law_390 dL_law_391 dL_law_392 dL_law_393 dL_law_394 (by decide) rfl ?_
  refine r_arg (j := 2) X hX hbl hG hG3 hL ht dL_law_395 dL_law_396 dL_law_397 dL_law_398 dL_law_399 (by decide) rfl ?_
  obtain ⟨Φ0, hP, hQ⟩ := pq_hand l G hI (xs (6 * t + 1)) (xs (6 * t + 2))
  obtain ⟨fs, hh⟩ := hI.cl
  refine r_callV X kv_L_38 dL_law_400 (As := [vI (xs (6 * t + 1)), vI (xs (6 * t + 2))]) rfl rfl hh rfl hP ⟨by decide, by decide⟩ (Nat.zero_le _) ⟨by show _ ≤ 600000; omega, by show _ ≤ 7302249; omega⟩ (fun r h1 hr => ?_)
  obtain ⟨v, rfl, ⟨fs1, hh1⟩, Φ1, hP1, hQ1⟩ := hQ _ _ hr
  refine r_pop X dL_law_403 ?_
  refine r_aload_n X dL_law_404 rfl ?_
  refine r_arg (j := 1) X hX hbl hG hG3 hL ht dL_law_405 dL_law_406 dL_law_407 dL_law_408 dL_law_409 (by decide) rfl ?_
  refine r_arg (j := 2) X hX hbl hG hG3 hL ht dL_law_410 dL_law_411 dL_law_412 dL_law_413 dL_law_414 (by decide) rfl ?_
  refine r_callV X kv_L_41 dL_law_415 (As := [vI (xs (6 * t + 1)), vI (xs (6 * t + 2))]) (rest := []) rfl rfl hh1 rfl hP1 ⟨by decide, by decide⟩ (Nat.zero_le _) ⟨by show _ ≤ 600000; omega, by show _ ≤ 7302249; omega⟩ (fun r2 h2 hr2 => ?_)
  obtain ⟨rfl, hI2⟩ := hQ1 _ _ hr2
  refine r_pop X dL_law_418 ?_
  refine r_goto (tgt := 1357) X dL_law_419 rfl ?_
  exact K _ _ _ (by omega) (by omega) hI2
theorem lc_6 (X : pX p s m #[Value.ref b] c G 4 cL_law RL) (hX : va_X b L xs s s.heap) (hbl : b < s.heap.size) (hG : G.2.2.1 = s.heap.size) (hG3 : G.2.2.2 3 = b) (hL : L ≤ 3072) (ht : 6 * t + 6 ≤ L) (hcl : cells + 3 ≤ 600000) (hsl : slots + 488 ≤ 7302249) (hI : LIY PCW nc nm h) (K : lKn p l e s m below meth c G Q b nc nm t cells slots) : PW p l e room_1 s m #[Value.ref b] below meth c G 4 Q cells slots h 422 (lls nc nm t) [] := by
  refine r_aload_n X dL_law_422 rfl ?_
  refine r_arg (j := 1) X hX hbl hG hG3 hL ht dL_law_423 dL_law_424 dL_law_425 dL_law_426 dL_law_427 (by decide) rfl ?_
  obtain ⟨Φ0, hP, hQ⟩ := pq_hours l G hI (xs (6 * t + 1))
  obtain ⟨fs, hh⟩ := hI.cl
  refine r_callV X kv_L_42 dL_law_428 (As := [vI (xs (6 * t + 1))]) rfl rfl hh rfl hP ⟨by decide, by decide⟩ (Nat.zero_le _) ⟨by show _ ≤ 600000; omega, by show _ ≤ 7302249; omega⟩ (fun r h1 hr => ?_)
  obtain ⟨v, rfl, ⟨fs1, hh1⟩, Φ1, hP1, hQ1⟩ := hQ _ _ hr
  refine r_pop X dL_law_431 ?_
  refine r_aload_n X dL_law_432 rfl ?_
  refine r_arg (j := 1) X hX hbl hG hG3 hL ht dL_law_433 dL_law_434 dL_law_435 dL_law_436 dL_law_437 (by decide) rfl ?_
  refine r_callV X kv_L_45 dL_law_438 (As := [vI (xs (6 * t + 1))]) (rest := []) rfl rfl hh1 rfl hP1 ⟨by decide, by decide⟩ (Nat.zero_le _) ⟨by show _ ≤ 600000; omega, by show _ ≤ 7302249; omega⟩ (fun r2 h2 hr2 => ?_)
  obtain ⟨rfl, hI2⟩ := hQ1 _ _ hr2
  refine r_pop X dL_law_441 ?_
  refine r_goto (tgt := 1357) X dL_law_442 rfl ?_
  exact K _ _ _ (by omega) (by omega) hI2
theorem lc_7 (X : pX p s m #[Value.ref b] c G 4 cL_law RL) (hX : va_X b L xs s s.heap) (hbl : b < s.heap.size) (hG : G.2.2.1 = s.heap.size) (hG3 : G.2.2.2 3 = b) (hL : L ≤ 3072) (ht : 6 * t + 6 ≤ L) (hcl : cells + 3 ≤ 600000) (hsl : slots + 488 ≤ 7302249) (hI : LIY PCW nc nm h) (K : lKn p l e s m below meth c G Q b nc nm t cells slots) : PW p l e room_1 s m #[Value.ref b] below meth c G 4 Q cells slots h 445 (lls nc nm t) [] := by
  refine r_aload_n X dL_law_445 rfl ?_
  refine r_arg (j := 1) X hX hbl hG hG3 hL ht dL_law_446 dL_law_447 dL_law_448 dL_law_449 dL_law_450 (by decide) rfl ?_
  refine r_arg (j := 2) X hX hbl hG hG3 hL ht dL_law_451 dL_law_452 dL_law_453 dL_law_454 dL_law_455 (by decide) rfl ?_
  refine r_arg (j := 3) X hX hbl hG hG3 hL ht dL_law_456 dL_law_457 dL_law_458 dL_law_459 dL_law_460 (by decide) rfl ?_
  refine r_arg (j := 4) X hX hbl hG hG3 hL ht dL_law_461 dL_law_462 dL_law_463 dL_law_464 dL_law_465 (by decide) rfl ?_
  refine r_arg (j := 5) X hX hbl hG hG3 hL ht dL_law_466 dL_law_467 dL_law_468 dL_law_469 dL_law_470 (by decide) rfl ?_
  obtain ⟨Φ0, hP, hQ⟩ := pq_feed l G hI (xs (6 * t + 1)) (xs (6 * t + 2)) (xs (6 * t + 3)) (xs (6 * t + 4)) (xs (6 * t + 5))
  obtain ⟨fs, hh⟩ := hI.cl
  refine r_callV X kv_L_46 dL_law_471 (As := [vI (xs (6 * t + 1)), vI (xs (6 * t + 2)), vI (xs (6 * t + 3)), vI (xs (6 * t + 4)), vI (xs (6 * t + 5))]) rfl rfl hh rfl hP ⟨by decide, by decide⟩ (Nat.zero_le _) ⟨by show _ ≤ 600000; omega, by show _ ≤ 7302249; omega⟩ (fun r h1 hr => ?_)
  obtain ⟨v, rfl, ⟨fs1, hh1⟩, Φ1, hP1, hQ1⟩ := hQ _ _ hr
  refine r_pop X dL_law_474 ?_
  refine r_aload_n X dL_law_475 rfl ?_
  refine r_arg (j := 1) X hX hbl hG hG3 hL ht dL_law_476 dL_law_477 dL_law_478 dL_law_479 dL_law_480 (by decide) rfl ?_
  refine r_arg (j := 2) X hX hbl hG hG3 hL ht dL_law_481 dL_law_482 dL_law_483 dL_law_484 dL_law_485 (by decide) rfl ?_
  refine r_arg (j := 3) X hX hbl hG hG3 hL ht dL_law_486 dL_law_487 dL_law_488 dL_law_489 dL_law_490 (by decide) rfl ?_
  refine r_arg (j := 4) X hX hbl hG hG3 hL ht dL_law_491 dL_law_492 dL_law_493 dL_law_494 dL_law_495 (by decide) rfl ?_
  refine r_arg (j := 5) X hX hbl hG hG3 hL ht dL_law_496 dL_law_497 dL_law_498 dL_law_499 dL_law_500 (by decide) rfl ?_
  refine r_callV X kv_L_50 dL_law_501 (As := [vI (xs (6 * t + 1)), vI (xs (6 * t + 2)), vI (xs (6 * t + 3)), vI (xs (6 * t + 4)), vI (xs (6 * t + 5))]) (rest := []) rfl rfl hh1 rfl hP1 ⟨by decide, by decide⟩ (Nat.zero_le _) ⟨by show _ ≤ 600000; omega, by show _ ≤ 7302249; omega⟩ (fun r2 h2 hr2 => ?_)
  obtain ⟨rfl, hI2⟩ := hQ1 _ _ hr2
  refine r_pop X dL_law_504 ?_
  refine r_goto (tgt := 1357) X dL_law_505 rfl ?_
  exact K _ _ _ (by omega) (by omega) hI2
theorem lc_8 (X : pX p s m #[Value.ref b] c G 4 cL_law RL) (hX : va_X b L xs s s.heap) (hbl : b < s.heap.size) (hG : G.2.2.1 = s.heap.size) (hG3 : G.2.2.2 3 = b) (hL : L ≤ 3072) (ht : 6 * t + 6 ≤ L) (hcl : cells + 3 ≤ 600000) (hsl : slots + 488 ≤ 7302249) (hI : LIY PCW nc nm h) (K : lKn p l e s m below meth c G Q b nc nm t cells slots) : PW p l e room_1 s m #[Value.ref b] below meth c G 4 Q cells slots h 508 (lls nc nm t) [] := by
  refine r_aload_n X dL_law_508 rfl ?_
  refine r_arg (j := 1) X hX hbl hG hG3 hL ht dL_law_509 dL_law_510 dL_law_511 dL_law_512 dL_law_513 (by decide) rfl ?_
  obtain ⟨Φ0, hP, hQ⟩ := pq_end l G hI (xs (6 * t + 1))
  obtain ⟨fs, hh⟩ := hI.cl
  refine r_callV X kv_L_51 dL_law_514 (As := [vI (xs (6 * t + 1))]) rfl rfl hh rfl hP ⟨by decide, by decide⟩ (Nat.zero_le _) ⟨by show _ ≤ 600000; omega, by show _ ≤ 7302249; omega⟩ (fun r h1 hr => ?_)
  obtain ⟨v, rfl, ⟨fs1, hh1⟩, Φ1, hP1, hQ1⟩ := hQ _ _ hr
  refine r_pop X dL_law_517 ?_
  refine r_aload_n X dL_law_518 rfl ?_
  refine r_arg (j := 1) X hX hbl hG hG3 hL ht dL_law_519 dL_law_520 dL_law_521 dL_law_522 dL_law_523 (by decide) rfl ?_
  refine r_callV X kv_L_55 dL_law_524 (As := [vI (xs (6 * t + 1))]) (rest := []) rfl rfl hh1 rfl hP1 ⟨by decide, by decide⟩ (Nat.zero_le _) ⟨by show _ ≤ 600000; omega, by show _ ≤ 7302249; omega⟩ (fun r2 h2 hr2 => ?_)
  obtain ⟨rfl, hI2⟩ := hQ1 _ _ hr2
  refine r_pop X dL_law_527 ?_
  refine r_goto (tgt := 1357) X dL_law_528 rfl ?_
  exact K _ _ _ (by omega) (by omega) hI2
theorem lc_9 (X : pX p s m #[Value.ref b] c G 4 cL_law RL) (hX : va_X b L xs s s.heap) (hbl : b < s.heap.size) (hG : G.2.2.1 = s.heap.size) (hG3 : G.2.2.2 3 = b) (hL : L ≤ 3072) (ht : 6 * t + 6 ≤ L) (hcl : cells + 3 ≤ 600000) (hsl : slots + 488 ≤ 7302249) (hI : LIY PCW nc nm h) (K : lKn p l e s m below meth c G Q b nc nm t cells slots) : PW p l e room_1 s m #[Value.ref b] below meth c G 4 Q cells slots h 531 (lls nc nm t) [] := by
  refine r_aload_n X dL_law_531 rfl ?_
  refine r_arg (j := 1) X hX hbl hG hG3 hL ht dL_law_532 dL_law_533 dL_law_534 dL_law_535 dL_law_536 (by decide) rfl ?_
  obtain ⟨Φ0, hP, hQ⟩ := text_pair l G hI (xs (6 * t + 1))
  obtain ⟨fs, hh⟩ := hI.cl
  refine r_callV X kv_L_56 dL_law_537 (As := [vI (xs (6 * t + 1))]) rfl rfl hh rfl hP ⟨by decide, by decide⟩ (Nat.zero_le _) ⟨by show _ ≤ 600000; omega, by show _ ≤ 7302249; omega⟩ (fun r h1 hr => ?_)
  obtain ⟨v, rfl, ⟨fs1, hh1⟩, Φ1, hP1, hQ1⟩ := hQ _ _ hr
  refine r_pop X dL_law_540 ?_
  refine r_aload_n X dL_law_541 rfl ?_
  refine r_arg (j := 1) X hX hbl hG hG3 hL ht dL_law_542 dL_law_543 dL_law_544 dL_law_545 dL_law_546 (by decide) rfl ?_
  refine r_callV X kv_L_59 dL_law_547 (As := [vI (xs (6 * t + 1))]) (rest := []) rfl rfl hh1 rfl hP1 ⟨by decide, by decide⟩ (Nat.zero_le _) ⟨by show _ ≤ 600000; omega, by show _ ≤ 7302249; omega⟩ (fun r2 h2 hr2 => ?_)
  obtain ⟨rfl, hI2⟩ := hQ1 _ _ hr2
  refine r_pop X dL_law_550 ?_
  refine r_goto (tgt := 1357) X dL_law_551 rfl ?_
  exact K _ _ _ (by omega) (by omega) hI2
theorem lc_10 (X : pX p s m #[Value.ref b] c G 4 cL_law RL) (hX : va_X b L xs s s.heap) (hbl : b < s.heap.size) (hG : G.2.2.1 = s.heap.size) (hG3 : G.2.2.2 3 = b) (hL : L ≤ 3072) (ht : 6 * t + 6 ≤ L) (hcl : cells + 3 ≤ 600000) (hsl : slots + 488 ≤ 7302249) (hI : LIY PCW nc nm h) (K : lKn p l e s m below meth c G Q b nc nm t cells slots) : PW p l e room_1 s m #[Value.ref b] below meth c G 4 Q cells slots h 554 (lls nc nm t) [] := by
  refine r_aload_n X dL_law_554 rfl ?_
  refine r_arg (j := 1) X hX hbl hG hG3 hL ht dL_law_555 dL_law_556 dL_law_557 dL_law_558 dL_law_559 (by decide) rfl ?_
  obtain ⟨Φ0, hP, hQ⟩ := pq_fault l G hI (xs (6 * t + 1))
  obtain ⟨fs, hh⟩ := hI.cl
  refine r_callV X kv_L_60 dL_law_560 (As := [vI (xs (6 * t + 1))]) rfl rfl hh rfl hP ⟨by decide, by decide⟩ (Nat.zero_le _) ⟨by show _ ≤ 600000; omega, by show _ ≤ 7302249; omega⟩ (fun r h1 hr => ?_)
  obtain ⟨v, rfl, ⟨fs1, hh1⟩, Φ1, hP1, hQ1⟩ := hQ _ _ hr
  refine r_pop X dL_law_563 ?_
  refine r_aload_n X dL_law_564 rfl ?_
  refine r_arg (j := 1) X hX hbl hG hG3 hL ht dL_law_565 dL_law_566 dL_law_567 dL_law_568 dL_law_569 (by decide) rfl ?_
  refine r_callV X kv_L_63 dL_law_570 (As := [vI (xs (6 * t + 1))]) (rest := []) rfl rfl hh1 rfl hP1 ⟨by decide, by decide⟩ (Nat.zero_le _) ⟨by show _ ≤ 600000; omega, by show _ ≤ 7302249; omega⟩ (fun r2 h2 hr2 => ?_)
  obtain ⟨rfl, hI2⟩ := hQ1 _ _ hr2
  refine r_pop X dL_law_573 ?_
  refine r_goto (tgt := 1357) X dL_law_574 rfl ?_
  exact K _ _ _ (by omega) (by omega) hI2
theorem lc_11 (X : pX p s m #[Value.ref b] c G 4 cL_law RL) (hX : va_X b L xs s s.heap) (hbl : b < s.heap.size) (hG : G.2.2.1 = s.heap.size) (hG3 : G.2.2.2 3 = b) (hL : L ≤ 3072) (ht : 6 * t + 6 ≤ L) (hcl : cells + 3 ≤ 600000) (hsl : slots + 488 ≤ 7302249) (hI : LIY PCW nc nm h) (K : lKn p l e s m below meth c G Q b nc nm t cells slots) : PW p l e room_1 s m #[Value.ref b] below meth c G 4 Q cells slots h 577 (lls nc nm t) [] := by
  refine r_aload_n X dL_law_577 rfl ?_
  refine r_arg (j := 1) X hX hbl hG hG3 hL ht dL_law_578 dL_law_579 dL_law_580 dL_law_581 dL_law_582 (by decide) rfl ?_
  refine r_arg (j := 2) X hX hbl hG hG3 hL ht dL_law_583 dL_law_584 dL_law_585 dL_law_586 dL_law_587 (by decide) rfl ?_
  obtain ⟨Φ0, hP, hQ⟩ := pq_of l G hI (xs (6 * t + 1)) (xs (6 * t + 2))
  obtain ⟨fs, hh⟩ := hI.cl
  refine r_callV X kv_L_64 dL_law_588 (As := [vI (xs (6 * t + 1)), vI (xs (6 * t + 2))]) rfl rfl hh rfl hP ⟨by decide, by decide⟩ (Nat.zero_le _) ⟨by show _ ≤ 600000; omega, by show _ ≤ 7302249; omega⟩ (fun r h1 hr => ?_)
  obtain ⟨v, rfl, ⟨fs1, hh1⟩, Φ1, hP1, hQ1⟩ := hQ _ _ hr
  refine r_pop X dL_law_591 ?_
  refine r_aload_n X dL_law_592 rfl ?_
  refine r_arg (j := 1) X hX hbl hG hG3 hL ht dL_law_593 dL_law_594 dL_law_595 dL_law_596 dL_law_597 (by decide) rfl ?_
  refine r_arg (j := 2) X hX hbl hG hG3 hL ht dL_law_598 dL_law_599 dL_law_600 dL_law_601 dL_law_602 (by decide) rfl ?_
  refine r_callV X kv_L_67 dL_law_603 (As := [vI (xs (6 * t + 1)), vI (xs (6 * t + 2))]) (rest := []) rfl rfl hh1 rfl hP1 ⟨by decide, by decide⟩ (Nat.zero_le _) ⟨by show _ ≤ 600000; omega, by show _ ≤ 7302249; omega⟩ (fun r2 h2 hr2 => ?_)
  obtain ⟨rfl, hI2⟩ := hQ1 _ _ hr2
  refine r_pop X dL_law_606 ?_
  refine r_goto (tgt := 1357) X dL_law_607 rfl ?_
  exact K _ _ _ (by omega) (by omega) hI2
theorem lc_12 (X : pX p s m #[Value.ref b] c G 4 cL_law RL) (hX : va_X b L xs s s.heap) (hbl : b < s.heap.size) (hG : G.2.2.1 = s.heap.size) (hG3 : G.2.2.2 3 = b) (hL : L ≤ 3072) (ht : 6 * t + 6 ≤ L) (hcl : cells + 3 ≤ 600000) (hsl : slots + 488 ≤ 7302249) (hI : LIY PCW nc nm h) (K : lKn p l e s m below meth c G Q b nc nm t cells slots) : PW p l e room_1 s m #[Value.ref b] below meth c G 4 Q cells slots h 610 (lls nc nm t) [] := by
  refine r_aload_n X dL_law_610 rfl ?_
  refine r_arg (j := 1) X hX hbl hG hG3 hL ht dL_law_611 dL_law_612 dL_law_613 dL_law_614 dL_law_615 (by decide) rfl ?_
  refine r_arg (j := 2) X hX hbl hG hG3 hL ht dL_law_616 dL_law_617 dL_law_618 dL_law_619 dL_law_620 (by decide) rfl ?_
  refine r_arg (j := 3) X hX hbl hG hG3 hL ht dL_law_621 dL_law_622 dL_law_623 dL_law_624 dL_law_625 (by decide) rfl ?_
  obtain ⟨Φ0, hP, hQ⟩ := pq_cell l G hI (xs (6 * t + 1)) (xs (6 * t + 2)) (xs (6 * t + 3))
  obtain ⟨fs, hh⟩ := hI.cl
  refine r_callV X kv_L_68 dL_law_626 (As := [vI (xs (6 * t + 1)), vI (xs (6 * t + 2)), vI (xs (6 * t + 3))]) rfl rfl hh rfl hP ⟨by decide, by decide⟩ (Nat.zero_le _) ⟨by show _ ≤ 600000; omega, by show _ ≤ 7302249; omega⟩ (fun r h1 hr => ?_)
  obtain ⟨v, rfl, ⟨fs1, hh1⟩, Φ1, hP1, hQ1⟩ := hQ _ _ hr
  refine r_pop X dL_law_629 ?_
  refine r_aload_n X dL_law_630 rfl ?_
  refine r_arg (j := 1) X hX hbl hG hG3 hL ht dL_law_631 dL_law_632 dL_law_633 dL_law_634 dL_law_635 (by decide) rfl ?_
  refine r_arg (j := 2) X hX hbl hG hG3 hL ht dL_law_636 dL_law_637 dL_law_638 dL_law_639 dL_law_640 (by decide) rfl ?_
  refine r_arg (j := 3) X hX hbl hG hG3 hL ht dL_law_641 dL_law_642 dL_law_643 dL_law_644 dL_law_645 (by decide) rfl ?_
  refine r_callV X kv_L_72 dL_law_646 (As := [vI (xs (6 * t + 1)), vI (xs (6 * t + 2)), vI (xs (6 * t + 3))]) (rest := []) rfl rfl hh1 rfl hP1 ⟨by decide, by decide⟩ (Nat.zero_le _) ⟨by show _ ≤ 600000; omega, by show _ ≤ 7302249; omega⟩ (fun r2 h2 hr2 => ?_)
  obtain ⟨rfl, hI2⟩ := hQ1 _ _ hr2
  refine r_pop X dL_law_649 ?_
  refine r_goto (tgt := 1357) X dL_law_650 rfl ?_
  exact K _ _ _ (by omega) (by omega) hI2
theorem lc_13 (X : pX p s m #[Value.ref b] c G 4 cL_law RL) (hX : va_X b L xs s s.heap) (hbl : b < s.heap.size) (hG : G.2.2.1 = s.heap.size) (hG3 : G.2.2.2 3 = b) (hL : L ≤ 3072) (ht : 6 * t + 6 ≤ L) (hcl : cells + 3 ≤ 600000) (hsl : slots + 488 ≤ 7302249) (hI : LIY PCW nc nm h) (K : lKn p l e s m below meth c G Q b nc nm t cells slots) : PW p l e room_1 s m #[Value.ref b] below meth c G 4 Q cells slots h 653 (lls nc nm t) [] := by
  refine r_aload_n X dL_law_653 rfl ?_
  refine r_arg (j := 1) X hX hbl hG hG3 hL ht dL_law_654 dL_law_655 dL_law_656 dL_law_657 dL_law_658 (by decide) rfl ?_
  refine r_arg (j := 2) X hX hbl hG hG3 hL ht dL_law_659 dL_law_660 dL_law_661 dL_law_662 dL_law_663 (by decide) rfl ?_
  obtain ⟨Φ0, hP, hQ⟩ := pq_book l G hI (xs (6 * t + 1)) (xs (6 * t + 2))
  obtain ⟨fs, hh⟩ := hI.cl
  refine r_callV X kv_L_73 dL_law_664 (As := [vI (xs (6 * t + 1)), vI (xs (6 * t + 2))]) rfl rfl hh rfl hP ⟨by decide, by decide⟩ (Nat.zero_le _) ⟨by show _ ≤ 600000; omega, by show _ ≤ 7302249; omega⟩ (fun r h1 hr => ?_)
  obtain ⟨v, rfl, ⟨fs1, hh1⟩, Φ1, hP1, hQ1⟩ := hQ _ _ hr
  refine r_pop X dL_law_667 ?_
  refine r_aload_n X dL_law_668 rfl ?_
  refine r_arg (j := 1) X hX hbl hG hG3 hL ht dL_law_669 dL_law_670 dL_law_671 dL_law_672 dL_law_673 (by decide) rfl ?_
  refine r_arg (j := 2) X hX hbl hG hG3 hL ht dL_law_674 dL_law_675 dL_law_676 dL_law_677 dL_law_678 (by decide) rfl ?_
  refine r_callV X kv_L_76 dL_law_679 (As := [vI (xs (6 * t + 1)), vI (xs (6 * t + 2))]) (rest := []) rfl rfl hh1 rfl hP1 ⟨by decide, by decide⟩ (Nat.zero_le _) ⟨by show _ ≤ 600000; omega, by show _ ≤ 7302249; omega⟩ (fun r2 h2 hr2 => ?_)
  obtain ⟨rfl, hI2⟩ := hQ1 _ _ hr2
  refine r_pop X dL_law_682 ?_
  refine r_goto (tgt := 1357) X dL_law_683 rfl ?_
  exact K _ _ _ (by omega) (by omega) hI2
theorem lc_14 (X : pX p s m #[Value.ref b] c G 4 cL_law RL) (hX : va_X b L xs s s.heap) (hbl : b < s.heap.size) (hG : G.2.2.1 = s.heap.size) (hG3 : G.2.2.2 3 = b) (hL : L ≤ 3072) (ht : 6 * t + 6 ≤ L) (hcl : cells + 3 ≤ 600000) (hsl : slots + 488 ≤ 7302249) (hI : LIY PCW nc nm h) (K : lKn p l e s m below meth c G Q b nc nm t cells slots) : PW p l e room_1 s m #[Value.ref b] below meth c G 4 Q cells slots h 686 (lls nc nm t) [] := by
  refine r_aload_n X dL_law_686 rfl ?_
  refine r_arg (j := 1) X hX hbl hG hG3 hL ht dL_law_687 dL_law_688 dL_law_689 dL_law_690 dL_law_691 (by decide) rfl ?_
  refine r_arg (j := 2) X hX hbl hG hG3 hL ht dL_law_692 dL_law_693 dL_law_694 dL_law_695 dL_law_696 (by decide) rfl ?_
  obtain ⟨Φ0, hP, hQ⟩ := pq_goes l G hI (xs (6 * t + 1)) (xs (6 * t + 2))
  obtain ⟨fs, hh⟩ := hI.cl
  refine r_callV X kv_L_77 dL_law_697 (As := [vI (xs (6 * t + 1)), vI (xs (6 * t + 2))]) rfl rfl hh rfl hP ⟨by decide, by decide⟩ (Nat.zero_le _) ⟨by show _ ≤ 600000; omega, by show _ ≤ 7302249; omega⟩ (fun r h1 hr => ?_)
  obtain ⟨v, rfl, ⟨fs1, hh1⟩, Φ1, hP1, hQ1⟩ := hQ _ _ hr
  refine r_pop X dL_law_700 ?_
  refine r_aload_n X dL_law_701 rfl ?_
  refine r_arg (j := 1) X hX hbl hG hG3 hL ht dL_law_702 dL_law_703 dL_law_704 dL_law_705 dL_law_706 (by decide) rfl ?_
  refine r_arg (j := 2) X hX hbl hG hG3 hL ht dL_law_707 dL_law_708 dL_law_709 dL_law_710 dL_law_711 (by decide) rfl ?_
  refine r_callV X kv_L_80 dL_law_712 (As := [vI (xs (6 * t + 1)), vI (xs (6 * t + 2))]) (rest := []) rfl rfl hh1 rfl hP1 ⟨by decide, by decide⟩ (Nat.zero_le _) ⟨by show _ ≤ 600000; omega, by show _ ≤ 7302249; omega⟩ (fun r2 h2 hr2 => ?_)
  obtain ⟨rfl, hI2⟩ := hQ1 _ _ hr2
  refine r_pop X dL_law_715 ?_
  refine r_goto (tgt := 1357) X dL_law_716 rfl ?_
  exact K _ _ _ (by omega) (by omega) hI2
theorem lc_15 (X : pX p s m #[Value.ref b] c G 4 cL_law RL) (hX : va_X b L xs s s.heap) (hbl : b < s.heap.size) (hG : G.2.2.1 = s.heap.size) (hG3 : G.2.2.2 3 = b) (hL : L ≤ 3072) (ht : 6 * t + 6 ≤ L) (hcl : cells + 3 ≤ 600000) (hsl : slots + 488 ≤ 7302249) (hI : LIY PCW nc nm h) (K : lKn p l e s m below meth c G Q b nc nm t cells slots) : PW p l e room_1 s m #[Value.ref b] below meth c G 4 Q cells slots h 719 (lls nc nm t) [] := by
  refine r_aload_n X dL_law_719 rfl ?_
  refine r_arg (j := 1) X hX hbl hG hG3 hL ht dL_law_720 dL_law_721 dL_law_722 dL_law_723 dL_law_724 (by decide) rfl ?_
  obtain ⟨Φ0, hP, hQ⟩ := pq_wax l G hI (xs (6 * t + 1))
  obtain ⟨fs, hh⟩ := hI.cl
  refine r_callV X kv_L_81 dL_law_725 (As := [vI (xs (6 * t + 1))]) rfl rfl hh rfl hP ⟨by decide, by decide⟩ (Nat.zero_le _) ⟨by show _ ≤ 600000; omega, by show _ ≤ 7302249; omega⟩ (fun r h1 hr => ?_)
  obtain ⟨v, rfl, ⟨fs1, hh1⟩, Φ1, hP1, hQ1⟩ := hQ _ _ hr
  refine r_aload_n X dL_law_728 rfl ?_
  refine r_arg (j := 1) X hX hbl hG hG3 hL ht dL_law_729 dL_law_730 dL_law_731 dL_law_732 dL_law_733 (by decide) rfl ?_
  refine r_callV X kv_L_84 dL_law_734 (As := [vI (xs (6 * t + 1))]) (rest := [vI v]) rfl rfl hh1 rfl hP1 ⟨by decide, by decide⟩ (show 1 ≤ 8 by decide) ⟨by show _ ≤ 600000; omega, by show _ ≤ 7302249; omega⟩ (fun r2 h2 hr2 => ?_)
  obtain ⟨rfl, hI2⟩ := hQ1 _ _ hr2
  refine r_icmp_eq_t (tgt := 1357) X dL_law_737 rfl rfl ?_
  exact K _ _ _ (by omega) (by omega) hI2
theorem lc_16 (X : pX p s m #[Value.ref b] c G 4 cL_law RL) (hX : va_X b L xs s s.heap) (hbl : b < s.heap.size) (hG : G.2.2.1 = s.heap.size) (hG3 : G.2.2.2 3 = b) (hL : L ≤ 3072) (ht : 6 * t + 6 ≤ L) (hcl : cells + 3 ≤ 600000) (hsl : slots + 488 ≤ 7302249) (hI : LIY PCW nc nm h) (K : lKn p l e s m below meth c G Q b nc nm t cells slots) : PW p l e room_1 s m #[Value.ref b] below meth c G 4 Q cells slots h 742 (lls nc nm t) [] := by
  refine r_aload_n X dL_law_742 rfl ?_
  refine r_arg (j := 1) X hX hbl hG hG3 hL ht dL_law_743 dL_law_744 dL_law_745 dL_law_746 dL_law_747 (by decide) rfl ?_
  refine r_arg (j := 2) X hX hbl hG hG3 hL ht dL_law_748 dL_law_749 dL_law_750 dL_law_751 dL_law_752 (by decide) rfl ?_
  obtain ⟨Φ1, hP, hQ⟩ := ic_whose l G hI (xs (6 * t + 1)) (xs (6 * t + 2))
  obtain ⟨fs1, hh⟩ := hI.cl
  refine r_callV X kv_L_85 dL_law_753 (As := [vI (xs (6 * t + 1)), vI (xs (6 * t + 2))]) rfl rfl hh rfl hP ⟨by decide, by decide⟩ (Nat.zero_le _) ⟨by show _ ≤ 600000; omega, by show _ ≤ 7302249; omega⟩ (fun r1 h1 hr => ?_)
  obtain ⟨⟨v1, rfl⟩, hI1⟩ := hQ _ _ hr
  clear hP hQ hh hI hr
  have hI := hI1
  clear hI1
  refine r_pop X dL_law_756 ?_
  refine r_aload_n X dL_law_757 rfl ?_
  refine r_arg (j := 1) X hX hbl hG hG3 hL ht dL_law_758 dL_law_759 dL_law_760 dL_law_761 dL_law_762 (by decide) rfl ?_
  refine r_arg (j := 2) X hX hbl hG hG3 hL ht dL_law_763 dL_law_764 dL_law_765 dL_law_766 dL_law_767 (by decide) rfl ?_
  obtain ⟨Φ2, hP, hQ⟩ := ir_whose l G hI (xs (6 * t + 1)) (xs (6 * t + 2))
  obtain ⟨fs2, hh⟩ := hI.md
  refine r_callV X kv_L_88 dL_law_768 (As := [vI (xs (6 * t + 1)), vI (xs (6 * t + 2))]) rfl rfl hh rfl hP ⟨by decide, by decide⟩ (Nat.zero_le _) ⟨by show _ ≤ 600000; omega, by show _ ≤ 7302249; omega⟩ (fun r2 h2 hr => ?_)
  obtain ⟨⟨v2, rfl⟩, hI2⟩ := hQ _ _ hr
  clear hP hQ hh hI hr
  have hI := hI2
  clear hI2
  refine r_pop X dL_law_771 ?_
  refine r_goto (tgt := 1357) X dL_law_772 rfl ?_
  exact K _ _ _ (by omega) (by omega) hI
theorem lc_17 (X : pX p s m #[Value.ref b] c G 4 cL_law RL) (hX : va_X b L xs s s.heap) (hbl : b < s.heap.size) (hG : G.2.2.1 = s.heap.size) (hG3 : G.2.2.2 3 = b) (hL : L ≤ 3072) (ht : 6 * t + 6 ≤ L) (hcl : cells + 3 ≤ 600000) (hsl : slots + 488 ≤ 7302249) (hI : LIY PCW nc nm h) (K : lKn p l e s m below meth c G Q b nc nm t cells slots) : PW p l e room_1 s m #[Value.ref b] below meth c G 4 Q cells slots h 775 (lls nc nm t) [] := by
  refine r_aload_n X dL_law_775 rfl ?_
  refine r_arg (j := 1) X hX hbl hG hG3 hL ht dL_law_776 dL_law_777 dL_law_778 dL_law_779 dL_law_780 (by decide) rfl ?_
  obtain ⟨Φ1, hP, hQ⟩ := ic_could l G hI (xs (6 * t + 1))
  obtain ⟨fs1, hh⟩ := hI.cl
  refine r_callV X kv_L_89 dL_law_781 (As := [vI (xs (6 * t + 1))]) rfl rfl hh rfl hP ⟨by decide, by decide⟩ (Nat.zero_le _) ⟨by show _ ≤ 600000; omega, by show _ ≤ 7302249; omega⟩ (fun r1 h1 hr => ?_)
  obtain ⟨⟨v1, rfl⟩, hI1⟩ := hQ _ _ hr
  clear hP hQ hh hI hr
  have hI := hI1
  clear hI1
  refine r_pop X dL_law_784 ?_
  refine r_aload_n X dL_law_785 rfl ?_
  refine r_arg (j := 1) X hX hbl hG hG3 hL ht dL_law_786 dL_law_787 dL_law_788 dL_law_789 dL_law_790 (by decide) rfl ?_
  obtain ⟨Φ2, hP, hQ⟩ := ir_could l G hI (xs (6 * t + 1))
  obtain ⟨fs2, hh⟩ := hI.md
  refine r_callV X kv_L_92 dL_law_791 (As := [vI (xs (6 * t + 1))]) rfl rfl hh rfl hP ⟨by decide, by decide⟩ (Nat.zero_le _) ⟨by show _ ≤ 600000; omega, by show _ ≤ 7302249; omega⟩ (fun r2 h2 hr => ?_)
  obtain ⟨⟨v2, rfl⟩, hI2⟩ := hQ _ _ hr
  clear hP hQ hh hI hr
  have hI := hI2
  clear hI2
  refine r_pop X dL_law_794 ?_
  refine r_goto (tgt := 1357) X dL_law_795 rfl ?_
  exact K _ _ _ (by omega) (by omega) hI
theorem lc_18 (X : pX p s m #[Value.ref b] c G 4 cL_law RL) (hX : va_X b L xs s s.heap) (hbl : b < s.heap.size) (hG : G.2.2.1 = s.heap.size) (hG3 : G.2.2.2 3 = b) (hL : L ≤ 3072) (ht : 6 * t + 6 ≤ L) (hcl : cells + 3 ≤ 600000) (hsl : slots + 488 ≤ 7302249) (hI : LIY PCW nc nm h) (K : lKn p l e s m below meth c G Q b nc nm t cells slots) : PW p l e room_1 s m #[Value.ref b] below meth c G 4 Q cells slots h 798 (lls nc nm t) [] := by
  refine r_aload_n X dL_law_798 rfl ?_
  refine r_arg (j := 1) X hX hbl hG hG3 hL ht dL_law_799 dL_law_800 dL_law_801 dL_law_802 dL_law_803 (by decide) rfl ?_
  obtain ⟨Φ1, hP, hQ⟩ := ic_party l G hI (xs (6 * t + 1))
  obtain ⟨fs1, hh⟩ := hI.cl
  refine r_callV X kv_L_93 dL_law_804 (As := [vI (xs (6 * t + 1))]) rfl rfl hh rfl hP ⟨by decide, by decide⟩ (Nat.zero_le _) ⟨by show _ ≤ 600000; omega, by show _ ≤ 7302249; omega⟩ (fun r1 h1 hr => ?_)
  obtain ⟨⟨v1, rfl⟩, hI1⟩ := hQ _ _ hr
  clear hP hQ hh hI hr
  have hI := hI1
  clear hI1
  refine r_pop X dL_law_807 ?_
  refine r_aload_n X dL_law_808 rfl ?_
  refine r_arg (j := 1) X hX hbl hG hG3 hL ht dL_law_809 dL_law_810 dL_law_811 dL_law_812 dL_law_813 (by decide) rfl ?_
  obtain ⟨Φ2, hP, hQ⟩ := ir_party l G hI (xs (6 * t + 1))
  obtain ⟨fs2, hh⟩ := hI.md
  refine r_callV X kv_L_96 dL_law_814 (As := [vI (xs (6 * t + 1))]) rfl rfl hh rfl hP ⟨by decide, by decide⟩ (Nat.zero_le _) ⟨by show _ ≤ 600000; omega, by show _ ≤ 7302249; omega⟩ (fun r2 h2 hr => ?_)
  obtain ⟨⟨v2, rfl⟩, hI2⟩ := hQ _ _ hr
  clear hP hQ hh hI hr
  have hI := hI2
  clear hI2
  refine r_pop X dL_law_817 ?_
  refine r_goto (tgt := 1357) X dL_law_818 rfl ?_
  exact K _ _ _ (by omega) (by omega) hI
theorem lc_19 (X : pX p s m #[Value.ref b] c G 4 cL_law RL) (hX : va_X b L xs s s.heap) (hbl : b < s.heap.size) (hG : G.2.2.1 = s.heap.size) (hG3 : G.2.2.2 3 = b) (hL : L ≤ 3072) (ht : 6 * t + 6 ≤ L) (hcl : cells + 3 ≤ 600000) (hsl : slots + 488 ≤ 7302249) (hI : LIY PCW nc nm h) (K : lKn p l e s m below meth c G Q b nc nm t cells slots) : PW p l e room_1 s m #[Value.ref b] below meth c G 4 Q cells slots h 821 (lls nc nm t) [] := by
  refine r_aload_n X dL_law_821 rfl ?_
  refine r_arg (j := 1) X hX hbl hG hG3 hL ht dL_law_822 dL_law_823 dL_law_824 dL_law_825 dL_law_826 (by decide) rfl ?_
  refine r_arg (j := 2) X hX hbl hG hG3 hL ht dL_law_827 dL_law_828 dL_law_829 dL_law_830 dL_law_831 (by decide) rfl ?_
  refine r_arg (j := 3) X hX hbl hG hG3 hL ht dL_law_832 dL_law_833 dL_law_834 dL_law_835 dL_law_836 (by decide) rfl ?_
  obtain ⟨Φ1, hP, hQ⟩ := ic_seats l G hI (xs (6 * t + 1)) (xs (6 * t + 2)) (xs (6 * t + 3))
  obtain ⟨fs1, hh⟩ := hI.cl
  refine r_callV X kv_L_97 dL_law_837 (As := [vI (xs (6 * t + 1)), vI (xs (6 * t + 2)), vI (xs (6 * t + 3))]) rfl rfl hh rfl hP ⟨by decide, by decide⟩ (Nat.zero_le _) ⟨by show _ ≤ 600000; omega, by show _ ≤ 7302249; omega⟩ (fun r1 h1 hr => ?_)
  obtain ⟨⟨v1, rfl⟩, hI1⟩ := hQ _ _ hr
  clear hP hQ hh hI hr
  have hI := hI1
  clear hI1
  refine r_pop X dL_law_840 ?_
  refine r_aload_n X dL_law_841 rfl ?_
  refine r_arg (j := 1) X hX hbl hG hG3 hL ht dL_law_842 dL_law_843 dL_law_844 dL_law_845 dL_law_846 (by decide) rfl ?_
  refine r_arg (j := 2) X hX hbl hG hG3 hL ht dL_law_847 dL_law_848 dL_law_849 dL_law_850 dL_law_851 (by decide) rfl ?_
  refine r_arg (j := 3) X hX hbl hG hG3 hL ht dL_law_852 dL_law_853 dL_law_854 dL_law_855 dL_law_856 (by decide) rfl ?_
  obtain ⟨Φ2, hP, hQ⟩ := ir_seats l G hI (xs (6 * t + 1)) (xs (6 * t + 2)) (xs (6 * t + 3))
  obtain ⟨fs2, hh⟩ := hI.md
  refine r_callV X kv_L_100 dL_law_857 (As := [vI (xs (6 * t + 1)), vI (xs (6 * t + 2)), vI (xs (6 * t + 3))]) rfl rfl hh rfl hP ⟨by decide, by decide⟩ (Nat.zero_le _) ⟨by show _ ≤ 600000; omega, by show _ ≤ 7302249; omega⟩ (fun r2 h2 hr => ?_)
  obtain ⟨⟨v2, rfl⟩, hI2⟩ := hQ _ _ hr
  clear hP hQ hh hI hr
  have hI := hI2
  clear hI2
  refine r_pop X dL_law_860 ?_
  refine r_goto (tgt := 1357) X dL_law_861 rfl ?_
  exact K _ _ _ (by omega) (by omega) hI
theorem lc_20 (X : pX p s m #[Value.ref b] c G 4 cL_law RL) (hX : va_X b L xs s s.heap) (hbl : b < s.heap.size) (hG : G.2.2.1 = s.heap.size) (hG3 : G.2.2.2 3 = b) (hL : L ≤ 3072) (ht : 6 * t + 6 ≤ L) (hcl : cells + 3 ≤ 600000) (hsl : slots + 488 ≤ 7302249) (hI : LIY PCW nc nm h) (K : lKn p l e s m below meth c G Q b nc nm t cells slots) : PW p l e room_1 s m #[Value.ref b] below meth c G 4 Q cells slots h 864 (lls nc nm t) [] := by
  refine r_aload_n X dL_law_864 rfl ?_
  refine r_arg (j := 1) X hX hbl hG hG3 hL ht dL_law_865 dL_law_866 dL_law_867 dL_law_868 dL_law_869 (by decide) rfl ?_
  obtain ⟨Φ1, hP, hQ⟩ := ic_house l G hI (xs (6 * t + 1))
  obtain ⟨fs1, hh⟩ := hI.cl
  refine r_callV X kv_L_101 dL_law_870 (As := [vI (xs (6 * t + 1))]) rfl rfl hh rfl hP ⟨by decide, by decide⟩ (Nat.zero_le _) ⟨by show _ ≤ 600000; omega, by show _ ≤ 7302249; omega⟩ (fun r1 h1 hr => ?_)
  obtain ⟨⟨v1, rfl⟩, hI1⟩ := hQ _ _ hr
  clear hP hQ hh hI hr
  have hI := hI1
  clear hI1
  refine r_pop X dL_law_873 ?_
  refine r_aload_n X dL_law_874 rfl ?_
  refine r_arg (j := 1) X hX hbl hG hG3 hL ht dL_law_875 dL_law_876 dL_law_877 dL_law_878 dL_law_879 (by decide) rfl ?_
  obtain ⟨Φ2, hP, hQ⟩ := ir_house l G hI (xs (6 * t + 1))
  obtain ⟨fs2, hh⟩ := hI.md
  refine r_callV X kv_L_104 dL_law_880 (As := [vI (xs (6 * t + 1))]) rfl rfl hh rfl hP ⟨by decide, by decide⟩ (Nat.zero_le _) ⟨by show _ ≤ 600000; omega, by show _ ≤ 7302249; omega⟩ (fun r2 h2 hr => ?_)
  obtain ⟨⟨v2, rfl⟩, hI2⟩ := hQ _ _ hr
  clear hP hQ hh hI hr
  have hI := hI2
  clear hI2
  refine r_pop X dL_law_883 ?_
  refine r_goto (tgt := 1357) X dL_law_884 rfl ?_
  exact K _ _ _ (by omega) (by omega) hI
theorem lc_21 (X : pX p s m #[Value.ref b] c G 4 cL_law RL) (hX : va_X b L xs s s.heap) (hbl : b < s.heap.size) (hG : G.2.2.1 = s.heap.size) (hG3 : G.2.2.2 3 = b) (hL : L ≤ 3072) (ht : 6 * t + 6 ≤ L) (hcl : cells + 3 ≤ 600000) (hsl : slots + 488 ≤ 7302249) (hI : LIY PCW nc nm h) (K : lKn p l e s m below meth c G Q b nc nm t cells slots) : PW p l e room_1 s m #[Value.ref b] below meth c G 4 Q cells slots h 887 (lls nc nm t) [] := by
  refine r_aload_n X dL_law_887 rfl ?_
  refine r_arg (j := 1) X hX hbl hG hG3 hL ht dL_law_888 dL_law_889 dL_law_890 dL_law_891 dL_law_892 (by decide) rfl ?_
  refine r_arg (j := 2) X hX hbl hG hG3 hL ht dL_law_893 dL_law_894 dL_law_895 dL_law_896 dL_law_897 (by decide) rfl ?_
  obtain ⟨Φ1, hP, hQ⟩ := ic_parishes l G hI (xs (6 * t + 1)) (xs (6 * t + 2))
  obtain ⟨fs1, hh⟩ := hI.cl
  refine r_callV X kv_L_105 dL_law_898 (As := [vI (xs (6 * t + 1)), vI (xs (6 * t + 2))]) rfl rfl hh rfl hP ⟨by decide, by decide⟩ (Nat.zero_le _) ⟨by show _ ≤ 600000; omega, by show _ ≤ 7302249; omega⟩ (fun r1 h1 hr => ?_)
  obtain ⟨⟨v1, rfl⟩, hI1⟩ := hQ _ _ hr
  clear hP hQ hh hI hr
  have hI := hI1
  clear hI1
  refine r_pop X dL_law_901 ?_
  refine r_aload_n X dL_law_902 rfl ?_
  refine r_arg (j := 1) X hX hbl hG hG3 hL ht dL_law_903 dL_law_904 dL_law_905 dL_law_906 dL_law_907 (by decide) rfl ?_
  refine r_arg (j := 2) X hX hbl hG hG3 hL ht dL_law_908 dL_law_909 dL_law_910 dL_law_911 dL_law_912 (by decide) rfl ?_
  obtain ⟨Φ2, hP, hQ⟩ := ir_parishes l G hI (xs (6 * t + 1)) (xs (6 * t + 2))
  obtain ⟨fs2, hh⟩ := hI.md
  refine r_callV X kv_L_108 dL_law_913 (As := [vI (xs (6 * t + 1)), vI (xs (6 * t + 2))]) rfl rfl hh rfl hP ⟨by decide, by decide⟩ (Nat.zero_le _) ⟨by show _ ≤ 600000; omega, by show _ ≤ 7302249; omega⟩ (fun r2 h2 hr => ?_)
  obtain ⟨⟨v2, rfl⟩, hI2⟩ := hQ _ _ hr
  clear hP hQ hh hI hr
  have hI := hI2
  clear hI2
  refine r_pop X dL_law_916 ?_
  refine r_goto (tgt := 1357) X dL_law_917 rfl ?_
  exact K _ _ _ (by omega) (by omega) hI
theorem lc_22 (X : pX p s m #[Value.ref b] c G 4 cL_law RL) (hX : va_X b L xs s s.heap) (hbl : b < s.heap.size) (hG : G.2.2.1 = s.heap.size) (hG3 : G.2.2.2 3 = b) (hL : L ≤ 3072) (ht : 6 * t + 6 ≤ L) (hcl : cells + 3 ≤ 600000) (hsl : slots + 488 ≤ 7302249) (hI : LIY PCW nc nm h) (K : lKn p l e s m below meth c G Q b nc nm t cells slots) : PW p l e room_1 s m #[Value.ref b] below meth c G 4 Q cells slots h 920 (lls nc nm t) [] := by
  refine r_aload_n X dL_law_920 rfl ?_
  refine r_arg (j := 1) X hX hbl hG hG3 hL ht dL_law_921 dL_law_922 dL_law_923 dL_law_924 dL_law_925 (by decide) rfl ?_
  obtain ⟨Φ1, hP, hQ⟩ := ic_wish l G hI (xs (6 * t + 1))
  obtain ⟨fs1, hh⟩ := hI.cl
  refine r_callV X kv_L_109 dL_law_926 (As := [vI (xs (6 * t + 1))]) rfl rfl hh rfl hP ⟨by decide, by decide⟩ (Nat.zero_le _) ⟨by show _ ≤ 600000; omega, by show _ ≤ 7302249; omega⟩ (fun r1 h1 hr => ?_)
  obtain ⟨⟨v1, rfl⟩, hI1⟩ := hQ _ _ hr
  clear hP hQ hh hI hr
  have hI := hI1
  clear hI1
  refine r_pop X dL_law_929 ?_
  refine r_aload_n X dL_law_930 rfl ?_
  refine r_arg (j := 1) X hX hbl hG hG3 hL ht dL_law_931 dL_law_932 dL_law_933 dL_law_934 dL_law_935 (by decide) rfl ?_
  obtain ⟨Φ2, hP, hQ⟩ := ir_wish l G hI (xs (6 * t + 1))
  obtain ⟨fs2, hh⟩ := hI.md
  refine r_callV X kv_L_112 dL_law_936 (As := [vI (xs (6 * t + 1))]) rfl rfl hh rfl hP ⟨by decide, by decide⟩ (Nat.zero_le _) ⟨by show _ ≤ 600000; omega, by show _ ≤ 7302249; omega⟩ (fun r2 h2 hr => ?_)
  obtain ⟨⟨v2, rfl⟩, hI2⟩ := hQ _ _ hr
  clear hP hQ hh hI hr
  have hI := hI2
  clear hI2
  refine r_pop X dL_law_939 ?_
  refine r_goto (tgt := 1357) X dL_law_940 rfl ?_
  exact K _ _ _ (by omega) (by omega) hI
theorem lc_23 (X : pX p s m #[Value.ref b] c G 4 cL_law RL) (hX : va_X b L xs s s.heap) (hbl : b < s.heap.size) (hG : G.2.2.1 = s.heap.size) (hG3 : G.2.2.2 3 = b) (hL : L ≤ 3072) (ht : 6 * t + 6 ≤ L) (hcl : cells + 3 ≤ 600000) (hsl : slots + 488 ≤ 7302249) (hI : LIY PCW nc nm h) (K : lKn p l e s m below meth c G Q b nc nm t cells slots) : PW p l e room_1 s m #[Value.ref b] below meth c G 4 Q cells slots h 943 (lls nc nm t) [] := by
  refine r_aload_n X dL_law_943 rfl ?_
  refine r_arg (j := 1) X hX hbl hG hG3 hL ht dL_law_944 dL_law_945 dL_law_946 dL_law_947 dL_law_948 (by decide) rfl ?_
  obtain ⟨Φ1, hP, hQ⟩ := ic_name l G hI (xs (6 * t + 1))
  obtain ⟨fs1, hh⟩ := hI.cl
  refine r_callV X kv_L_113 dL_law_949 (As := [vI (xs (6 * t + 1))]) rfl rfl hh rfl hP ⟨by decide, by decide⟩ (Nat.zero_le _) ⟨by show _ ≤ 600000; omega, by show _ ≤ 7302249; omega⟩ (fun r1 h1 hr => ?_)
  obtain ⟨⟨v1, rfl⟩, hI1⟩ := hQ _ _ hr
  clear hP hQ hh hI hr
  have hI := hI1
  clear hI1
  refine r_pop X dL_law_952 ?_
  refine r_aload_n X dL_law_953 rfl ?_
  refine r_arg (j := 1) X hX hbl hG hG3 hL ht dL_law_954 dL_law_955 dL_law_956 dL_law_957 dL_law_958 (by decide) rfl ?_
  obtain ⟨Φ2, hP, hQ⟩ := ir_name l G hI (xs (6 * t + 1))
  obtain ⟨fs2, hh⟩ := hI.md
  refine r_callV X kv_L_116 dL_law_959 (As := [vI (xs (6 * t + 1))]) rfl rfl hh rfl hP ⟨by decide, by decide⟩ (Nat.zero_le _) ⟨by show _ ≤ 600000; omega, by show _ ≤ 7302249; omega⟩ (fun r2 h2 hr => ?_)
  obtain ⟨⟨v2, rfl⟩, hI2⟩ := hQ _ _ hr
  clear hP hQ hh hI hr
  have hI := hI2
  clear hI2
  refine r_pop X dL_law_962 ?_
  refine r_goto (tgt := 1357) X dL_law_963 rfl ?_
  exact K _ _ _ (by omega) (by omega) hI
theorem lc_24 (X : pX p s m #[Value.ref b] c G 4 cL_law RL) (hX : va_X b L xs s s.heap) (hbl : b < s.heap.size) (hG : G.2.2.1 = s.heap.size) (hG3 : G.2.2.2 3 = b) (hL : L ≤ 3072) (ht : 6 * t + 6 ≤ L) (hcl : cells + 3 ≤ 600000) (hsl : slots + 488 ≤ 7302249) (hI : LIY PCW nc nm h) (K : lKn p l e s m below meth c G Q b nc nm t cells slots) : PW p l e room_1 s m #[Value.ref b] below meth c G 4 Q cells slots h 966 (lls nc nm t) [] := by
  refine r_aload_n X dL_law_966 rfl ?_
  refine r_arg (j := 1) X hX hbl hG hG3 hL ht dL_law_967 dL_law_968 dL_law_969 dL_law_970 dL_law_971 (by decide) rfl ?_
  obtain ⟨Φ1, hP, hQ⟩ := ic_middle l G hI (xs (6 * t + 1))
  obtain ⟨fs1, hh⟩ := hI.cl
  refine r_callV X kv_L_117 dL_law_972 (As := [vI (xs (6 * t + 1))]) rfl rfl hh rfl hP ⟨by decide, by decide⟩ (Nat.zero_le _) ⟨by show _ ≤ 600000; omega, by show _ ≤ 7302249; omega⟩ (fun r1 h1 hr => ?_)
  obtain ⟨⟨v1, rfl⟩, hI1⟩ := hQ _ _ hr
  clear hP hQ hh hI hr
  have hI := hI1
  clear hI1
  refine r_pop X dL_law_975 ?_
  refine r_aload_n X dL_law_976 rfl ?_
  refine r_arg (j := 1) X hX hbl hG hG3 hL ht dL_law_977 dL_law_978 dL_law_979 dL_law_980 dL_law_981 (by decide) rfl ?_
  obtain ⟨Φ2, hP, hQ⟩ := ir_middle l G hI (xs (6 * t + 1))
  obtain ⟨fs2, hh⟩ := hI.md
  refine r_callV X kv_L_120 dL_law_982 (As := [vI (xs (6 * t + 1))]) rfl rfl hh rfl hP ⟨by decide, by decide⟩ (Nat.zero_le _) ⟨by show _ ≤ 600000; omega, by show _ ≤ 7302249; omega⟩ (fun r2 h2 hr => ?_)
  obtain ⟨⟨v2, rfl⟩, hI2⟩ := hQ _ _ hr
  clear hP hQ hh hI hr
  have hI := hI2
  clear hI2
  refine r_pop X dL_law_985 ?_
  refine r_goto (tgt := 1357) X dL_law_986 rfl ?_
  exact K _ _ _ (by omega) (by omega) hI
theorem lc_25 (X : pX p s m #[Value.ref b] c G 4 cL_law RL) (hX : va_X b L xs s s.heap) (hbl : b < s.heap.size) (hG : G.2.2.1 = s.heap.size) (hG3 : G.2.2.2 3 = b) (hL : L ≤ 3072) (ht : 6 * t + 6 ≤ L) (hcl : cells + 3 ≤ 600000) (hsl : slots + 488 ≤ 7302249) (hI : LIY PCW nc nm h) (K : lKn p l e s m below meth c G Q b nc nm t cells slots) : PW p l e room_1 s m #[Value.ref b] below meth c G 4 Q cells slots h 989 (lls nc nm t) [] := by
  refine r_aload_n X dL_law_989 rfl ?_
  refine r_arg (j := 1) X hX hbl hG hG3 hL ht dL_law_990 dL_law_991 dL_law_992 dL_law_993 dL_law_994 (by decide) rfl ?_
  obtain ⟨Φ1, hP, hQ⟩ := ic_candle l G hI (xs (6 * t + 1))
  obtain ⟨fs1, hh⟩ := hI.cl
  refine r_callV X kv_L_121 dL_law_995 (As := [vI (xs (6 * t + 1))]) rfl rfl hh rfl hP ⟨by decide, by decide⟩ (Nat.zero_le _) ⟨by show _ ≤ 600000; omega, by show _ ≤ 7302249; omega⟩ (fun r1 h1 hr => ?_)
  obtain ⟨⟨v1, rfl⟩, hI1⟩ := hQ _ _ hr
  clear hP hQ hh hI hr
  have hI := hI1
  clear hI1
  refine r_pop X dL_law_998 ?_
  refine r_aload_n X dL_law_999 rfl ?_
  refine r_arg (j := 1) X hX hbl hG hG3 hL ht dL_law_1000 dL_law_1001 dL_law_1002 dL_law_1003 dL_law_1004 (by decide) rfl ?_
  obtain ⟨Φ2, hP, hQ⟩ := ir_candle l G hI (xs (6 * t + 1))
  obtain ⟨fs2, hh⟩ := hI.md
  refine r_callV X kv_L_124 dL_law_1005 (As := [vI (xs (6 * t + 1))]) rfl rfl hh rfl hP ⟨by decide, by decide⟩ (Nat.zero_le _) ⟨by show _ ≤ 600000; omega, by show _ ≤ 7302249; omega⟩ (fun r2 h2 hr => ?_)
  obtain ⟨⟨v2, rfl⟩, hI2⟩ := hQ _ _ hr
  clear hP hQ hh hI hr
  have hI := hI2
  clear hI2
  refine r_pop X dL_law_1008 ?_
  refine r_goto (tgt := 1357) X dL_law_1009 rfl ?_
  exact K _ _ _ (by omega) (by omega) hI
theorem lc_26 (X : pX p s m #[Value.ref b] c G 4 cL_law RL) (hX : va_X b L xs s s.heap) (hbl : b < s.heap.size) (hG : G.2.2.1 = s.heap.size) (hG3 : G.2.2.2 3 = b) (hL : L ≤ 3072) (ht : 6 * t + 6 ≤ L) (hcl : cells + 3 ≤ 600000) (hsl : slots + 488 ≤ 7302249) (hI : LIY PCW nc nm h) (K : lKn p l e s m below meth c G Q b nc nm t cells slots) : PW p l e room_1 s m #[Value.ref b] below meth c G 4 Q cells slots h 1012 (lls nc nm t) [] := by
  refine r_aload_n X dL_law_1012 rfl ?_
  refine r_arg (j := 1) X hX hbl hG hG3 hL ht dL_law_1013 dL_law_1014 dL_law_1015 dL_law_1016 dL_law_1017 (by decide) rfl ?_
  refine r_arg (j := 2) X hX hbl hG hG3 hL ht dL_law_1018 dL_law_1019 dL_law_1020 dL_law_1021 dL_law_1022 (by decide) rfl ?_
  obtain ⟨Φ1, hP, hQ⟩ := ic_candles l G hI (xs (6 * t + 1)) (xs (6 * t + 2))
  obtain ⟨fs1, hh⟩ := hI.cl
  refine r_callV X kv_L_125 dL_law_1023 (As := [vI (xs (6 * t + 1)), vI (xs (6 * t + 2))]) rfl rfl hh rfl hP ⟨by decide, by decide⟩ (Nat.zero_le _) ⟨by show _ ≤ 600000; omega, by show _ ≤ 7302249; omega⟩ (fun r1 h1 hr => ?_)
  obtain ⟨⟨v1, rfl⟩, hI1⟩ := hQ _ _ hr
  clear hP hQ hh hI hr
  have hI := hI1
  clear hI1
  refine r_pop X dL_law_1026 ?_
  refine r_aload_n X dL_law_1027 rfl ?_
  refine r_arg (j := 1) X hX hbl hG hG3 hL ht dL_law_1028 dL_law_1029 dL_law_1030 dL_law_1031 dL_law_1032 (by decide) rfl ?_
  refine r_arg (j := 2) X hX hbl hG hG3 hL ht dL_law_1033 dL_law_1034 dL_law_1035 dL_law_1036 dL_law_1037 (by decide) rfl ?_
  obtain ⟨Φ2, hP, hQ⟩ := ir_candles l G hI (xs (6 * t + 1)) (xs (6 * t + 2))
  obtain ⟨fs2, hh⟩ := hI.md
  refine r_callV X kv_L_128 dL_law_1038 (As := [vI (xs (6 * t + 1)), vI (xs (6 * t + 2))]) rfl rfl hh rfl hP ⟨by decide, by decide⟩ (Nat.zero_le _) ⟨by show _ ≤ 600000; omega, by show _ ≤ 7302249; omega⟩ (fun r2 h2 hr => ?_)
  obtain ⟨⟨v2, rfl⟩, hI2⟩ := hQ _ _ hr
  clear hP hQ hh hI hr
  have hI := hI2
  clear hI2
  refine r_pop X dL_law_1041 ?_
  refine r_goto (tgt := 1357) X dL_law_1042 rfl ?_
  exact K _ _ _ (by omega) (by omega) hI
theorem lc_27 (X : pX p s m #[Value.ref b] c G 4 cL_law RL) (hX : va_X b L xs s s.heap) (hbl : b < s.heap.size) (hG : G.2.2.1 = s.heap.size) (hG3 : G.2.2.2 3 = b) (hL : L ≤ 3072) (ht : 6 * t + 6 ≤ L) (hcl : cells + 3 ≤ 600000) (hsl : slots + 488 ≤ 7302249) (hI : LIY PCW nc nm h) (K : lKn p l e s m below meth c G Q b nc nm t cells slots) : PW p l e room_1 s m #[Value.ref b] below meth c G 4 Q cells slots h 1045 (lls nc nm t) [] := by
  refine r_aload_n X dL_law_1045 rfl ?_
  refine r_arg (j := 1) X hX hbl hG hG3 hL ht dL_law_1046 dL_law_1047 dL_law_1048 dL_law_1049 dL_law_1050 (by decide) rfl ?_
  refine r_arg (j := 2) X hX hbl hG hG3 hL ht dL_law_1051 dL_law_1052 dL_law_1053 dL_law_1054 dL_law_1055 (by decide) rfl ?_
  obtain ⟨Φ1, hP, hQ⟩ := ic_door l G hI (xs (6 * t + 1)) (xs (6 * t + 2))
  obtain ⟨fs1, hh⟩ := hI.cl
  refine r_callV X kv_L_129 dL_law_1056 (As := [vI (xs (6 * t + 1)), vI (xs (6 * t + 2))]) rfl rfl hh rfl hP ⟨by decide, by decide⟩ (Nat.zero_le _) ⟨by show _ ≤ 600000; omega, by show _ ≤ 7302249; omega⟩ (fun r1 h1 hr => ?_)
  obtain ⟨⟨v1, rfl⟩, hI1⟩ := hQ _ _ hr
  clear hP hQ hh hI hr
  have hI := hI1
  clear hI1
  refine r_pop X dL_law_1059 ?_
  refine r_aload_n X dL_law_1060 rfl ?_
  refine r_arg (j := 1) X hX hbl hG hG3 hL ht dL_law_1061 dL_law_1062 dL_law_1063 dL_law_1064 dL_law_1065 (by decide) rfl ?_
  refine r_arg (j := 2) X hX hbl hG hG3 hL ht dL_law_1066 dL_law_1067 dL_law_1068 dL_law_1069 dL_law_1070 (by decide) rfl ?_
  obtain ⟨Φ2, hP, hQ⟩ := ir_door l G hI (xs (6 * t + 1)) (xs (6 * t + 2))
  obtain ⟨fs2, hh⟩ := hI.md
  refine r_callV X kv_L_132 dL_law_1071 (As := [vI (xs (6 * t + 1)), vI (xs (6 * t + 2))]) rfl rfl hh rfl hP ⟨by decide, by decide⟩ (Nat.zero_le _) ⟨by show _ ≤ 600000; omega, by show _ ≤ 7302249; omega⟩ (fun r2 h2 hr => ?_)
  obtain ⟨⟨v2, rfl⟩, hI2⟩ := hQ _ _ hr
  clear hP hQ hh hI hr
  have hI := hI2
  clear hI2
  refine r_pop X dL_law_1074 ?_
  refine r_goto (tgt := 1357) X dL_law_1075 rfl ?_
  exact K _ _ _ (by omega) (by omega) hI
theorem lc_28 (X : pX p s m #[Value.ref b] c G 4 cL_law RL) (hX : va_X b L xs s s.heap) (hbl : b < s.heap.size) (hG : G.2.2.1 = s.heap.size) (hG3 : G.2.2.2 3 = b) (hL : L ≤ 3072) (ht : 6 * t + 6 ≤ L) (hcl : cells + 3 ≤ 600000) (hsl : slots + 488 ≤ 7302249) (hI : LIY PCW nc nm h) (K : lKn p l e s m below meth c G Q b nc nm t cells slots) : PW p l e room_1 s m #[Value.ref b] below meth c G 4 Q cells slots h 1078 (lls nc nm t) [] := by
  refine r_aload_n X dL_law_1078 rfl ?_
  obtain ⟨Φ1, hP, hQ⟩ := ic_stack l G hI
  obtain ⟨fs1, hh⟩ := hI.cl
  refine r_callV X kv_L_133 dL_law_1079 (As := []) rfl rfl hh rfl hP ⟨by decide, by decide⟩ (Nat.zero_le _) ⟨by show _ ≤ 600000; omega, by show _ ≤ 7302249; omega⟩ (fun r1 h1 hr => ?_)
  obtain ⟨⟨v1, rfl⟩, hI1⟩ := hQ _ _ hr
  clear hP hQ hh hI hr
  have hI := hI1
  clear hI1
  refine r_pop X dL_law_1082 ?_
  refine r_aload_n X dL_law_1083 rfl ?_
  obtain ⟨Φ2, hP, hQ⟩ := ir_stack l G hI
  obtain ⟨fs2, hh⟩ := hI.md
  refine r_callV X kv_L_137 dL_law_1084 (As := []) rfl rfl hh rfl hP ⟨by decide, by decide⟩ (Nat.zero_le _) ⟨by show _ ≤ 600000; omega, by show _ ≤ 7302249; omega⟩ (fun r2 h2 hr => ?_)
  obtain ⟨⟨v2, rfl⟩, hI2⟩ := hQ _ _ hr
  clear hP hQ hh hI hr
  have hI := hI2
  clear hI2
  refine r_pop X dL_law_1087 ?_
  refine r_goto (tgt := 1357) X dL_law_1088 rfl ?_
  exact K _ _ _ (by omega) (by omega) hI
theorem lc_29 (X : pX p s m #[Value.ref b] c G 4 cL_law RL) (hX : va_X b L xs s s.heap) (hbl : b < s.heap.size) (hG : G.2.2.1 = s.heap.size) (hG3 : G.2.2.2 3 = b) (hL : L ≤ 3072) (ht : 6 * t + 6 ≤ L) (hcl : cells + 3 ≤ 600000) (hsl : slots + 488 ≤ 7302249) (hI : LIY PCW nc nm h) (K : lKn p l e s m below meth c G Q b nc nm t cells slots) : PW p l e room_1 s m #[Value.ref b] below meth c G 4 Q cells slots h 1091 (lls nc nm t) [] := by
  refine r_aload_n X dL_law_1091 rfl ?_
  refine r_arg (j := 1) X hX hbl hG hG3 hL ht dL_law_1092 dL_law_1093 dL_law_1094 dL_law_1095 dL_law_1096 (by decide) rfl ?_
  obtain ⟨Φ1, hP, hQ⟩ := ic_stands l G hI (xs (6 * t + 1))
  obtain ⟨fs1, hh⟩ := hI.cl
  refine r_callV X kv_L_138 dL_law_1097 (As := [vI (xs (6 * t + 1))]) rfl rfl hh rfl hP ⟨by decide, by decide⟩ (Nat.zero_le _) ⟨by show _ ≤ 600000; omega, by show _ ≤ 7302249; omega⟩ (fun r1 h1 hr => ?_)
  obtain ⟨⟨v1, rfl⟩, hI1⟩ := hQ _ _ hr
  clear hP hQ hh hI hr
  have hI := hI1
  clear hI1
  refine r_pop X dL_law_1100 ?_
  refine r_aload_n X dL_law_1101 rfl ?_
  refine r_arg (j := 1) X hX hbl hG hG3 hL ht dL_law_1102 dL_law_1103 dL_law_1104 dL_law_1105 dL_law_1106 (by decide) rfl ?_
  obtain ⟨Φ2, hP, hQ⟩ := ir_stands l G hI (xs (6 * t + 1))
  obtain ⟨fs2, hh⟩ := hI.md
  refine r_callV X kv_L_141 dL_law_1107 (As := [vI (xs (6 * t + 1))]) rfl rfl hh rfl hP ⟨by decide, by decide⟩ (Nat.zero_le _) ⟨by show _ ≤ 600000; omega, by show _ ≤ 7302249; omega⟩ (fun r2 h2 hr => ?_)
  obtain ⟨⟨v2, rfl⟩, hI2⟩ := hQ _ _ hr
  clear hP hQ hh hI hr
  have hI := hI2
  clear hI2
  refine r_pop X dL_law_1110 ?_
  refine r_goto (tgt := 1357) X dL_law_1111 rfl ?_
  exact K _ _ _ (by omega) (by omega) hI
theorem lc_30 (X : pX p s m #[Value.ref b] c G 4 cL_law RL) (hX : va_X b L xs s s.heap) (hbl : b < s.heap.size) (hG : G.2.2.1 = s.heap.size) (hG3 : G.2.2.2 3 = b) (hL : L ≤ 3072) (ht : 6 * t + 6 ≤ L) (hcl : cells + 3 ≤ 600000) (hsl : slots + 488 ≤ 7302249) (hI : LIY PCW nc nm h) (K : lKn p l e s m below meth c G Q b nc nm t cells slots) : PW p l e room_1 s m #[Value.ref b] below meth c G 4 Q cells slots h 1114 (lls nc nm t) [] := by
  refine r_aload_n X dL_law_1114 rfl ?_
  refine r_arg (j := 1) X hX hbl hG hG3 hL ht dL_law_1115 dL_law_1116 dL_law_1117 dL_law_1118 dL_law_1119 (by decide) rfl ?_
  refine r_arg (j := 2) X hX hbl hG hG3 hL ht dL_law_1120 dL_law_1121 dL_law_1122 dL_law_1123 dL_law_1124 (by decide) rfl ?_
  obtain ⟨Φ1, hP, hQ⟩ := ic_lantern l G hI (xs (6 * t + 1)) (xs (6 * t + 2))
  obtain ⟨fs1, hh⟩ := hI.cl
  refine r_callV X kv_L_142 dL_law_1125 (As := [vI (xs (6 * t + 1)), vI (xs (6 * t + 2))]) rfl rfl hh rfl hP ⟨by decide, by decide⟩ (Nat.zero_le _) ⟨by show _ ≤ 600000; omega, by show _ ≤ 7302249; omega⟩ (fun r1 h1 hr => ?_)
  obtain ⟨⟨v1, rfl⟩, hI1⟩ := hQ _ _ hr
  clear hP hQ hh hI hr
  have hI := hI1
  clear hI1
  refine r_pop X dL_law_1128 ?_
  refine r_aload_n X dL_law_1129 rfl ?_
  refine r_arg (j := 1) X hX hbl hG hG3 hL ht dL_law_1130 dL_law_1131 dL_law_1132 dL_law_1133 dL_law_1134 (by decide) rfl ?_
  refine r_arg (j := 2) X hX hbl hG hG3 hL ht dL_law_1135 dL_law_1136 dL_law_1137 dL_law_1138 dL_law_1139 (by decide) rfl ?_
  obtain ⟨Φ2, hP, hQ⟩ := ir_lantern l G hI (xs (6 * t + 1)) (xs (6 * t + 2))
  obtain ⟨fs2, hh⟩ := hI.md
  refine r_callV X kv_L_145 dL_law_1140 (As := [vI (xs (6 * t + 1)), vI (xs (6 * t + 2))]) rfl rfl hh rfl hP ⟨by decide, by decide⟩ (Nat.zero_le _) ⟨by show _ ≤ 600000; omega, by show _ ≤ 7302249; omega⟩ (fun r2 h2 hr => ?_)
  obtain ⟨⟨v2, rfl⟩, hI2⟩ := hQ _ _ hr
  clear hP hQ hh hI hr
  have hI := hI2
  clear hI2
  refine r_pop X dL_law_1143 ?_
  refine r_goto (tgt := 1357) X dL_law_1144 rfl ?_
  exact K _ _ _ (by omega) (by omega) hI
theorem lc_31 (X : pX p s m #[Value.ref b] c G 4 cL_law RL) (hX : va_X b L xs s s.heap) (hbl : b < s.heap.size) (hG : G.2.2.1 = s.heap.size) (hG3 : G.2.2.2 3 = b) (hL : L ≤ 3072) (ht : 6 * t + 6 ≤ L) (hcl : cells + 3 ≤ 600000) (hsl : slots + 488 ≤ 7302249) (hI : LIY PCW nc nm h) (K : lKn p l e s m below meth c G Q b nc nm t cells slots) : PW p l e room_1 s m #[Value.ref b] below meth c G 4 Q cells slots h 1147 (lls nc nm t) [] := by
  refine r_aload_n X dL_law_1147 rfl ?_
  refine r_arg (j := 1) X hX hbl hG hG3 hL ht dL_law_1148 dL_law_1149 dL_law_1150 dL_law_1151 dL_law_1152 (by decide) rfl ?_
  refine r_arg (j := 2) X hX hbl hG hG3 hL ht dL_law_1153 dL_law_1154 dL_law_1155 dL_law_1156 dL_law_1157 (by decide) rfl ?_
  obtain ⟨Φ1, hP, hQ⟩ := ic_bill l G hI (xs (6 * t + 1)) (xs (6 * t + 2))
  obtain ⟨fs1, hh⟩ := hI.cl
  refine r_callV X kv_L_146 dL_law_1158 (As := [vI (xs (6 * t + 1)), vI (xs (6 * t + 2))]) rfl rfl hh rfl hP ⟨by decide, by decide⟩ (Nat.zero_le _) ⟨by show _ ≤ 600000; omega, by show _ ≤ 7302249; omega⟩ (fun r1 h1 hr => ?_)
  obtain ⟨⟨v1, rfl⟩, hI1⟩ := hQ _ _ hr
  clear hP hQ hh hI hr
  have hI := hI1
  clear hI1
  refine r_pop X dL_law_1161 ?_
  refine r_aload_n X dL_law_1162 rfl ?_
  refine r_arg (j := 1) X hX hbl hG hG3 hL ht dL_law_1163 dL_law_1164 dL_law_1165 dL_law_1166 dL_law_1167 (by decide) rfl ?_
  refine r_arg (j := 2) X hX hbl hG hG3 hL ht dL_law_1168 dL_law_1169 dL_law_1170 dL_law_1171 dL_law_1172 (by decide) rfl ?_
  obtain ⟨Φ2, hP, hQ⟩ := ir_bill l G hI (xs (6 * t + 1)) (xs (6 * t + 2))
  obtain ⟨fs2, hh⟩ := hI.md
  refine r_callV X kv_L_149 dL_law_1173 (As := [vI (xs (6 * t + 1)), vI (xs (6 * t + 2))]) rfl rfl hh rfl hP ⟨by decide, by decide⟩ (Nat.zero_le _) ⟨by show _ ≤ 600000; omega, by show _ ≤ 7302249; omega⟩ (fun r2 h2 hr => ?_)
  obtain ⟨⟨v2, rfl⟩, hI2⟩ := hQ _ _ hr
  clear hP hQ hh hI hr
  have hI := hI2
  clear hI2
  refine r_pop X dL_law_1176 ?_
  refine r_goto (tgt := 1357) X dL_law_1177 rfl ?_
  exact K _ _ _ (by omega) (by omega) hI
theorem lc_32 (X : pX p s m #[Value.ref b] c G 4 cL_law RL) (hX : va_X b L xs s s.heap) (hbl : b < s.heap.size) (hG : G.2.2.1 = s.heap.size) (hG3 : G.2.2.2 3 = b) (hL : L ≤ 3072) (ht : 6 * t + 6 ≤ L) (hcl : cells + 3 ≤ 600000) (hsl : slots + 488 ≤ 7302249) (hI : LIY PCW nc nm h) (K : lKn p l e s m below meth c G Q b nc nm t cells slots) : PW p l e room_1 s m #[Value.ref b] below meth c G 4 Q cells slots h 1180 (lls nc nm t) [] := by
  refine r_aload_n X dL_law_1180 rfl ?_
  refine r_arg (j := 1) X hX hbl hG hG3 hL ht dL_law_1181 dL_law_1182 dL_law_1183 dL_law_1184 dL_law_1185 (by decide) rfl ?_
  obtain ⟨Φ1, hP, hQ⟩ := ic_bills l G hI (xs (6 * t + 1))
  obtain ⟨fs1, hh⟩ := hI.cl
  refine r_callV X kv_L_150 dL_law_1186 (As := [vI (xs (6 * t + 1))]) rfl rfl hh rfl hP ⟨by decide, by decide⟩ (Nat.zero_le _) ⟨by show _ ≤ 600000; omega, by show _ ≤ 7302249; omega⟩ (fun r1 h1 hr => ?_)
  obtain ⟨⟨v1, rfl⟩, hI1⟩ := hQ _ _ hr
  clear hP hQ hh hI hr
  have hI := hI1
  clear hI1
  refine r_pop X dL_law_1189 ?_
  refine r_aload_n X dL_law_1190 rfl ?_
  refine r_arg (j := 1) X hX hbl hG hG3 hL ht dL_law_1191 dL_law_1192 dL_law_1193 dL_law_1194 dL_law_1195 (by decide) rfl ?_
  obtain ⟨Φ2, hP, hQ⟩ := ir_bills l G hI (xs (6 * t + 1))
  obtain ⟨fs2, hh⟩ := hI.md
  refine r_callV X kv_L_153 dL_law_1196 (As := [vI (xs (6 * t + 1))]) rfl rfl hh rfl hP ⟨by decide, by decide⟩ (Nat.zero_le _) ⟨by show _ ≤ 600000; omega, by show _ ≤ 7302249; omega⟩ (fun r2 h2 hr => ?_)
  obtain ⟨⟨v2, rfl⟩, hI2⟩ := hQ _ _ hr
  clear hP hQ hh hI hr
  have hI := hI2
  clear hI2
  refine r_pop X dL_law_1199 ?_
  refine r_goto (tgt := 1357) X dL_law_1200 rfl ?_
  exact K _ _ _ (by omega) (by omega) hI
theorem lc_33 (X : pX p s m #[Value.ref b] c G 4 cL_law RL) (hX : va_X b L xs s s.heap) (hbl : b < s.heap.size) (hG : G.2.2.1 = s.heap.size) (hG3 : G.2.2.2 3 = b) (hL : L ≤ 3072) (ht : 6 * t + 6 ≤ L) (hcl : cells + 3 ≤ 600000) (hsl : slots + 488 ≤ 7302249) (hI : LIY PCW nc nm h) (K : lKn p l e s m below meth c G Q b nc nm t cells slots) : PW p l e room_1 s m #[Value.ref b] below meth c G 4 Q cells slots h 1203 (lls nc nm t) [] := by
  refine r_aload_n X dL_law_1203 rfl ?_
  refine r_arg (j := 1) X hX hbl hG hG3 hL ht dL_law_1204 dL_law_1205 dL_law_1206 dL_law_1207 dL_law_1208 (by decide) rfl ?_
  refine r_arg (j := 2) X hX hbl hG hG3 hL ht dL_law_1209 dL_law_1210 dL_law_1211 dL_law_1212 dL_law_1213 (by decide) rfl ?_
  obtain ⟨Φ1, hP, hQ⟩ := ic_before l G hI (xs (6 * t + 1)) (xs (6 * t + 2))
  obtain ⟨fs1, hh⟩ := hI.cl
  refine r_callV X kv_L_154 dL_law_1214 (As := [vI (xs (6 * t + 1)), vI (xs (6 * t + 2))]) rfl rfl hh rfl hP ⟨by decide, by decide⟩ (Nat.zero_le _) ⟨by show _ ≤ 600000; omega, by show _ ≤ 7302249; omega⟩ (fun r1 h1 hr => ?_)
  obtain ⟨⟨v1, rfl⟩, hI1⟩ := hQ _ _ hr
  clear hP hQ hh hI hr
  have hI := hI1
  clear hI1
  refine r_pop X dL_law_1217 ?_
  refine r_aload_n X dL_law_1218 rfl ?_
  refine r_arg (j := 1) X hX hbl hG hG3 hL ht dL_law_1219 dL_law_1220 dL_law_1221 dL_law_1222 dL_law_1223 (by decide) rfl ?_
  refine r_arg (j := 2) X hX hbl hG hG3 hL ht dL_law_1224 dL_law_1225 dL_law_1226 dL_law_1227 dL_law_1228 (by decide) rfl ?_
  obtain ⟨Φ2, hP, hQ⟩ := ir_before l G hI (xs (6 * t + 1)) (xs (6 * t + 2))
  obtain ⟨fs2, hh⟩ := hI.md
  refine r_callV X kv_L_157 dL_law_1229 (As := [vI (xs (6 * t + 1)), vI (xs (6 * t + 2))]) rfl rfl hh rfl hP ⟨by decide, by decide⟩ (Nat.zero_le _) ⟨by show _ ≤ 600000; omega, by show _ ≤ 7302249; omega⟩ (fun r2 h2 hr => ?_)
  obtain ⟨⟨v2, rfl⟩, hI2⟩ := hQ _ _ hr
  clear hP hQ hh hI hr
  have hI := hI2
  clear hI2
  refine r_pop X dL_law_1232 ?_
  refine r_goto (tgt := 1357) X dL_law_1233 rfl ?_
  exact K _ _ _ (by omega) (by omega) hI
theorem lc_34 (X : pX p s m #[Value.ref b] c G 4 cL_law RL) (hX : va_X b L xs s s.heap) (hbl : b < s.heap.size) (hG : G.2.2.1 = s.heap.size) (hG3 : G.2.2.2 3 = b) (hL : L ≤ 3072) (ht : 6 * t + 6 ≤ L) (hcl : cells + 3 ≤ 600000) (hsl : slots + 488 ≤ 7302249) (hI : LIY PCW nc nm h) (K : lKn p l e s m below meth c G Q b nc nm t cells slots) : PW p l e room_1 s m #[Value.ref b] below meth c G 4 Q cells slots h 1236 (lls nc nm t) [] := by
  refine r_aload_n X dL_law_1236 rfl ?_
  obtain ⟨Φ1, hP, hQ⟩ := ic_order l G hI
  obtain ⟨fs1, hh⟩ := hI.cl
  refine r_callV X kv_L_158 dL_law_1237 (As := []) rfl rfl hh rfl hP ⟨by decide, by decide⟩ (Nat.zero_le _) ⟨by show _ ≤ 600000; omega, by show _ ≤ 7302249; omega⟩ (fun r1 h1 hr => ?_)
  obtain ⟨⟨v1, rfl⟩, hI1⟩ := hQ _ _ hr
  clear hP hQ hh hI hr
  have hI := hI1
  clear hI1
  refine r_pop X dL_law_1240 ?_
  refine r_aload_n X dL_law_1241 rfl ?_
  obtain ⟨Φ2, hP, hQ⟩ := ir_order l G hI
  obtain ⟨fs2, hh⟩ := hI.md
  refine r_callV X kv_L_161 dL_law_1242 (As := []) rfl rfl hh rfl hP ⟨by decide, by decide⟩ (Nat.zero_le _) ⟨by show _ ≤ 600000; omega, by show _ ≤ 7302249; omega⟩ (fun r2 h2 hr => ?_)
  obtain ⟨⟨v2, rfl⟩, hI2⟩ := hQ _ _ hr
  clear hP hQ hh hI hr
  have hI := hI2
  clear hI2
  refine r_pop X dL_law_1245 ?_
  refine r_goto (tgt := 1357) X dL_law_1246 rfl ?_
  exact K _ _ _ (by omega) (by omega) hI
theorem lc_35 (X : pX p s m #[Value.ref b] c G 4 cL_law RL) (hX : va_X b L xs s s.heap) (hbl : b < s.heap.size) (hG : G.2.2.1 = s.heap.size) (hG3 : G.2.2.2 3 = b) (hL : L ≤ 3072) (ht : 6 * t + 6 ≤ L) (hcl : cells + 3 ≤ 600000) (hsl : slots + 488 ≤ 7302249) (hI : LIY PCW nc nm h) (K : lKn p l e s m below meth c G Q b nc nm t cells slots) : PW p l e room_1 s m #[Value.ref b] below meth c G 4 Q cells slots h 1249 (lls nc nm t) [] := by
  refine r_aload_n X dL_law_1249 rfl ?_
  refine r_arg (j := 1) X hX hbl hG hG3 hL ht dL_law_1250 dL_law_1251 dL_law_1252 dL_law_1253 dL_law_1254 (by decide) rfl ?_
  refine r_arg (j := 2) X hX hbl hG hG3 hL ht dL_law_1255 dL_law_1256 dL_law_1257 dL_law_1258 dL_law_1259 (by decide) rfl ?_
  obtain ⟨Φ1, hP, hQ⟩ := ic_game l G hI (xs (6 * t + 1)) (xs (6 * t + 2))
  obtain ⟨fs1, hh⟩ := hI.cl
  refine r_callV X kv_L_162 dL_law_1260 (As := [vI (xs (6 * t + 1)), vI (xs (6 * t + 2))]) rfl rfl hh rfl hP ⟨by decide, by decide⟩ (Nat.zero_le _) ⟨by show _ ≤ 600000; omega, by show _ ≤ 7302249; omega⟩ (fun r1 h1 hr => ?_)
  obtain ⟨⟨v1, rfl⟩, hI1⟩ := hQ _ _ hr
  clear hP hQ hh hI hr
  have hI := hI1
  clear hI1
  refine r_pop X dL_law_1263 ?_
  refine r_aload_n X dL_law_1264 rfl ?_
  refine r_arg (j := 1) X hX hbl hG hG3 hL ht dL_law_1265 dL_law_1266 dL_law_1267 dL_law_1268 dL_law_1269 (by decide) rfl ?_
  refine r_arg (j := 2) X hX hbl hG hG3 hL ht dL_law_1270 dL_law_1271 dL_law_1272 dL_law_1273 dL_law_1274 (by decide) rfl ?_
  obtain ⟨Φ2, hP, hQ⟩ := ir_game l G hI (xs (6 * t + 1)) (xs (6 * t + 2))
  obtain ⟨fs2, hh⟩ := hI.md
  refine r_callV X kv_L_165 dL_law_1275 (As := [vI (xs (6 * t + 1)), vI (xs (6 * t + 2))]) rfl rfl hh rfl hP ⟨by decide, by decide⟩ (Nat.zero_le _) ⟨by show _ ≤ 600000; omega, by show _ ≤ 7302249; omega⟩ (fun r2 h2 hr => ?_)
  obtain ⟨⟨v2, rfl⟩, hI2⟩ := hQ _ _ hr
  clear hP hQ hh hI hr
  have hI := hI2
  clear hI2
  refine r_pop X dL_law_1278 ?_
  refine r_goto (tgt := 1357) X dL_law_1279 rfl ?_
  exact K _ _ _ (by omega) (by omega) hI
theorem lc_36 (X : pX p s m #[Value.ref b] c G 4 cL_law RL) (hX : va_X b L xs s s.heap) (hbl : b < s.heap.size) (hG : G.2.2.1 = s.heap.size) (hG3 : G.2.2.2 3 = b) (hL : L ≤ 3072) (ht : 6 * t + 6 ≤ L) (hcl : cells + 3 ≤ 600000) (hsl : slots + 488 ≤ 7302249) (hI : LIY PCW nc nm h) (K : lKn p l e s m below meth c G Q b nc nm t cells slots) : PW p l e room_1 s m #[Value.ref b] below meth c G 4 Q cells slots h 1282 (lls nc nm t) [] := by
  refine r_aload_n X dL_law_1282 rfl ?_
  obtain ⟨Φ0, hP, hQ⟩ := pq_undo l G hI
  obtain ⟨fs, hh⟩ := hI.cl
  refine r_callV X kv_L_166 dL_law_1283 (As := []) rfl rfl hh rfl hP ⟨by decide, by decide⟩ (Nat.zero_le _) ⟨by show _ ≤ 600000; omega, by show _ ≤ 7302249; omega⟩ (fun r h1 hr => ?_)
  obtain ⟨v, rfl, ⟨fs1, hh1⟩, Φ1, hP1, hQ1⟩ := hQ _ _ hr
  refine r_pop X dL_law_1286 ?_
  refine r_aload_n X dL_law_1287 rfl ?_
  refine r_callV X kv_L_170 dL_law_1288 (As := []) (rest := []) rfl rfl hh1 rfl hP1 ⟨by decide, by decide⟩ (Nat.zero_le _) ⟨by show _ ≤ 600000; omega, by show _ ≤ 7302249; omega⟩ (fun r2 h2 hr2 => ?_)
  obtain ⟨rfl, hI2⟩ := hQ1 _ _ hr2
  refine r_pop X dL_law_1291 ?_
  refine r_goto (tgt := 1357) X dL_law_1292 rfl ?_
  exact K _ _ _ (by omega) (by omega) hI2
theorem lc_37 (X : pX p s m #[Value.ref b] c G 4 cL_law RL) (hX : va_X b L xs s s.heap) (hbl : b < s.heap.size) (hG : G.2.2.1 = s.heap.size) (hG3 : G.2.2.2 3 = b) (hL : L ≤ 3072) (ht : 6 * t + 6 ≤ L) (hcl : cells + 3 ≤ 600000) (hsl : slots + 488 ≤ 7302249) (hI : LIY PCW nc nm h) (K : lKn p l e s m below meth c G Q b nc nm t cells slots) : PW p l e room_1 s m #[Value.ref b] below meth c G 4 Q cells slots h 1295 (lls nc nm t) [] := by
  have key : ∀ x : Int32, x = 0 ∨ x = 1 → (xs (6 * t + 1) = 0 ↔ x = 0) → PW p l e room_1 s m #[Value.ref b] below meth c G 4 Q cells slots h 1309 (lls nc nm t) [vI x, vR nc] := by
    intro x hx hxx
    obtain ⟨Φ0, hP, hQ⟩ := image_pair l G hI x hx
    obtain ⟨fs, hh⟩ := hI.cl
    refine r_callV X kv_L_171 dL_law_1309 (As := [vI x]) rfl rfl hh rfl hP ⟨by decide, by decide⟩ (Nat.zero_le _) ⟨by show _ ≤ 600000; omega, by show _ ≤ 7302249; omega⟩ (fun r h1 hr => ?_)
    obtain ⟨v, rfl, ⟨fs1, hh1⟩, Φ1, hP1, hQ1⟩ := hQ _ _ hr
    refine r_pop X dL_law_1312 ?_
    refine r_aload_n X dL_law_1313 rfl ?_
    refine r_arg (j := 1) X hX hbl hG hG3 hL ht dL_law_1314 dL_law_1315 dL_law_1316 dL_law_1317 dL_law_1318 (by decide) rfl ?_
    have fin : PW p l e room_1 s m #[Value.ref b] below meth c G 4 Q (cells + 0) (slots + 0) h1 1327 (lls nc nm t) [vI x, vR nm] := by
      refine r_callV X kv_L_175 dL_law_1327 (As := [vI x]) (rest := []) rfl rfl hh1 rfl hP1 ⟨by decide, by decide⟩ (Nat.zero_le _) ⟨by show _ ≤ 600000; omega, by show _ ≤ 7302249; omega⟩ (fun r2 h2 hr2 => ?_)
      obtain ⟨rfl, hI2⟩ := hQ1 _ _ hr2
      refine r_pop X dL_law_1330 ?_
      refine r_goto (tgt := 1357) X dL_law_1331 rfl ?_
      exact K _ _ _ (by omega) (by omega) hI2
    by_cases q : xs (6 * t + 1) = 0
    · refine r_if_eq_t (tgt := 1326) X dL_law_1319 rfl q ?_
      obtain rfl := hxx.mp q
      refine r_iconst (v := 0) X dL_law_1326 (by decide) ?_
      exact fin
    · refine r_if_eq_f (tgt := 1326) X dL_law_1319 rfl q ?_
      obtain rfl : x = 1 := by
        rcases hx with e | e
        · exact absurd (hxx.mpr e) q
        · exact e
      refine r_iconst (v := 1) X dL_law_1322 (by decide) ?_
      refine r_goto (tgt := 1327) X dL_law_1323 rfl ?_
      exact fin
  refine r_aload_n X dL_law_1295 rfl ?_
  refine r_arg (j := 1) X hX hbl hG hG3 hL ht dL_law_1296 dL_law_1297 dL_law_1298 dL_law_1299 dL_law_1300 (by decide) rfl ?_
  by_cases q : xs (6 * t + 1) = 0
  · refine r_if_eq_t (tgt := 1308) X dL_law_1301 rfl q ?_
    refine r_iconst (v := 0) X dL_law_1308 (by decide) ?_
    exact key 0 (Or.inl rfl) ⟨fun _ => rfl, fun _ => q⟩
  · refine r_if_eq_f (tgt := 1308) X dL_law_1301 rfl q ?_
    refine r_iconst (v := 1) X dL_law_1304 (by decide) ?_
    refine r_goto (tgt := 1309) X dL_law_1305 rfl ?_
    exact key 1 (Or.inr rfl) ⟨fun z => absurd z q, fun z => absurd z (by decide)⟩
theorem lc_38 (X : pX p s m #[Value.ref b] c G 4 cL_law RL) (hX : va_X b L xs s s.heap) (hbl : b < s.heap.size) (hG : G.2.2.1 = s.heap.size) (hG3 : G.2.2.2 3 = b) (hL : L ≤ 3072) (ht : 6 * t + 6 ≤ L) (hcl : cells + 3 ≤ 600000) (hsl : slots + 488 ≤ 7302249) (hI : LIY PCW nc nm h) (K : lKn p l e s m below meth c G Q b nc nm t cells slots) : PW p l e room_1 s m #[Value.ref b] below meth c G 4 Q cells slots h 1334 (lls nc nm t) [] := by
  refine r_aload_n X dL_law_1334 rfl ?_
  refine r_arg (j := 1) X hX hbl hG hG3 hL ht dL_law_1335 dL_law_1336 dL_law_1337 dL_law_1338 dL_law_1339 (by decide) rfl ?_
  obtain ⟨Φ1, hP, hQ⟩ := ic_look l G hI (xs (6 * t + 1))
  obtain ⟨fs1, hh⟩ := hI.cl
  refine r_callV X kv_L_176 dL_law_1340 (As := [vI (xs (6 * t + 1))]) rfl rfl hh rfl hP ⟨by decide, by decide⟩ (Nat.zero_le _) ⟨by show _ ≤ 600000; omega, by show _ ≤ 7302249; omega⟩ (fun r1 h1 hr => ?_)
  obtain ⟨⟨v1, rfl⟩, hI1⟩ := hQ _ _ hr
  clear hP hQ hh hI hr
  have hI := hI1
  clear hI1
  refine r_pop X dL_law_1343 ?_
  refine r_aload_n X dL_law_1344 rfl ?_
  refine r_arg (j := 1) X hX hbl hG hG3 hL ht dL_law_1345 dL_law_1346 dL_law_1347 dL_law_1348 dL_law_1349 (by decide) rfl ?_
  obtain ⟨Φ2, hP, hQ⟩ := ir_look l G hI (xs (6 * t + 1))
  obtain ⟨fs2, hh⟩ := hI.md
  refine r_callV X kv_L_179 dL_law_1350 (As := [vI (xs (6 * t + 1))]) rfl rfl hh rfl hP ⟨by decide, by decide⟩ (Nat.zero_le _) ⟨by show _ ≤ 600000; omega, by show _ ≤ 7302249; omega⟩ (fun r2 h2 hr => ?_)
  obtain ⟨⟨v2, rfl⟩, hI2⟩ := hQ _ _ hr
  clear hP hQ hh hI hr
  have hI := hI2
  clear hI2
  refine r_pop X dL_law_1353 ?_
  refine r_goto (tgt := 1357) X dL_law_1354 rfl ?_
  exact K _ _ _ (by omega) (by omega) hI
theorem lw_sel (sel : Int32) (X : pX p s m #[Value.ref b] c G 4 cL_law RL) (hX : va_X b L xs s s.heap) (hbl : b < s.heap.size) (hG : G.2.2.1 = s.heap.size) (hG3 : G.2.2.2 3 = b) (hL : L ≤ 3072) (ht : 6 * t + 6 ≤ L) (hcl : cells + 3 ≤ 600000) (hsl : slots + 488 ≤ 7302249) (hI : LIY PCW nc nm h) (K : lKn p l e s m below meth c G Q b nc nm t cells slots) : PW p l e room_1 s m #[Value.ref b] below meth c G 4 Q cells slots h 33 (lls nc nm t) [vI sel] := by
  rcases tabc sel 0 38 (by decide) with q1 | ⟨j, hj, hje⟩
  · refine r_tabOut (tgt := 1357) X dL_law_33 q1 rfl ?_
    exact K _ _ _ (by omega) (by omega) hI
  · rw [Nat.zero_add] at hje
    subst hje
    match j, hj with
    | 0, _ => exact r_tabIn (off := 171) (tgt := 204) X dL_law_33 (by decide +kernel) (by decide +kernel) (by decide +kernel) rfl (lc_0 X hX hbl hG hG3 hL ht hcl hsl hI K)
    | 1, _ => exact r_tabIn (off := 194) (tgt := 227) X dL_law_33 (by decide +kernel) (by decide +kernel) (by decide +kernel) rfl (lc_1 X hX hbl hG hG3 hL ht hcl hsl hI K)
    | 2, _ => exact r_tabIn (off := 247) (tgt := 280) X dL_law_33 (by decide +kernel) (by decide +kernel) (by decide +kernel) rfl (lc_2 X hX hbl hG hG3 hL ht hcl hsl hI K)
    | 3, _ => exact r_tabIn (off := 290) (tgt := 323) X dL_law_33 (by decide +kernel) (by decide +kernel) (by decide +kernel) rfl (lc_3 X hX hbl hG hG3 hL ht hcl hsl hI K)
    | 4, _ => exact r_tabIn (off := 323) (tgt := 356) X dL_law_33 (by decide +kernel) (by decide +kernel) (by decide +kernel) rfl (lc_4 X hX hbl hG hG3 hL ht hcl hsl hI K)
    | 5, _ => exact r_tabIn (off := 356) (tgt := 389) X dL_law_33 (by decide +kernel) (by decide +kernel) (by decide +kernel) rfl (lc_5 X hX hbl hG hG3 hL ht hcl hsl hI K)
    | 6, _ => exact r_tabIn (off := 389) (tgt := 422) X dL_law_33 (by decide +kernel) (by decide +kernel) (by decide +kernel) rfl (lc_6 X hX hbl hG hG3 hL ht hcl hsl hI K)
    | 7, _ => exact r_tabIn (off := 412) (tgt := 445) X dL_law_33 (by decide +kernel) (by decide +kernel) (by decide +kernel) rfl (lc_7 X hX hbl hG hG3 hL ht hcl hsl hI K)
    | 8, _ => exact r_tabIn (off := 475) (tgt := 508) X dL_law_33 (by decide +kernel) (by decide +kernel) (by decide +kernel) rfl (lc_8 X hX hbl hG hG3 hL ht hcl hsl hI K)
    | 9, _ => exact r_tabIn (off := 498) (tgt := 531) X dL_law_33 (by decide +kernel) (by decide +kernel) (by decide +kernel) rfl (lc_9 X hX hbl hG hG3 hL ht hcl hsl hI K)
    | 10, _ => exact r_tabIn (off := 521) (tgt := 554) X dL_law_33 (by decide +kernel) (by decide +kernel) (by decide +kernel) rfl (lc_10 X hX hbl hG hG3 hL ht hcl hsl hI K)
    | 11, _ => exact r_tabIn (off := 544) (tgt := 577) X dL_law_33 (by decide +kernel) (by decide +kernel) (by decide +kernel) rfl (lc_11 X hX hbl hG hG3 hL ht hcl hsl hI K)
    | 12, _ => exact r_tabIn (off := 577) (tgt := 610) X dL_law_33 (by decide +kernel) (by decide +kernel) (by decide +kernel) rfl (lc_12 X hX hbl hG hG3 hL ht hcl hsl hI K)
    | 13, _ => exact r_tabIn (off := 620) (tgt := 653) X dL_law_33 (by decide +kernel) (by decide +kernel) (by decide +kernel) rfl (lc_13 X hX hbl hG hG3 hL ht hcl hsl hI K)
    | 14, _ => exact r_tabIn (off := 653) (tgt := 686) X dL_law_33 (by decide +kernel) (by decide +kernel) (by decide +kernel) rfl (lc_14 X hX hbl hG hG3 hL ht hcl hsl hI K)
    | 15, _ => exact r_tabIn (off := 686) (tgt := 719) X dL_law_33 (by decide +kernel) (by decide +kernel) (by decide +kernel) rfl (lc_15 X hX hbl hG hG3 hL ht hcl hsl hI K)
    | 16, _ => exact r_tabIn (off := 709) (tgt := 742) X dL_law_33 (by decide +kernel) (by decide +kernel) (by decide +kernel) rfl (lc_16 X hX hbl hG hG3 hL ht hcl hsl hI K)
    | 17, _ => exact r_tabIn (off := 742) (tgt := 775) X dL_law_33 (by decide +kernel) (by decide +kernel) (by decide +kernel) rfl (lc_17 X hX hbl hG hG3 hL ht hcl hsl hI K)
    | 18, _ => exact r_tabIn (off := 765) (tgt := 798) X dL_law_33 (by decide +kernel) (by decide +kernel) (by decide +kernel) rfl (lc_18 X hX hbl hG hG3 hL ht hcl hsl hI K)
    | 19, _ => exact r_tabIn (off := 788) (tgt := 821) X dL_law_33 (by decide +kernel) (by decide +kernel) (by decide +kernel) rfl (lc_19 X hX hbl hG hG3 hL ht hcl hsl hI K)
    | 20, _ => exact r_tabIn (off := 831) (tgt := 864) X dL_law_33 (by decide +kernel) (by decide +kernel) (by decide +kernel) rfl (lc_20 X hX hbl hG hG3 hL ht hcl hsl hI K)
    | 21, _ => exact r_tabIn (off := 854) (tgt := 887) X dL_law_33 (by decide +kernel) (by decide +kernel) (by decide +kernel) rfl (lc_21 X hX hbl hG hG3 hL ht hcl hsl hI K)
    | 22, _ => exact r_tabIn (off := 887) (tgt := 920) X dL_law_33 (by decide +kernel) (by decide +kernel) (by decide +kernel) rfl (lc_22 X hX hbl hG hG3 hL ht hcl hsl hI K)
    | 23, _ => exact r_tabIn (off := 910) (tgt := 943) X dL_law_33 (by decide +kernel) (by decide +kernel) (by decide +kernel) rfl (lc_23 X hX hbl hG hG3 hL ht hcl hsl hI K)
    | 24, _ => exact r_tabIn (off := 933) (tgt := 966) X dL_law_33 (by decide +kernel) (by decide +kernel) (by decide +kernel) rfl (lc_24 X hX hbl hG hG3 hL ht hcl hsl hI K)
    | 25, _ => exact r_tabIn (off := 956) (tgt := 989) X dL_law_33 (by decide +kernel) (by decide +kernel) (by decide +kernel) rfl (lc_25 X hX hbl hG hG3 hL ht hcl hsl hI K)
    | 26, _ => exact r_tabIn (off := 979) (tgt := 1012) X dL_law_33 (by decide +kernel) (by decide +kernel) (by decide +kernel) rfl (lc_26 X hX hbl hG hG3 hL ht hcl hsl hI K)
    | 27, _ => exact r_tabIn (off := 1012) (tgt := 1045) X dL_law_33 (by decide +kernel) (by decide +kernel) (by decide +kernel) rfl (lc_27 X hX hbl hG hG3 hL ht hcl hsl hI K)
    | 28, _ => exact r_tabIn (off := 1045) (tgt := 1078) X dL_law_33 (by decide +kernel) (by decide +kernel) (by decide +kernel) rfl (lc_28 X hX hbl hG hG3 hL ht hcl hsl hI K)
    | 29, _ => exact r_tabIn (off := 1058) (tgt := 1091) X dL_law_33 (by decide +kernel) (by decide +kernel) (by decide +kernel) rfl (lc_29 X hX hbl hG hG3 hL ht hcl hsl hI K)
    | 30, _ => exact r_tabIn (off := 1081) (tgt := 1114) X dL_law_33 (by decide +kernel) (by decide +kernel) (by decide +kernel) rfl (lc_30 X hX hbl hG hG3 hL ht hcl hsl hI K)
    | 31, _ => exact r_tabIn (off := 1114) (tgt := 1147) X dL_law_33 (by decide +kernel) (by decide +kernel) (by decide +kernel) rfl (lc_31 X hX hbl hG hG3 hL ht hcl hsl hI K)
    | 32, _ => exact r_tabIn (off := 1147) (tgt := 1180) X dL_law_33 (by decide +kernel) (by decide +kernel) (by decide +kernel) rfl (lc_32 X hX hbl hG hG3 hL ht hcl hsl hI K)
    | 33, _ => exact r_tabIn (off := 1170) (tgt := 1203) X dL_law_33 (by decide +kernel) (by decide +kernel) (by decide +kernel) rfl (lc_33 X hX hbl hG hG3 hL ht hcl hsl hI K)
    | 34, _ => exact r_tabIn (off := 1203) (tgt := 1236) X dL_law_33 (by decide +kernel) (by decide +kernel) (by decide +kernel) rfl (lc_34 X hX hbl hG hG3 hL ht hcl hsl hI K)
    | 35, _ => exact r_tabIn (off := 1216) (tgt := 1249) X dL_law_33 (by decide +kernel) (by decide +kernel) (by decide +kernel) rfl (lc_35 X hX hbl hG hG3 hL ht hcl hsl hI K)
    | 36, _ => exact r_tabIn (off := 1249) (tgt := 1282) X dL_law_33 (by decide +kernel) (by decide +kernel) (by decide +kernel) rfl (lc_36 X hX hbl hG hG3 hL ht hcl hsl hI K)
    | 37, _ => exact r_tabIn (off := 1262) (tgt := 1295) X dL_law_33 (by decide +kernel) (by decide +kernel) (by decide +kernel) rfl (lc_37 X hX hbl hG hG3 hL ht hcl hsl hI K)
    | 38, _ => exact r_tabIn (off := 1301) (tgt := 1334) X dL_law_33 (by decide +kernel) (by decide +kernel) (by decide +kernel) rfl (lc_38 X hX hbl hG hG3 hL ht hcl hsl hI K)
    | j + 39, hj => omega
theorem sc_go {L t : Nat} (hL : L ≤ 3072) (ht : 6 * t ≤ L) (q : ¬ (Int32.ofNat L - 6 : Int32) < nI (6 * t)) : 6 * t + 6 ≤ L := by
  by_cases c : 6 ≤ L
  · have e : (Int32.ofNat L - 6 : Int32) = nI (L - 6) := nsub (a := L - 6) (c := 6) (by rw [Nat.sub_add_cancel c]; rfl) rfl
    rw [e, Int32.lt_iff_toInt_lt, nI_toInt (by omega), nI_toInt (by omega)] at q
    omega
  · exfalso
    have hs : ∀ L, L < 6 → ((Int32.ofNat L - 6 : Int32).toInt < 0) := by decide
    apply q
    rw [Int32.lt_iff_toInt_lt, nI_toInt (by omega)]
    have := hs L (by omega)
    omega
/-- the loop -/
theorem lw_loop (X : pX p s m #[Value.ref b] c G 4 cL_law RL) (hr : meth.sig.returnType = ret) (hlk : meth.locks = false) (hX : va_X b L xs s s.heap) (hbl : b < s.heap.size) (hG : G.2.2.1 = s.heap.size) (hG3 : G.2.2.2 3 = b) (hL : L ≤ 3072) {CB SB : Nat} (hCB : CB ≤ 600000) (hSB : SB ≤ 7302249) : ∀ (n t cells slots : Nat) (h : PH), 6 * t ≤ L → L ≤ 6 * t + n → cells + 3 * n ≤ CB → slots + 488 * n ≤ SB → LIY PCW nc nm h → PW p l e room_1 s m #[Value.ref b] below meth c G 4 (lw_Z below #[Value.ref b] s) cells slots h 18 (lls nc nm t) [] := by
  intro n
  induction n with
  | zero =>
    intro t cells slots h ht hn hcl hsl hI
    refine r_iload_n X dL_law_18 rfl ?_
    refine r_aload_nS X dL_law_19 rfl ?_
    refine r_scl X hX hbl hG hG3 dL_law_20 rfl ?_
    refine r_bipush (v := 6) X dL_law_21 (by decide +kernel) ?_
    refine r_isubE X dL_law_23 rfl ?_
    refine r_icmp_gt (tgt := 1363) X dL_law_24 rfl (fun q => ?_) (fun q => ?_)
    · refine r_iconst (v := 1) X dL_law_1363 (by decide +kernel) ?_
      exact r_lret X hr hlk hG dL_law_1364 (Nat.ble_eq.mpr (Nat.le_trans (show cells ≤ CB by omega) hCB)) (Nat.ble_eq.mpr (Nat.le_trans (show slots ≤ SB by omega) hSB))
    · exact absurd (sc_go hL ht q) (by omega)
  | succ n ih =>
    intro t cells slots h ht hn hcl hsl hI
    refine r_iload_n X dL_law_18 rfl ?_
    refine r_aload_nS X dL_law_19 rfl ?_
    refine r_scl X hX hbl hG hG3 dL_law_20 rfl ?_
    refine r_bipush (v := 6) X dL_law_21 (by decide +kernel) ?_
    refine r_isubE X dL_law_23 rfl ?_
    refine r_icmp_gt (tgt := 1363) X dL_law_24 rfl (fun q => ?_) (fun q => ?_)
    · refine r_iconst (v := 1) X dL_law_1363 (by decide +kernel) ?_
      exact r_lret X hr hlk hG dL_law_1364 (Nat.ble_eq.mpr (Nat.le_trans (show cells ≤ CB by omega) hCB)) (Nat.ble_eq.mpr (Nat.le_trans (show slots ≤ SB by omega) hSB))
    · have ht6 := sc_go hL ht q
      clear q
      have a1 : cells + 3 ≤ 600000 := Nat.le_trans (Nat.le_trans (Nat.add_le_add_left (Nat.le_mul_of_pos_right 3 (Nat.succ_pos n)) cells) hcl) hCB
      have a2 : slots + 488 ≤ 7302249 := Nat.le_trans (Nat.le_trans (Nat.add_le_add_left (Nat.le_mul_of_pos_right 488 (Nat.succ_pos n)) slots) hsl) hSB
      refine r_aload_nS X dL_law_27 rfl ?_
      refine r_iload_n X dL_law_28 rfl ?_
      refine r_scr X hX hbl hG hG3 dL_law_29 (vp_in_nI (by omega) (by omega)) (sc_v (by omega)) ?_
      refine r_bipush (v := 63) X dL_law_30 (by decide +kernel) ?_
      refine r_iand X dL_law_32 ?_
      refine lw_sel _ X hX hbl hG hG3 hL ht6 a1 a2 hI ?_
      intro c' s' h' hc' hs' hI'
      refine r_iinc (v := nI (6 * (t + 1))) X dL_law_1357 rfl (nI_add (6 * t) 6) (by decide) ?_
      refine r_goto (tgt := 18) X dL_law_1360 rfl ?_
      exact ih (t + 1) c' s' h' (by omega) (by omega) (by omega) (by omega) hI'
end LawCase
theorem lw_cb {L : Nat} (h : L ≤ 3072) : 0 + 1 + 102 + 1 + 42 + 3 * L ≤ 600000 := Nat.le_trans (Nat.add_le_add_left (Nat.mul_le_mul_left 3 h) _) (by decide)
theorem lw_sb {L : Nat} (h : L ≤ 3072) : 0 + 11 + 7791 + 76 + 32760 + 488 * L ≤ 7302249 := Nat.le_trans (Nat.add_le_add_left (Nat.mul_le_mul_left 488 h) _) (by decide)
