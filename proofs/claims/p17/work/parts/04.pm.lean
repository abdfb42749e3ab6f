/-! THE PURE MACHINE. A heap of ours is a list of cells h; the cell k lies at the address sz0 + k, sz0 the heap's size at the law's entry. Values: ints, null, our cells, the class's static arrays. PW is W over such a heap: a row an instruction. -/
abbrev PV : Type := Int32 ⊕ (Option Nat ⊕ Nat)
abbrev vI (n : Int32) : PV := .inl n
abbrev vN : PV := .inr (.inl none)
abbrev vR (k : Nat) : PV := .inr (.inl (some k))
abbrev vS (j : Nat) : PV := .inr (.inr j)
abbrev PE : Type := ((Nat × Nat × (Nat → Int32)) ⊕ (Nat × Nat × (Nat → Option Nat))) ⊕ (Nat × List PV)
abbrev eI (n : Nat) (f : Nat → Int32) : PE := .inl (.inl (0, n, f))
abbrev eR (t n : Nat) (f : Nat → Option Nat) : PE := .inl (.inr (t, n, f))
abbrev eO (c : Nat) (fs : List PV) : PE := .inr (c, fs)
abbrev PH : Type := List PE
/-- class numbers and slots; array classes; sz0; the static arrays' addresses -/
abbrev PG : Type := va_G × (Nat → ClassId) × Nat × (Nat → Nat)
def pr (G : PG) (v : PV) : Value := match v with
  | .inl n => .int n
  | .inr (.inl none) => .null
  | .inr (.inl (some k)) => .ref (G.2.2.1 + k)
  | .inr (.inr j) => .ref (G.2.2.2 j)
def pe (G : PG) (x : PE) : va_E := match x with
  | .inl (.inl a) => .inl (G.2.1 a.1, a.2.1, .inl a.2.2)
  | .inl (.inr a) => .inl (G.2.1 a.1, a.2.1, .inr (.inr (.inr (.inr (fun j => (a.2.2 j).map (fun k => G.2.2.1 + k))))))
  | .inr q => .inr (q.1, q.2.map (pr G))
def pw (G : PG) (h : PH) : va_W := h.mapIdx (fun k x => (G.2.2.1 + k, pe G x))
def pT (G : PG) : List (ClassId × FieldType) := [(G.2.1 0, .int), (G.2.1 1, .object RX0), (G.2.1 2, .object RX8), (G.2.1 3, .object RX9)]
abbrev pF (G : PG) : Nat → Prop := fun q => G.2.2.1 ≤ q
theorem pw_get {G : PG} {h : PH} {k : Nat} {x : PE} (hk : h[k]? = some x) : (pw G h)[k]? = some (G.2.2.1 + k, pe G x) := by
  simp [pw, hk]
theorem pw_inv {G : PG} {h : PH} {k : Nat} {q : Nat × va_E} (hk : (pw G h)[k]? = some q) : ∃ x, h[k]? = some x ∧ q = (G.2.2.1 + k, pe G x) := by
  simp only [pw, List.getElem?_mapIdx, Option.map_eq_some_iff] at hk
  obtain ⟨x, h1, h2⟩ := hk
  exact ⟨x, h1, h2.symm⟩
theorem pw_D {G : PG} {h : PH} : va_D (pF G) (pw G h) := by
  refine ⟨fun i j p q hp hq hpq => ?_, fun k q hk => ?_⟩
  · obtain ⟨x, -, rfl⟩ := pw_inv hp
    obtain ⟨y, -, rfl⟩ := pw_inv hq
    exact Nat.add_left_cancel hpq
  · obtain ⟨x, -, rfl⟩ := pw_inv hk
    exact Nat.le_add_right _ _
theorem pw_set {G : PG} {h : PH} {k : Nat} {x : PE} : (pw G h).set k (G.2.2.1 + k, pe G x) = pw G (h.set k x) := by
  apply List.ext_getElem?
  intro i
  by_cases hi : k = i
  · subst hi
    by_cases hl : k < h.length <;> simp [pw, hl, List.getElem?_set]
  · simp [pw, hi, List.getElem?_set]
theorem pw_push {G : PG} {h : PH} {x : PE} : pw G (h ++ [x]) = pw G h ++ [(G.2.2.1 + h.length, pe G x)] := by
  simp [pw, List.mapIdx_append]
theorem pr_cat (G : PG) (v : PV) : (pr G v).category = 1 := by
  rcases v with n | (k | j)
  · rfl
  · cases k <;> rfl
  · rfl
theorem pr_sum (G : PG) (st : List PV) : ((st.map (pr G)).map fun v => v.category).sum = st.length := by
  induction st with
  | nil => rfl
  | cons v t ih => simp only [List.map_cons, List.sum_cons, List.length_cons, ih, pr_cat]; omega
/-- locals: which are known -/
def pl (G : PG) (ls : List (Option PV)) : List (Nat × Value) := (ls.zipIdx).filterMap (fun q => q.1.map (fun v => (q.2, pr G v)))
theorem pl_mem {G : PG} {ls : List (Option PV)} {q : Nat × Value} : q ∈ pl G ls ↔ ∃ v, ls[q.1]? = some (some v) ∧ q.2 = pr G v := by
  obtain ⟨i, x⟩ := q
  simp only [pl, List.mem_filterMap, Option.map_eq_some_iff, Prod.mk.injEq, Prod.exists, List.mem_zipIdx_iff_getElem?]
  constructor
  · rintro ⟨a, j, h1, v, rfl, rfl, rfl⟩
    exact ⟨v, by simpa using h1, rfl⟩
  · rintro ⟨v, h1, h2⟩
    exact ⟨some v, i, by simpa using h1, v, rfl, rfl, h2.symm⟩
theorem pl_at {G : PG} {ls : List (Option PV)} {lsA : Array Slot} {nL i : Nat} {v : PV} (h : lv_has lsA nL (pl G ls)) (hk : ls[i]? = some (some v)) : lsA[i]? = some (.val (pr G v)) :=
  h.2.2 (i, pr G v) (pl_mem.mpr ⟨v, hk, rfl⟩)
theorem pl_set {G : PG} {ls : List (Option PV)} {lsA : Array Slot} {nL i : Nat} {v : PV} (h : lv_has lsA nL ((i, pr G v) :: (pl G ls).filter (fun q => !(q.1 == i) && !(q.1 + 1 == i && q.2.category == 2)))) : lv_has lsA nL (pl G (ls.set i (some v))) := by
  refine ⟨h.1, h.2.1, fun q hq => h.2.2 q ?_⟩
  obtain ⟨w, h1, h2⟩ := pl_mem.mp hq
  by_cases hi : i = q.1
  · subst hi
    rw [List.getElem?_set] at h1
    simp only [if_true] at h1
    split at h1
    · cases h1
      rw [← h2]
      exact List.mem_cons_self
    · cases h1
  · rw [List.getElem?_set_ne hi] at h1
    refine List.mem_cons_of_mem _ (List.mem_filter.mpr ⟨pl_mem.mpr ⟨w, h1, h2⟩, ?_⟩)
    have : ¬ q.1 = i := fun e => hi e.symm
    simp [this, h2, pr_cat]
theorem pl_args {G : PG} (av : List PV) (n : Nat) : ∀ (o : Nat) (q : Nat × Value), q ∈ pl G (List.replicate o none ++ (av.map some ++ List.replicate n none)) → q ∈ lv_args o (av.map (pr G)) := by
  induction av with
  | nil =>
    intro o q hq
    obtain ⟨v, h1, -⟩ := pl_mem.mp hq
    have h2 := List.mem_of_getElem? h1
    simp at h2
  | cons a t ih =>
    intro o q hq
    obtain ⟨v, h1, h2⟩ := pl_mem.mp hq
    simp only [List.map_cons, lv_args, pr_cat, List.mem_cons]
    by_cases hi : q.1 = o
    · left
      rw [hi, List.getElem?_append_right (by simp)] at h1
      simp at h1
      subst h1
      rw [← hi, ← h2]
    · right
      have := ih (o + 1) q (pl_mem.mpr ⟨v, ?_, h2⟩)
      · simpa using this
      · by_cases hlt : q.1 < o
        · rw [List.getElem?_append_left (by simpa using hlt)] at h1
          simp [hlt] at h1
        · rw [List.getElem?_append_right (by simp; omega)] at h1 ⊢
          simp only [List.length_replicate, List.map_cons, List.cons_append] at h1 ⊢
          obtain ⟨d, hd⟩ : ∃ d, q.1 - o = d + 1 := ⟨q.1 - o - 1, by omega⟩
          rw [hd, List.getElem?_cons_succ] at h1
          rw [show q.1 - (o + 1) = d by omega]
          exact h1
theorem pl_entry {G : PG} (av : List PV) {nL : Nat} (h : av.length ≤ nL) (m : MethodId) : ∃ lsA : Array Slot, entryFrame m ((av.map (pr G)).toArray) nL = F0 m 0 lsA [] ∧ lv_has lsA nL (pl G (av.map some ++ List.replicate (nL - av.length) none)) := by
  have hs : ∀ vs : List PV, (lg_sl (vs.map (pr G))).length = vs.length := by
    intro vs
    induction vs with
    | nil => rfl
    | cons v t ih =>
      have : lg_sl ((v :: t).map (pr G)) = .val (pr G v) :: lg_sl (t.map (pr G)) := by simp [lg_sl, pr_cat]
      rw [this]
      simp [ih]
  have h1 := lv_entry (av.map (pr G)) (n := nL) (by rw [hs]; exact h)
  refine ⟨_, lg_entry_eq m (av.map (pr G)) nL, h1.1, h1.2.1, fun q hq => h1.2.2 q ?_⟩
  exact pl_args av (nL - av.length) 0 q (by simpa using hq)
/-! the words that a contract carries -/
def lw_ok : List Cond := lw_tbl.filter goodWord
theorem ok_t {w : Cond} (i : Nat) (h : tables_1[i]? = some w) (hg : goodWord w = true) : w ∈ lw_ok := List.mem_filter.mpr ⟨List.mem_append_right _ (List.mem_of_getElem? h), hg⟩
theorem ok_p {w : Cond} (i : Nat) (h : (k2_sels lw_privs)[i]? = some w) (hg : goodWord w = true) : w ∈ lw_ok := List.mem_filter.mpr ⟨List.mem_append_left _ (List.mem_of_getElem? h), hg⟩
theorem ok_good {w : Cond} (h : w ∈ lw_ok) : goodWord w = true := (List.mem_filter.mp h).2
theorem ok_tbl {w : Cond} (h : w ∈ lw_ok) : w ∈ lw_tbl := (List.mem_filter.mp h).1
theorem ok_goodIn {y : MethodName} {bytes : ByteArray} {n : Nat} {ret : Option FieldType} (hc : Cond.code y bytes n ret ∈ lw_ok) : GoodIn lw_ok (.code y bytes n ret :: lw_ok) := by
  intro w hw
  have : w ∈ lw_ok := by
    rcases List.mem_cons.mp hw with rfl | h
    · exact hc
    · exact h
  exact ⟨this, good_of_word (ok_good this)⟩

def pNw : List Cond := [(Jvm.Cond.methodLinkNest "ThumbBallot$World" (11 : Nat) ({ cls := "ThumbBallot$Canton", name := "<init>", desc := "()V" } : Jvm.MethodName) "ThumbBallot"), (Jvm.Cond.methodLinkNest "ThumbBallot$World" (20 : Nat) ({ cls := "ThumbBallot$Pages", name := "<init>", desc := "()V" } : Jvm.MethodName) "ThumbBallot"), (Jvm.Cond.methodLinkNest "ThumbBallot$Steps" (24 : Nat) ({ cls := "ThumbBallot$Canton", name := "<init>", desc := "()V" } : Jvm.MethodName) "ThumbBallot"), (Jvm.Cond.methodLinkNest "ThumbBallot" (32 : Nat) ({ cls := "ThumbBallot$Reader", name := "<init>", desc := "()V" } : Jvm.MethodName) "ThumbBallot"), (Jvm.Cond.methodLinkNest "ThumbBallot" (39 : Nat) ({ cls := "ThumbBallot$Canton", name := "<init>", desc := "()V" } : Jvm.MethodName) "ThumbBallot"), (Jvm.Cond.methodLinkNest "ThumbBallot" (46 : Nat) ({ cls := "ThumbBallot$Shapes", name := "<init>", desc := "()V" } : Jvm.MethodName) "ThumbBallot"), (Jvm.Cond.methodLinkNest "ThumbBallot" (53 : Nat) ({ cls := "ThumbBallot$Puzzles", name := "<init>", desc := "()V" } : Jvm.MethodName) "ThumbBallot"), (Jvm.Cond.methodLinkNest "ThumbBallot" (60 : Nat) ({ cls := "ThumbBallot$Game", name := "<init>", desc := "()V" } : Jvm.MethodName) "ThumbBallot"), (Jvm.Cond.methodLinkNest "ThumbBallot$Shapes" (50 : Nat) ({ cls := "ThumbBallot", name := "cellAt", desc := "(II)I" } : Jvm.MethodName) "ThumbBallot"), (Jvm.Cond.fieldLinkNest "ThumbBallot$World" (40 : Nat) "ThumbBallot" "ROOM" "[I" "ThumbBallot"), (Jvm.Cond.castable "[I" "java/lang/Cloneable")]
theorem pNw_all {P : Cond → Prop} (hM : ∀ a i x h, P (.methodLinkNest a i x h)) (hF : ∀ a i b n d h, P (.fieldLinkNest a i b n d h)) (hC : ∀ a b, P (.castable a b)) : ∀ w ∈ pNw, P w := by
  intro w hw
  simp only [pNw, List.mem_cons, List.not_mem_nil, or_false] at hw
  rcases hw with rfl | rfl | rfl | rfl | rfl | rfl | rfl | rfl | rfl | rfl | rfl
  · exact hM _ _ _ _
  · exact hM _ _ _ _
  · exact hM _ _ _ _
  · exact hM _ _ _ _
  · exact hM _ _ _ _
  · exact hM _ _ _ _
  · exact hM _ _ _ _
  · exact hM _ _ _ _
  · exact hM _ _ _ _
  · exact hF _ _ _ _ _ _
  · exact hC _ _
def sRoom : Nat → Int32 := fun j => ([6, 16, 15, 15, 8, 8, 12, 12, 12] : List Int32).getD j 0
def sPow : Nat → Int32 := fun j => ([6561, 2187, 729, 243, 81, 27, 9, 3, 1] : List Int32).getD j 0
def sThr : Nat → Int32 := fun j => ([0, 1, 2, 3, 4, 5, 6, 7, 8, 0, 3, 6, 1, 4, 7, 2, 5, 8, 0, 4, 8, 2, 4, 6] : List Int32).getD j 0
def sWords : String := "comes melts weighs mind press height depth heat hour row beside came day when or and not voter at to on putty for against none twin"
def sByt : List Int32 := [99, 111, 109, 101, 115, 32, 109, 101, 108, 116, 115, 32, 119, 101, 105, 103, 104, 115, 32, 109, 105, 110, 100, 32, 112, 114, 101, 115, 115, 32, 104, 101, 105, 103, 104, 116, 32, 100, 101, 112, 116, 104, 32, 104, 101, 97, 116, 32, 104, 111, 117, 114, 32, 114, 111, 119, 32, 98, 101, 115, 105, 100, 101, 32, 99, 97, 109, 101, 32, 100, 97, 121, 32, 119, 104, 101, 110, 32, 111, 114, 32, 97, 110, 100, 32, 110, 111, 116, 32, 118, 111, 116, 101, 114, 32, 97, 116, 32, 116, 111, 32, 111, 110, 32, 112, 117, 116, 116, 121, 32, 102, 111, 114, 32, 97, 103, 97, 105, 110, 115, 116, 32, 110, 111, 110, 101, 32, 116, 119, 105, 110]
/-- the formatter of the JDK's index checks: null or an old address -/
def pFm (G : PG) : PV := if G.2.2.2 7 = 0 then vN else vS 6
/-- the reader's words: a String constant, its bytes -/
def pStr (G : PG) (U : State) : Prop := vk_R "ThumbBallot$Reader" 93 sWords (G.2.2.2 4) U ∧ vk_S 1 [131] [sByt] (fun _ => G.2.2.2 4) (fun _ => G.2.2.2 5) (pF G) U U.heap ∧ va_Z "java/lang/String" "COMPACT_STRINGS" "Z" (.int 1) (pF G) U U.heap ∧ va_Z "jdk/internal/util/Preconditions" "SIOOBE_FORMATTER" "Ljava/util/function/BiFunction;" (pr G (pFm G)) (pF G) U U.heap
/-- what the tables and the old heap say, for every state of ours -/
def pK (G : PG) (U : State) : Prop := va_K G.1 vwCl (pT G) U ∧ (∀ w ∈ pNw, va_Nw w U) ∧ (va_AO RX0 U ∧ va_AO RX8 U ∧ va_AO RX9 U) ∧
  (va_Z RX11 "ROOM" "[I" (.ref (G.2.2.2 0)) (pF G) U U.heap ∧ va_T .int (G.2.2.2 0) 9 (fun j => .int (sRoom j)) (pF G) U U.heap) ∧
  (va_Z RX2 "POWERS" "[I" (.ref (G.2.2.2 1)) (pF G) U U.heap ∧ va_T .int (G.2.2.2 1) 9 (fun j => .int (sPow j)) (pF G) U U.heap) ∧
  (va_Z RX2 "THREES" "[I" (.ref (G.2.2.2 2)) (pF G) U U.heap ∧ va_T .int (G.2.2.2 2) 24 (fun j => .int (sThr j)) (pF G) U U.heap) ∧ G.2.2.1 ≤ U.heap.size ∧ pStr G U
theorem pK_to {G : PG} {s U : State} {H : Heap} {locs : List Loc} (h : pK G s) (hW : s.WarmedH U.vm) (hS : va_S (pF G) s.heap H locs) (hU : U.heap = H) : pK G U := by
  obtain ⟨h1, h2, ⟨h31, h32, h33⟩, ⟨h4, h5⟩, ⟨h6, h7⟩, ⟨h8, h9⟩, h10, h11, h12, h13, h14⟩ := h
  have hv := hW.alike
  have hk : ∀ a : Nat, a < s.heap.size → ¬ pF G a → U.heap[a]? = s.heap[a]? := fun a h1 h2 => by rw [hU]; exact hS.2.1 a h1 h2
  refine ⟨h1.moved hv, ?_, ⟨h31.moved hv, h32.moved hv, h33.moved hv⟩, ⟨(h4.moved hv).kept hk, (h5.moved hv).kept hk⟩, ⟨(h6.moved hv).kept hk, (h7.moved hv).kept hk⟩, ⟨(h8.moved hv).kept hk, (h9.moved hv).kept hk⟩, by rw [hU]; exact Nat.le_trans h10 hS.1, h11.warm hW, (h12.moved hv).kept hk, (h13.moved hv).kept hk, (h14.moved hv).kept hk⟩
  exact pNw_all (P := fun w => va_Nw w s → va_Nw w U) (fun _ _ _ _ hz => va_Nw.warmM hW hz) (fun _ _ _ _ _ _ hz => va_Nw.warmF hW hz) (fun _ _ hz => va_Nw.warmC hW hz) |> fun k w hw => k w hw (h2 w hw)
theorem pK_same {G : PG} {s U : State} (h : pK G s) (hvm : s.vm = U.vm) (hh : U.heap = s.heap) : pK G U := by
  obtain ⟨h1, h2, ⟨h31, h32, h33⟩, ⟨h4, h5⟩, ⟨h6, h7⟩, ⟨h8, h9⟩, h10, h11, h12, h13, h14⟩ := h
  have hv : s.vm.Alike U.vm := hvm ▸ Vm.Alike.refl s.vm
  have hk : ∀ a : Nat, a < s.heap.size → ¬ pF G a → U.heap[a]? = s.heap[a]? := fun a _ _ => by rw [hh]
  refine ⟨h1.moved hv, ?_, ⟨h31.moved hv, h32.moved hv, h33.moved hv⟩, ⟨(h4.moved hv).kept hk, (h5.moved hv).kept hk⟩, ⟨(h6.moved hv).kept hk, (h7.moved hv).kept hk⟩, ⟨(h8.moved hv).kept hk, (h9.moved hv).kept hk⟩, by rw [hh]; exact h10, h11.same hvm.symm, (h12.moved hv).kept hk, (h13.moved hv).kept hk, (h14.moved hv).kept hk⟩
  exact pNw_all (P := fun w => va_Nw w s → va_Nw w U) (fun _ _ _ _ hz => va_Nw.same rfl hvm hz) (fun _ _ _ _ _ _ hz => va_Nw.same rfl hvm hz) (fun _ _ hz => va_Nw.same rfl hvm hz) |> fun k w hw => k w hw (h2 w hw)
/-! the judgement -/
def pI (G : PG) (s : State) (h : PH) (H : Heap) (locs : List Loc) : Prop := H.size = G.2.2.1 + h.length ∧ va_P G.1 vwCl (pw G h) H ∧ va_S (pF G) s.heap H locs
def PW (p : Program) (l : Launch) (e : Env) (R : Room) (s : State) (m : MethodId) (args : Array Value) (below : List Frame) (meth : Method) (c : Code) (G : PG) (nL : Nat) (Q : State → Prop) (cells slots : Nat) (h : PH) (pc : Nat) (ls : List (Option PV)) (st : List PV) : Prop :=
  ∀ (H : Heap) (locs : List Loc) (lsA : Array Slot), pI G s h H locs → lv_has lsA nL (pl G ls) → W p l e R s m args below meth c H locs cells slots Q (F0 m pc lsA (st.map (pr G)))
/-- what a method's walk stands on -/
def pX (p : Program) (s : State) (m : MethodId) (args : Array Value) (c : Code) (G : PG) (nL : Nat) (cc : ByteArray) (own : String) : Prop :=
  p.tables.exec = Jvm.exec ∧ c.code = cc ∧ c.maxLocals = nL ∧ s.vm.findClass own = some m.cls ∧ (∀ w ∈ lw_ok, w.before args s = true) ∧ pK G s
/-- a contract: on the heap h, with the arguments av, y returns, and answer and heap are as Φ says -/
def pQ (G : PG) (Φ : Option PV → PH → Prop) : Array Value → State → Outcome → State → Prop := fun _ st oc t => (∃ (r : Option PV) (h' : PH), oc = .returned (r.map (pr G)) ∧ Φ r h' ∧ t.heap.size = G.2.2.1 + h'.length ∧ va_P G.1 vwCl (pw G h') t.heap) ∧ va_F (pF G) st t
def pP (G : PG) (av : List PV) (h : PH) : Array Value → State → Prop := fun v U => v = (av.map (pr G)).toArray ∧ pK G U ∧ U.heap.size = G.2.2.1 + h.length ∧ va_P G.1 vwCl (pw G h) U.heap
abbrev rmD (d mc ms : Nat) : Room := { frames := d, cells := mc, slots := ms, locals := 64 * d }
def PMet (l : Launch) (G : PG) (y : MethodName) (bytes : ByteArray) (maxL : Nat) (ret : Option FieldType) (d mc ms : Nat) (av : List PV) (h : PH) (Φ : Option PV → PH → Prop) : Prop :=
  Met l y (.code y bytes maxL ret :: lw_ok) (rmD d mc ms) (pP G av h) (pQ G Φ) mc ms (pF G)
theorem PMet.intro {l : Launch} {G : PG} {y : MethodName} {bytes : ByteArray} {maxL : Nat} {ret : Option FieldType} {d mc ms : Nat} {av : List PV} {h : PH} {Φ : Option PV → PH → Prop} (hy : plainName y.cls = true) (hn : av.length ≤ maxL)
    (body : ∀ (p : Program) (e : Env) (s : State) (m : MethodId) (args : Array Value) (below : List Frame) (meth : Method) (c : Code), pX p s m args c G maxL bytes y.cls → meth.sig.returnType = ret → meth.locks = false → meth.name = y.name →
      PW p l e (rmD d mc ms) s m args below meth c G maxL (MQ below (pQ G Φ) args s mc ms (pF G)) 0 0 h 0 (av.map some ++ List.replicate (maxL - av.length) none) []) : PMet l G y bytes maxL ret d mc ms av h Φ := by
  refine Met.ofW (cc := bytes) (maxL := maxL) (ret := ret) hy rfl ?_
  intro p e s m args below meth c s₁ B hml hv
  obtain ⟨rfl, hK, hsz, hP⟩ := hv
  have hts := atoms_spec (ws := .code y bytes maxL ret :: lw_ok) B.pre
  obtain ⟨lsA, e1, e2⟩ := pl_entry (G := G) av hn m
  rw [e1]
  exact body p e s m _ below meth c ⟨B.exec, B.bytes, hml, findClass_of_methodNamed B.named, fun w hw => hts w (List.mem_cons_of_mem _ hw), hK⟩ B.returns B.notSynchronized (name_of_methodNamed B.named B.method).1 s.heap [] lsA ⟨hsz, hP, va_S.rf⟩ e2
section Rows
variable {p : Program} {l : Launch} {e : Env} {R : Room} {s : State} {m : MethodId} {args : Array Value} {below : List Frame} {meth : Method} {c : Code} {G : PG} {nL : Nat} {Q : State → Prop} {cells slots : Nat} {h : PH} {pc : Nat} {ls : List (Option PV)} {st : List PV} {cc : ByteArray} {own : String}

theorem r_iconst (X : pX p s m args c G nL cc own) {n : Int} {v : Int32} (hd : decode cc pc = .ok (.iconst n, 1)) (hv : Int32.ofInt n = v)
    (k : PW p l e R s m args below meth c G nL Q cells slots h (pc + 1) ls (vI v :: st)) : PW p l e R s m args below meth c G nL Q cells slots h pc ls st := by
  intro H locs lsA hI hl
  exact lv_iconst X.1 X.2.1 hd hv (k H locs lsA hI hl)
theorem r_bipush (X : pX p s m args c G nL cc own) {n : Int} {v : Int32} (hd : decode cc pc = .ok (.bipush n, 2)) (hv : (Int8.ofInt n).toInt32 = v)
    (k : PW p l e R s m args below meth c G nL Q cells slots h (pc + 2) ls (vI v :: st)) : PW p l e R s m args below meth c G nL Q cells slots h pc ls st := by
  intro H locs lsA hI hl
  exact lv_bipush X.1 X.2.1 hd hv (k H locs lsA hI hl)
theorem r_sipush (X : pX p s m args c G nL cc own) {n : Int} {v : Int32} (hd : decode cc pc = .ok (.sipush n, 3)) (hv : (Int16.ofInt n).toInt32 = v)
    (k : PW p l e R s m args below meth c G nL Q cells slots h (pc + 3) ls (vI v :: st)) : PW p l e R s m args below meth c G nL Q cells slots h pc ls st := by
  intro H locs lsA hI hl
  exact lv_sipush X.1 X.2.1 hd hv (k H locs lsA hI hl)
theorem r_null (X : pX p s m args c G nL cc own) (hd : decode cc pc = .ok (.aconst_null, 1))
    (k : PW p l e R s m args below meth c G nL Q cells slots h (pc + 1) ls (vN :: st)) : PW p l e R s m args below meth c G nL Q cells slots h pc ls st := by
  intro H locs lsA hI hl
  exact lv_null X.1 X.2.1 hd (k H locs lsA hI hl)
theorem r_ldc (X : pX p s m args c G nL cc own) {i : Nat} {v : Int32} (hw : Cond.constant own i v ∈ lw_ok) (hd : decode cc pc = .ok (.ldc i, 2))
    (k : PW p l e R s m args below meth c G nL Q cells slots h (pc + 2) ls (vI v :: st)) : PW p l e R s m args below meth c G nL Q cells slots h pc ls st := by
  intro H locs lsA hI hl
  exact lv_ldc X.1 X.2.1 X.2.2.2.1 (X.2.2.2.2.1 _ hw) hd (k H locs lsA hI hl)
theorem r_iload_n (X : pX p s m args c G nL cc own) {i : Fin 4} {x : Int32} (hd : decode cc pc = .ok (.iload_n i, 1)) (hk : ls[(i : Nat)]? = some (some (vI x)))
    (k : PW p l e R s m args below meth c G nL Q cells slots h (pc + 1) ls (vI x :: st)) : PW p l e R s m args below meth c G nL Q cells slots h pc ls st := by
  intro H locs lsA hI hl
  exact lv_iload_n X.1 X.2.1 hd rfl (pl_at hl hk) (k H locs lsA hI hl)
theorem r_iload (X : pX p s m args c G nL cc own) {i : Nat} {x : Int32} (hd : decode cc pc = .ok (.iload i, 2)) (hk : ls[i]? = some (some (vI x)))
    (k : PW p l e R s m args below meth c G nL Q cells slots h (pc + 2) ls (vI x :: st)) : PW p l e R s m args below meth c G nL Q cells slots h pc ls st := by
  intro H locs lsA hI hl
  exact lv_iload X.1 X.2.1 hd (pl_at hl hk) (k H locs lsA hI hl)
theorem r_aload_n (X : pX p s m args c G nL cc own) {i : Fin 4} {x : Nat} (hd : decode cc pc = .ok (.aload_n i, 1)) (hk : ls[(i : Nat)]? = some (some (vR x)))
    (k : PW p l e R s m args below meth c G nL Q cells slots h (pc + 1) ls (vR x :: st)) : PW p l e R s m args below meth c G nL Q cells slots h pc ls st := by
  intro H locs lsA hI hl
  exact lv_aload_n X.1 X.2.1 hd rfl (pl_at hl hk) (k H locs lsA hI hl)
theorem r_aload (X : pX p s m args c G nL cc own) {i : Nat} {x : Nat} (hd : decode cc pc = .ok (.aload i, 2)) (hk : ls[i]? = some (some (vR x)))
    (k : PW p l e R s m args below meth c G nL Q cells slots h (pc + 2) ls (vR x :: st)) : PW p l e R s m args below meth c G nL Q cells slots h pc ls st := by
  intro H locs lsA hI hl
  exact lv_aload X.1 X.2.1 hd (pl_at hl hk) (k H locs lsA hI hl)
theorem r_istore_n (X : pX p s m args c G nL cc own) {i : Fin 4} {x : Int32} (hd : decode cc pc = .ok (.istore_n i, 1)) (hn : (i : Nat) < nL)
    (k : PW p l e R s m args below meth c G nL Q cells slots h (pc + 1) (ls.set (i : Nat) (some (vI x))) st) : PW p l e R s m args below meth c G nL Q cells slots h pc ls (vI x :: st) := by
  intro H locs lsA hI hl
  exact lv_istore_n X.1 X.2.1 hd rfl hl hn rfl (fun ls' h2 => k H locs ls' hI (pl_set (v := vI x) h2))
theorem r_istore (X : pX p s m args c G nL cc own) {i : Nat} {x : Int32} (hd : decode cc pc = .ok (.istore i, 2)) (hn : i < nL)
    (k : PW p l e R s m args below meth c G nL Q cells slots h (pc + 2) (ls.set i (some (vI x))) st) : PW p l e R s m args below meth c G nL Q cells slots h pc ls (vI x :: st) := by
  intro H locs lsA hI hl
  exact lv_istore X.1 X.2.1 hd hl hn rfl (fun ls' h2 => k H locs ls' hI (pl_set (v := vI x) h2))
theorem r_astore_n (X : pX p s m args c G nL cc own) {i : Fin 4} {x : Nat} (hd : decode cc pc = .ok (.astore_n i, 1)) (hn : (i : Nat) < nL)
    (k : PW p l e R s m args below meth c G nL Q cells slots h (pc + 1) (ls.set (i : Nat) (some (vR x))) st) : PW p l e R s m args below meth c G nL Q cells slots h pc ls (vR x :: st) := by
  intro H locs lsA hI hl
  exact lv_astore_n X.1 X.2.1 hd rfl hl hn rfl (fun ls' h2 => k H locs ls' hI (pl_set (v := vR x) h2))
theorem r_astore (X : pX p s m args c G nL cc own) {i : Nat} {x : Nat} (hd : decode cc pc = .ok (.astore i, 2)) (hn : i < nL)
    (k : PW p l e R s m args below meth c G nL Q cells slots h (pc + 2) (ls.set i (some (vR x))) st) : PW p l e R s m args below meth c G nL Q cells slots h pc ls (vR x :: st) := by
  intro H locs lsA hI hl
  exact lv_astore X.1 X.2.1 hd hl hn rfl (fun ls' h2 => k H locs ls' hI (pl_set (v := vR x) h2))
theorem r_iinc (X : pX p s m args c G nL cc own) {i : Nat} {n : Int} {x v : Int32} (hd : decode cc pc = .ok (.iinc i n, 3)) (hk : ls[i]? = some (some (vI x))) (hv : x + Int32.ofInt n = v) (hn : i < nL)
    (k : PW p l e R s m args below meth c G nL Q cells slots h (pc + 3) (ls.set i (some (vI v))) st) : PW p l e R s m args below meth c G nL Q cells slots h pc ls st := by
  intro H locs lsA hI hl
  obtain ⟨j, hj⟩ := List.getElem?_of_mem (pl_mem.mpr ⟨vI x, hk, rfl⟩ : (i, Value.int x) ∈ pl G ls)
  exact lv_iinc X.1 X.2.1 hd hl hj hv hn rfl (fun ls' h2 => k H locs ls' hI (pl_set (v := vI v) h2))
theorem r_iadd (X : pX p s m args c G nL cc own) {x y : Int32} (hd : decode cc pc = .ok (.iadd, 1))
    (k : PW p l e R s m args below meth c G nL Q cells slots h (pc + 1) ls (vI (x + y) :: st)) : PW p l e R s m args below meth c G nL Q cells slots h pc ls (vI y :: vI x :: st) := by
  intro H locs lsA hI hl
  exact lv_iadd X.1 X.2.1 hd (k H locs lsA hI hl)
theorem r_isub (X : pX p s m args c G nL cc own) {x y : Int32} (hd : decode cc pc = .ok (.isub, 1))
    (k : PW p l e R s m args below meth c G nL Q cells slots h (pc + 1) ls (vI (x - y) :: st)) : PW p l e R s m args below meth c G nL Q cells slots h pc ls (vI y :: vI x :: st) := by
  intro H locs lsA hI hl
  exact lv_isub X.1 X.2.1 hd (k H locs lsA hI hl)
theorem r_imul (X : pX p s m args c G nL cc own) {x y : Int32} (hd : decode cc pc = .ok (.imul, 1))
    (k : PW p l e R s m args below meth c G nL Q cells slots h (pc + 1) ls (vI (x * y) :: st)) : PW p l e R s m args below meth c G nL Q cells slots h pc ls (vI y :: vI x :: st) := by
  intro H locs lsA hI hl
  exact lv_imul X.1 X.2.1 hd (k H locs lsA hI hl)
theorem r_iand (X : pX p s m args c G nL cc own) {x y : Int32} (hd : decode cc pc = .ok (.iand, 1))
    (k : PW p l e R s m args below meth c G nL Q cells slots h (pc + 1) ls (vI (x &&& y) :: st)) : PW p l e R s m args below meth c G nL Q cells slots h pc ls (vI y :: vI x :: st) := by
  intro H locs lsA hI hl
  exact lv_iand X.1 X.2.1 hd (k H locs lsA hI hl)
theorem r_ior (X : pX p s m args c G nL cc own) {x y : Int32} (hd : decode cc pc = .ok (.ior, 1))
    (k : PW p l e R s m args below meth c G nL Q cells slots h (pc + 1) ls (vI (x ||| y) :: st)) : PW p l e R s m args below meth c G nL Q cells slots h pc ls (vI y :: vI x :: st) := by
  intro H locs lsA hI hl
  exact lv_ior X.1 X.2.1 hd (k H locs lsA hI hl)
theorem r_ixor (X : pX p s m args c G nL cc own) {x y : Int32} (hd : decode cc pc = .ok (.ixor, 1))
    (k : PW p l e R s m args below meth c G nL Q cells slots h (pc + 1) ls (vI (x ^^^ y) :: st)) : PW p l e R s m args below meth c G nL Q cells slots h pc ls (vI y :: vI x :: st) := by
  intro H locs lsA hI hl
  exact lv_ixor X.1 X.2.1 hd (k H locs lsA hI hl)
theorem r_ishl (X : pX p s m args c G nL cc own) {x y : Int32} (hd : decode cc pc = .ok (.ishl, 1))
    (k : PW p l e R s m args below meth c G nL Q cells slots h (pc + 1) ls (vI (x <<< (y &&& 31)) :: st)) : PW p l e R s m args below meth c G nL Q cells slots h pc ls (vI y :: vI x :: st) := by
  intro H locs lsA hI hl
  exact lv_ishl X.1 X.2.1 hd (k H locs lsA hI hl)
theorem r_ishr (X : pX p s m args c G nL cc own) {x y : Int32} (hd : decode cc pc = .ok (.ishr, 1))
    (k : PW p l e R s m args below meth c G nL Q cells slots h (pc + 1) ls (vI (x >>> (y &&& 31)) :: st)) : PW p l e R s m args below meth c G nL Q cells slots h pc ls (vI y :: vI x :: st) := by
  intro H locs lsA hI hl
  exact lv_ishr X.1 X.2.1 hd (k H locs lsA hI hl)
theorem r_idiv (X : pX p s m args c G nL cc own) {x y : Int32} (hd : decode cc pc = .ok (.idiv, 1)) (hne : ¬ y = 0)
    (k : PW p l e R s m args below meth c G nL Q cells slots h (pc + 1) ls (vI (x / y) :: st)) : PW p l e R s m args below meth c G nL Q cells slots h pc ls (vI y :: vI x :: st) := by
  intro H locs lsA hI hl
  exact lv_idiv X.1 X.2.1 hd hne (k H locs lsA hI hl)
theorem r_irem (X : pX p s m args c G nL cc own) {x y : Int32} (hd : decode cc pc = .ok (.irem, 1)) (hne : ¬ y = 0)
    (k : PW p l e R s m args below meth c G nL Q cells slots h (pc + 1) ls (vI (x - x / y * y) :: st)) : PW p l e R s m args below meth c G nL Q cells slots h pc ls (vI y :: vI x :: st) := by
  intro H locs lsA hI hl
  exact lv_irem X.1 X.2.1 hd hne (k H locs lsA hI hl)
theorem r_iushr (X : pX p s m args c G nL cc own) {x y v : Int32} (hd : decode cc pc = .ok (.iushr, 1)) (hv : (x.toUInt32 >>> (y.toUInt32 &&& Int32.toUInt32 31)).toInt32 = v)
    (k : PW p l e R s m args below meth c G nL Q cells slots h (pc + 1) ls (vI v :: st)) : PW p l e R s m args below meth c G nL Q cells slots h pc ls (vI y :: vI x :: st) := by
  intro H locs lsA hI hl
  exact lv_iushr X.1 X.2.1 hd hv (k H locs lsA hI hl)
theorem r_ineg (X : pX p s m args c G nL cc own) {x : Int32} (hd : decode cc pc = .ok (.ineg, 1))
    (k : PW p l e R s m args below meth c G nL Q cells slots h (pc + 1) ls (vI (-x) :: st)) : PW p l e R s m args below meth c G nL Q cells slots h pc ls (vI x :: st) := by
  intro H locs lsA hI hl
  exact lv_ineg X.1 X.2.1 hd (k H locs lsA hI hl)
theorem r_dup (X : pX p s m args c G nL cc own) {v : PV} (hd : decode cc pc = .ok (.dup, 1))
    (k : PW p l e R s m args below meth c G nL Q cells slots h (pc + 1) ls (v :: v :: st)) : PW p l e R s m args below meth c G nL Q cells slots h pc ls (v :: st) := by
  intro H locs lsA hI hl
  exact lv_dup X.1 X.2.1 hd (pr_cat G v) (k H locs lsA hI hl)
theorem r_pop (X : pX p s m args c G nL cc own) {v : PV} (hd : decode cc pc = .ok (.pop, 1))
    (k : PW p l e R s m args below meth c G nL Q cells slots h (pc + 1) ls st) : PW p l e R s m args below meth c G nL Q cells slots h pc ls (v :: st) := by
  intro H locs lsA hI hl
  exact lv_pop X.1 X.2.1 hd (pr_cat G v) (k H locs lsA hI hl)
theorem r_dup2 (X : pX p s m args c G nL cc own) {v w : PV} (hd : decode cc pc = .ok (.dup2, 1))
    (k : PW p l e R s m args below meth c G nL Q cells slots h (pc + 1) ls (v :: w :: v :: w :: st)) : PW p l e R s m args below meth c G nL Q cells slots h pc ls (v :: w :: st) := by
  intro H locs lsA hI hl
  exact lv_dup2_11 X.1 X.2.1 hd (pr_cat G v) (pr_cat G w) (k H locs lsA hI hl)
theorem r_goto (X : pX p s m args c G nL cc own) {off : Int} {tgt : Nat} (hd : decode cc pc = .ok (.goto off, 3)) (ht : (pc : Int) + off = (tgt : Int))
    (k : PW p l e R s m args below meth c G nL Q cells slots h tgt ls st) : PW p l e R s m args below meth c G nL Q cells slots h pc ls st := by
  intro H locs lsA hI hl
  exact lv_goto X.1 X.2.1 hd ht (k H locs lsA hI hl)
theorem r_if_eq (X : pX p s m args c G nL cc own) {x : Int32} {off : Int} {tgt : Nat} (hd : decode cc pc = .ok (.ifCond .eq off, 3)) (ht : (pc : Int) + off = (tgt : Int))
    (kt : x = 0 → PW p l e R s m args below meth c G nL Q cells slots h tgt ls st) (kf : ¬ x = 0 → PW p l e R s m args below meth c G nL Q cells slots h (pc + 3) ls st) : PW p l e R s m args below meth c G nL Q cells slots h pc ls (vI x :: st) := by
  intro H locs lsA hI hl
  exact lv_if_eq X.1 X.2.1 hd ht (fun q => kt q H locs lsA hI hl) (fun q => kf q H locs lsA hI hl)
theorem r_if_eq_t (X : pX p s m args c G nL cc own) {x : Int32} {off : Int} {tgt : Nat} (hd : decode cc pc = .ok (.ifCond .eq off, 3)) (ht : (pc : Int) + off = (tgt : Int)) (q : x = 0)
    (kt : PW p l e R s m args below meth c G nL Q cells slots h tgt ls st) : PW p l e R s m args below meth c G nL Q cells slots h pc ls (vI x :: st) := r_if_eq X hd ht (fun _ => kt) (fun z => absurd q z)
theorem r_if_eq_f (X : pX p s m args c G nL cc own) {x : Int32} {off : Int} {tgt : Nat} (hd : decode cc pc = .ok (.ifCond .eq off, 3)) (ht : (pc : Int) + off = (tgt : Int)) (q : ¬ x = 0)
    (kf : PW p l e R s m args below meth c G nL Q cells slots h (pc + 3) ls st) : PW p l e R s m args below meth c G nL Q cells slots h pc ls (vI x :: st) := r_if_eq X hd ht (fun z => absurd z q) (fun _ => kf)
theorem r_icmp_eq (X : pX p s m args c G nL cc own) {x y : Int32} {off : Int} {tgt : Nat} (hd : decode cc pc = .ok (.if_icmp .eq off, 3)) (ht : (pc : Int) + off = (tgt : Int))
    (kt : x = y → PW p l e R s m args below meth c G nL Q cells slots h tgt ls st) (kf : ¬ x = y → PW p l e R s m args below meth c G nL Q cells slots h (pc + 3) ls st) : PW p l e R s m args below meth c G nL Q cells slots h pc ls (vI y :: vI x :: st) := by
  intro H locs lsA hI hl
  exact lv_icmp_eq X.1 X.2.1 hd ht (fun q => kt q H locs lsA hI hl) (fun q => kf q H locs lsA hI hl)
theorem r_icmp_eq_t (X : pX p s m args c G nL cc own) {x y : Int32} {off : Int} {tgt : Nat} (hd : decode cc pc = .ok (.if_icmp .eq off, 3)) (ht : (pc : Int) + off = (tgt : Int)) (q : x = y)
    (kt : PW p l e R s m args below meth c G nL Q cells slots h tgt ls st) : PW p l e R s m args below meth c G nL Q cells slots h pc ls (vI y :: vI x :: st) := r_icmp_eq X hd ht (fun _ => kt) (fun z => absurd q z)
theorem r_icmp_eq_f (X : pX p s m args c G nL cc own) {x y : Int32} {off : Int} {tgt : Nat} (hd : decode cc pc = .ok (.if_icmp .eq off, 3)) (ht : (pc : Int) + off = (tgt : Int)) (q : ¬ x = y)
    (kf : PW p l e R s m args below meth c G nL Q cells slots h (pc + 3) ls st) : PW p l e R s m args below meth c G nL Q cells slots h pc ls (vI y :: vI x :: st) := r_icmp_eq X hd ht (fun z => absurd z q) (fun _ => kf)
theorem r_if_ne (X : pX p s m args c G nL cc own) {x : Int32} {off : Int} {tgt : Nat} (hd : decode cc pc = .ok (.ifCond .ne off, 3)) (ht : (pc : Int) + off = (tgt : Int))
    (kt : ¬ x = 0 → PW p l e R s m args below meth c G nL Q cells slots h tgt ls st) (kf : x = 0 → PW p l e R s m args below meth c G nL Q cells slots h (pc + 3) ls st) : PW p l e R s m args below meth c G nL Q cells slots h pc ls (vI x :: st) := by
  intro H locs lsA hI hl
  exact lv_if_ne X.1 X.2.1 hd ht (fun q => kt q H locs lsA hI hl) (fun q => kf q H locs lsA hI hl)
theorem r_if_ne_t (X : pX p s m args c G nL cc own) {x : Int32} {off : Int} {tgt : Nat} (hd : decode cc pc = .ok (.ifCond .ne off, 3)) (ht : (pc : Int) + off = (tgt : Int)) (q : ¬ x = 0)
    (kt : PW p l e R s m args below meth c G nL Q cells slots h tgt ls st) : PW p l e R s m args below meth c G nL Q cells slots h pc ls (vI x :: st) := r_if_ne X hd ht (fun _ => kt) (fun z => absurd z q)
theorem r_if_ne_f (X : pX p s m args c G nL cc own) {x : Int32} {off : Int} {tgt : Nat} (hd : decode cc pc = .ok (.ifCond .ne off, 3)) (ht : (pc : Int) + off = (tgt : Int)) (q : x = 0)
    (kf : PW p l e R s m args below meth c G nL Q cells slots h (pc + 3) ls st) : PW p l e R s m args below meth c G nL Q cells slots h pc ls (vI x :: st) := r_if_ne X hd ht (fun z => absurd q z) (fun _ => kf)
theorem r_icmp_ne (X : pX p s m args c G nL cc own) {x y : Int32} {off : Int} {tgt : Nat} (hd : decode cc pc = .ok (.if_icmp .ne off, 3)) (ht : (pc : Int) + off = (tgt : Int))
    (kt : ¬ x = y → PW p l e R s m args below meth c G nL Q cells slots h tgt ls st) (kf : x = y → PW p l e R s m args below meth c G nL Q cells slots h (pc + 3) ls st) : PW p l e R s m args below meth c G nL Q cells slots h pc ls (vI y :: vI x :: st) := by
  intro H locs lsA hI hl
  exact lv_icmp_ne X.1 X.2.1 hd ht (fun q => kt q H locs lsA hI hl) (fun q => kf q H locs lsA hI hl)
theorem r_icmp_ne_t (X : pX p s m args c G nL cc own) {x y : Int32} {off : Int} {tgt : Nat} (hd : decode cc pc = .ok (.if_icmp .ne off, 3)) (ht : (pc : Int) + off = (tgt : Int)) (q : ¬ x = y)
    (kt : PW p l e R s m args below meth c G nL Q cells slots h tgt ls st) : PW p l e R s m args below meth c G nL Q cells slots h pc ls (vI y :: vI x :: st) := r_icmp_ne X hd ht (fun _ => kt) (fun z => absurd z q)
theorem r_icmp_ne_f (X : pX p s m args c G nL cc own) {x y : Int32} {off : Int} {tgt : Nat} (hd : decode cc pc = .ok (.if_icmp .ne off, 3)) (ht : (pc : Int) + off = (tgt : Int)) (q : x = y)
    (kf : PW p l e R s m args below meth c G nL Q cells slots h (pc + 3) ls st) : PW p l e R s m args below meth c G nL Q cells slots h pc ls (vI y :: vI x :: st) := r_icmp_ne X hd ht (fun z => absurd q z) (fun _ => kf)
theorem r_if_lt (X : pX p s m args c G nL cc own) {x : Int32} {off : Int} {tgt : Nat} (hd : decode cc pc = .ok (.ifCond .lt off, 3)) (ht : (pc : Int) + off = (tgt : Int))
    (kt : x < 0 → PW p l e R s m args below meth c G nL Q cells slots h tgt ls st) (kf : ¬ x < 0 → PW p l e R s m args below meth c G nL Q cells slots h (pc + 3) ls st) : PW p l e R s m args below meth c G nL Q cells slots h pc ls (vI x :: st) := by
  intro H locs lsA hI hl
  exact lv_if_lt X.1 X.2.1 hd ht (fun q => kt q H locs lsA hI hl) (fun q => kf q H locs lsA hI hl)
theorem r_if_lt_t (X : pX p s m args c G nL cc own) {x : Int32} {off : Int} {tgt : Nat} (hd : decode cc pc = .ok (.ifCond .lt off, 3)) (ht : (pc : Int) + off = (tgt : Int)) (q : x < 0)
    (kt : PW p l e R s m args below meth c G nL Q cells slots h tgt ls st) : PW p l e R s m args below meth c G nL Q cells slots h pc ls (vI x :: st) := r_if_lt X hd ht (fun _ => kt) (fun z => absurd q z)
theorem r_if_lt_f (X : pX p s m args c G nL cc own) {x : Int32} {off : Int} {tgt : Nat} (hd : decode cc pc = .ok (.ifCond .lt off, 3)) (ht : (pc : Int) + off = (tgt : Int)) (q : ¬ x < 0)
    (kf : PW p l e R s m args below meth c G nL Q cells slots h (pc + 3) ls st) : PW p l e R s m args below meth c G nL Q cells slots h pc ls (vI x :: st) := r_if_lt X hd ht (fun z => absurd z q) (fun _ => kf)
theorem r_icmp_lt (X : pX p s m args c G nL cc own) {x y : Int32} {off : Int} {tgt : Nat} (hd : decode cc pc = .ok (.if_icmp .lt off, 3)) (ht : (pc : Int) + off = (tgt : Int))
    (kt : x < y → PW p l e R s m args below meth c G nL Q cells slots h tgt ls st) (kf : ¬ x < y → PW p l e R s m args below meth c G nL Q cells slots h (pc + 3) ls st) : PW p l e R s m args below meth c G nL Q cells slots h pc ls (vI y :: vI x :: st) := by
  intro H locs lsA hI hl
  exact lv_icmp_lt X.1 X.2.1 hd ht (fun q => kt q H locs lsA hI hl) (fun q => kf q H locs lsA hI hl)
theorem r_icmp_lt_t (X : pX p s m args c G nL cc own) {x y : Int32} {off : Int} {tgt : Nat} (hd : decode cc pc = .ok (.if_icmp .lt off, 3)) (ht : (pc : Int) + off = (tgt : Int)) (q : x < y)
    (kt : PW p l e R s m args below meth c G nL Q cells slots h tgt ls st) : PW p l e R s m args below meth c G nL Q cells slots h pc ls (vI y :: vI x :: st) := r_icmp_lt X hd ht (fun _ => kt) (fun z => absurd q z)
theorem r_icmp_lt_f (X : pX p s m args c G nL cc own) {x y : Int32} {off : Int} {tgt : Nat} (hd : decode cc pc = .ok (.if_icmp .lt off, 3)) (ht : (pc : Int) + off = (tgt : Int)) (q : ¬ x < y)
    (kf : PW p l e R s m args below meth c G nL Q cells slots h (pc + 3) ls st) : PW p l e R s m args below meth c G nL Q cells slots h pc ls (vI y :: vI x :: st) := r_icmp_lt X hd ht (fun z => absurd z q) (fun _ => kf)
theorem r_if_ge (X : pX p s m args c G nL cc own) {x : Int32} {off : Int} {tgt : Nat} (hd : decode cc pc = .ok (.ifCond .ge off, 3)) (ht : (pc : Int) + off = (tgt : Int))
    (kt : 0 ≤ x → PW p l e R s m args below meth c G nL Q cells slots h tgt ls st) (kf : ¬ 0 ≤ x → PW p l e R s m args below meth c G nL Q cells slots h (pc + 3) ls st) : PW p l e R s m args below meth c G nL Q cells slots h pc ls (vI x :: st) := by
  intro H locs lsA hI hl
  exact lv_if_ge X.1 X.2.1 hd ht (fun q => kt q H locs lsA hI hl) (fun q => kf q H locs lsA hI hl)
theorem r_if_ge_t (X : pX p s m args c G nL cc own) {x : Int32} {off : Int} {tgt : Nat} (hd : decode cc pc = .ok (.ifCond .ge off, 3)) (ht : (pc : Int) + off = (tgt : Int)) (q : 0 ≤ x)
    (kt : PW p l e R s m args below meth c G nL Q cells slots h tgt ls st) : PW p l e R s m args below meth c G nL Q cells slots h pc ls (vI x :: st) := r_if_ge X hd ht (fun _ => kt) (fun z => absurd q z)
theorem r_if_ge_f (X : pX p s m args c G nL cc own) {x : Int32} {off : Int} {tgt : Nat} (hd : decode cc pc = .ok (.ifCond .ge off, 3)) (ht : (pc : Int) + off = (tgt : Int)) (q : ¬ 0 ≤ x)
    (kf : PW p l e R s m args below meth c G nL Q cells slots h (pc + 3) ls st) : PW p l e R s m args below meth c G nL Q cells slots h pc ls (vI x :: st) := r_if_ge X hd ht (fun z => absurd z q) (fun _ => kf)
theorem r_icmp_ge (X : pX p s m args c G nL cc own) {x y : Int32} {off : Int} {tgt : Nat} (hd : decode cc pc = .ok (.if_icmp .ge off, 3)) (ht : (pc : Int) + off = (tgt : Int))
    (kt : y ≤ x → PW p l e R s m args below meth c G nL Q cells slots h tgt ls st) (kf : ¬ y ≤ x → PW p l e R s m args below meth c G nL Q cells slots h (pc + 3) ls st) : PW p l e R s m args below meth c G nL Q cells slots h pc ls (vI y :: vI x :: st) := by
  intro H locs lsA hI hl
  exact lv_icmp_ge X.1 X.2.1 hd ht (fun q => kt q H locs lsA hI hl) (fun q => kf q H locs lsA hI hl)
theorem r_icmp_ge_t (X : pX p s m args c G nL cc own) {x y : Int32} {off : Int} {tgt : Nat} (hd : decode cc pc = .ok (.if_icmp .ge off, 3)) (ht : (pc : Int) + off = (tgt : Int)) (q : y ≤ x)
    (kt : PW p l e R s m args below meth c G nL Q cells slots h tgt ls st) : PW p l e R s m args below meth c G nL Q cells slots h pc ls (vI y :: vI x :: st) := r_icmp_ge X hd ht (fun _ => kt) (fun z => absurd q z)
theorem r_icmp_ge_f (X : pX p s m args c G nL cc own) {x y : Int32} {off : Int} {tgt : Nat} (hd : decode cc pc = .ok (.if_icmp .ge off, 3)) (ht : (pc : Int) + off = (tgt : Int)) (q : ¬ y ≤ x)
    (kf : PW p l e R s m args below meth c G nL Q cells slots h (pc + 3) ls st) : PW p l e R s m args below meth c G nL Q cells slots h pc ls (vI y :: vI x :: st) := r_icmp_ge X hd ht (fun z => absurd z q) (fun _ => kf)
theorem r_if_gt (X : pX p s m args c G nL cc own) {x : Int32} {off : Int} {tgt : Nat} (hd : decode cc pc = .ok (.ifCond .gt off, 3)) (ht : (pc : Int) + off = (tgt : Int))
    (kt : 0 < x → PW p l e R s m args below meth c G nL Q cells slots h tgt ls st) (kf : ¬ 0 < x → PW p l e R s m args below meth c G nL Q cells slots h (pc + 3) ls st) : PW p l e R s m args below meth c G nL Q cells slots h pc ls (vI x :: st) := by
  intro H locs lsA hI hl
  exact lv_if_gt X.1 X.2.1 hd ht (fun q => kt q H locs lsA hI hl) (fun q => kf q H locs lsA hI hl)
theorem r_if_gt_t (X : pX p s m args c G nL cc own) {x : Int32} {off : Int} {tgt : Nat} (hd : decode cc pc = .ok (.ifCond .gt off, 3)) (ht : (pc : Int) + off = (tgt : Int)) (q : 0 < x)
    (kt : PW p l e R s m args below meth c G nL Q cells slots h tgt ls st) : PW p l e R s m args below meth c G nL Q cells slots h pc ls (vI x :: st) := r_if_gt X hd ht (fun _ => kt) (fun z => absurd q z)
theorem r_if_gt_f (X : pX p s m args c G nL cc own) {x : Int32} {off : Int} {tgt : Nat} (hd : decode cc pc = .ok (.ifCond .gt off, 3)) (ht : (pc : Int) + off = (tgt : Int)) (q : ¬ 0 < x)
    (kf : PW p l e R s m args below meth c G nL Q cells slots h (pc + 3) ls st) : PW p l e R s m args below meth c G nL Q cells slots h pc ls (vI x :: st) := r_if_gt X hd ht (fun z => absurd z q) (fun _ => kf)
theorem r_icmp_gt (X : pX p s m args c G nL cc own) {x y : Int32} {off : Int} {tgt : Nat} (hd : decode cc pc = .ok (.if_icmp .gt off, 3)) (ht : (pc : Int) + off = (tgt : Int))
    (kt : y < x → PW p l e R s m args below meth c G nL Q cells slots h tgt ls st) (kf : ¬ y < x → PW p l e R s m args below meth c G nL Q cells slots h (pc + 3) ls st) : PW p l e R s m args below meth c G nL Q cells slots h pc ls (vI y :: vI x :: st) := by
  intro H locs lsA hI hl
  exact lv_icmp_gt X.1 X.2.1 hd ht (fun q => kt q H locs lsA hI hl) (fun q => kf q H locs lsA hI hl)
theorem r_icmp_gt_t (X : pX p s m args c G nL cc own) {x y : Int32} {off : Int} {tgt : Nat} (hd : decode cc pc = .ok (.if_icmp .gt off, 3)) (ht : (pc : Int) + off = (tgt : Int)) (q : y < x)
    (kt : PW p l e R s m args below meth c G nL Q cells slots h tgt ls st) : PW p l e R s m args below meth c G nL Q cells slots h pc ls (vI y :: vI x :: st) := r_icmp_gt X hd ht (fun _ => kt) (fun z => absurd q z)
theorem r_icmp_gt_f (X : pX p s m args c G nL cc own) {x y : Int32} {off : Int} {tgt : Nat} (hd : decode cc pc = .ok (.if_icmp .gt off, 3)) (ht : (pc : Int) + off = (tgt : Int)) (q : ¬ y < x)
    (kf : PW p l e R s m args below meth c G nL Q cells slots h (pc + 3) ls st) : PW p l e R s m args below meth c G nL Q cells slots h pc ls (vI y :: vI x :: st) := r_icmp_gt X hd ht (fun z => absurd z q) (fun _ => kf)
theorem r_if_le (X : pX p s m args c G nL cc own) {x : Int32} {off : Int} {tgt : Nat} (hd : decode cc pc = .ok (.ifCond .le off, 3)) (ht : (pc : Int) + off = (tgt : Int))
    (kt : x ≤ 0 → PW p l e R s m args below meth c G nL Q cells slots h tgt ls st) (kf : ¬ x ≤ 0 → PW p l e R s m args below meth c G nL Q cells slots h (pc + 3) ls st) : PW p l e R s m args below meth c G nL Q cells slots h pc ls (vI x :: st) := by
  intro H locs lsA hI hl
  exact lv_if_le X.1 X.2.1 hd ht (fun q => kt q H locs lsA hI hl) (fun q => kf q H locs lsA hI hl)
theorem r_if_le_t (X : pX p s m args c G nL cc own) {x : Int32} {off : Int} {tgt : Nat} (hd : decode cc pc = .ok (.ifCond .le off, 3)) (ht : (pc : Int) + off = (tgt : Int)) (q : x ≤ 0)
    (kt : PW p l e R s m args below meth c G nL Q cells slots h tgt ls st) : PW p l e R s m args below meth c G nL Q cells slots h pc ls (vI x :: st) := r_if_le X hd ht (fun _ => kt) (fun z => absurd q z)
theorem r_if_le_f (X : pX p s m args c G nL cc own) {x : Int32} {off : Int} {tgt : Nat} (hd : decode cc pc = .ok (.ifCond .le off, 3)) (ht : (pc : Int) + off = (tgt : Int)) (q : ¬ x ≤ 0)
    (kf : PW p l e R s m args below meth c G nL Q cells slots h (pc + 3) ls st) : PW p l e R s m args below meth c G nL Q cells slots h pc ls (vI x :: st) := r_if_le X hd ht (fun z => absurd z q) (fun _ => kf)
theorem r_icmp_le (X : pX p s m args c G nL cc own) {x y : Int32} {off : Int} {tgt : Nat} (hd : decode cc pc = .ok (.if_icmp .le off, 3)) (ht : (pc : Int) + off = (tgt : Int))
    (kt : x ≤ y → PW p l e R s m args below meth c G nL Q cells slots h tgt ls st) (kf : ¬ x ≤ y → PW p l e R s m args below meth c G nL Q cells slots h (pc + 3) ls st) : PW p l e R s m args below meth c G nL Q cells slots h pc ls (vI y :: vI x :: st) := by
  intro H locs lsA hI hl
  exact lv_icmp_le X.1 X.2.1 hd ht (fun q => kt q H locs lsA hI hl) (fun q => kf q H locs lsA hI hl)
theorem r_icmp_le_t (X : pX p s m args c G nL cc own) {x y : Int32} {off : Int} {tgt : Nat} (hd : decode cc pc = .ok (.if_icmp .le off, 3)) (ht : (pc : Int) + off = (tgt : Int)) (q : x ≤ y)
    (kt : PW p l e R s m args below meth c G nL Q cells slots h tgt ls st) : PW p l e R s m args below meth c G nL Q cells slots h pc ls (vI y :: vI x :: st) := r_icmp_le X hd ht (fun _ => kt) (fun z => absurd q z)
theorem r_icmp_le_f (X : pX p s m args c G nL cc own) {x y : Int32} {off : Int} {tgt : Nat} (hd : decode cc pc = .ok (.if_icmp .le off, 3)) (ht : (pc : Int) + off = (tgt : Int)) (q : ¬ x ≤ y)
    (kf : PW p l e R s m args below meth c G nL Q cells slots h (pc + 3) ls st) : PW p l e R s m args below meth c G nL Q cells slots h pc ls (vI y :: vI x :: st) := r_icmp_le X hd ht (fun z => absurd z q) (fun _ => kf)
theorem r_ifnull_r (X : pX p s m args c G nL cc own) {x : Nat} {off : Int} (hd : decode cc pc = .ok (.ifnull off, 3))
    (k : PW p l e R s m args below meth c G nL Q cells slots h (pc + 3) ls st) : PW p l e R s m args below meth c G nL Q cells slots h pc ls (vR x :: st) := by
  intro H locs lsA hI hl
  exact lv_ifnull X.1 X.2.1 hd (k H locs lsA hI hl)
theorem r_ifnull_n (X : pX p s m args c G nL cc own) {off : Int} {tgt : Nat} (hd : decode cc pc = .ok (.ifnull off, 3)) (ht : (pc : Int) + off = (tgt : Int))
    (k : PW p l e R s m args below meth c G nL Q cells slots h tgt ls st) : PW p l e R s m args below meth c G nL Q cells slots h pc ls (vN :: st) := by
  intro H locs lsA hI hl
  exact lv_ifnullN X.1 X.2.1 hd ht (k H locs lsA hI hl)
theorem r_ifnonnull_r (X : pX p s m args c G nL cc own) {x : Nat} {off : Int} {tgt : Nat} (hd : decode cc pc = .ok (.ifnonnull off, 3)) (ht : (pc : Int) + off = (tgt : Int))
    (k : PW p l e R s m args below meth c G nL Q cells slots h tgt ls st) : PW p l e R s m args below meth c G nL Q cells slots h pc ls (vR x :: st) := by
  intro H locs lsA hI hl
  exact lv_ifnonnull X.1 X.2.1 hd ht (k H locs lsA hI hl)
theorem r_ifnonnull_n (X : pX p s m args c G nL cc own) {off : Int} (hd : decode cc pc = .ok (.ifnonnull off, 3))
    (k : PW p l e R s m args below meth c G nL Q cells slots h (pc + 3) ls st) : PW p l e R s m args below meth c G nL Q cells slots h pc ls (vN :: st) := by
  intro H locs lsA hI hl
  exact lv_ifnonnullN X.1 X.2.1 hd (k H locs lsA hI hl)
theorem r_tabIn (X : pX p s m args c G nL cc own) {dflt lo hi : Int} {offs : Array Int} {len : Nat} {x : Int32} {off : Int} {tgt : Nat} (hd : decode cc pc = .ok (.tableswitch dflt lo hi offs, len)) (h1 : ¬ x.toInt < lo) (h2 : ¬ hi < x.toInt) (ho : offs[(x.toInt - lo).toNat]? = some off) (ht : (pc : Int) + off = (tgt : Int))
    (k : PW p l e R s m args below meth c G nL Q cells slots h tgt ls st) : PW p l e R s m args below meth c G nL Q cells slots h pc ls (vI x :: st) := by
  intro H locs lsA hI hl
  exact lv_tableIn X.1 X.2.1 hd h1 h2 ho ht (k H locs lsA hI hl)
theorem r_tabOut (X : pX p s m args c G nL cc own) {dflt lo hi : Int} {offs : Array Int} {len : Nat} {x : Int32} {tgt : Nat} (hd : decode cc pc = .ok (.tableswitch dflt lo hi offs, len)) (hx : x.toInt < lo ∨ hi < x.toInt) (ht : (pc : Int) + dflt = (tgt : Int))
    (k : PW p l e R s m args below meth c G nL Q cells slots h tgt ls st) : PW p l e R s m args below meth c G nL Q cells slots h pc ls (vI x :: st) := by
  intro H locs lsA hI hl
  exact lv_tableOut X.1 X.2.1 hd hx ht (k H locs lsA hI hl)
/-! fields -/
def ckOK (ci : Nat) (C : String) (T : u_T) (N : Nat) (ty : Nat → FieldType) : Prop := vwCl[ci]? = some (C, T, N) ∧ (∀ w ∈ u_ws C T N, w ∈ lw_ok) ∧ (∀ k, k < N → parseFieldDescriptor (T k).2.2.1 = some (ty k)) ∧ ∀ a, a < N → ∀ b, b < N → a ≠ b → (T a).2.1 ≠ (T b).2.1
def fkG (own : String) (i ci k : Nat) : Prop := ∃ (C : String) (T : u_T) (N : Nat) (ty : Nat → FieldType), ckOK ci C T N ty ∧ k < N ∧ Cond.fieldLink own i (T k).1 (T k).2.1 (T k).2.2.1 ∈ lw_ok
def fkP (own : String) (i ci k : Nat) (t : FieldType) : Prop := ∃ (C : String) (T : u_T) (N : Nat) (ty : Nat → FieldType), ckOK ci C T N ty ∧ k < N ∧ Cond.fieldLink own i (T k).1 (T k).2.1 (T k).2.2.1 ∈ lw_ok ∧ (T k).2.2.2 = false ∧ ty k = t
def fkF (own : String) (i ci k : Nat) (t : FieldType) : Prop := ∃ (C : String) (T : u_T) (N : Nat) (ty : Nat → FieldType), ckOK ci C T N ty ∧ k < N ∧ Cond.fieldLink own i (T k).1 (T k).2.1 (T k).2.2.1 ∈ lw_ok ∧ (T k).2.2.2 = true ∧ (T k).1 = own ∧ ty k = t
theorem r_get (X : pX p s m args c G nL cc own) {i ci k a : Nat} {fs : List PV} {v : PV} (F : fkG own i ci k) (hd : decode cc pc = .ok (.getfield i, 3)) (hh : h[a]? = some (eO ci fs)) (hv : fs[k]? = some v)
    (kk : PW p l e R s m args below meth c G nL Q cells slots h (pc + 3) ls (v :: st)) : PW p l e R s m args below meth c G nL Q cells slots h pc ls (vR a :: st) := by
  intro H locs lsA hI hl
  obtain ⟨C, T, N, ty, ⟨hc, hin, hty, hnm⟩, hk, hlk⟩ := F
  exact va_get X.1 X.2.1 X.2.2.2.2.1 hin X.2.2.2.1 X.2.2.2.2.2.1 hI.2.1 a (pw_get hh) hc k hk (X.2.2.2.2.1 _ hlk) (fun _ z => z) (by rw [List.getElem?_map, hv]; rfl) hd (kk H locs lsA hI hl)
theorem pI_put {G : PG} {s : State} {h : PH} {H H1 : Heap} {locs : List Loc} {a i : Nat} {x x' : PE} (hI : pI G s h H locs) (hh : h[a]? = some x) (z : H1.size = H.size) (oq : ∀ q : Nat, q ≠ G.2.2.1 + a → H1[q]? = H[q]?) (he : va_at G.1 vwCl (G.2.2.1 + a, pe G x') H1) : pI G s (h.set a x') H1 (locs ++ [⟨G.2.2.1 + a, i⟩]) := by
  refine ⟨by rw [z, List.length_set]; exact hI.1, ?_, hI.2.2.put z oq (Nat.le_add_right _ _)⟩
  rw [← pw_set]
  exact hI.2.1.set pw_D (pw_get hh) he oq
theorem r_put (X : pX p s m args c G nL cc own) {i ci k a : Nat} {fs : List PV} {v : PV} {t : FieldType} (F : fkP own i ci k t) (hd : decode cc pc = .ok (.putfield i, 3)) (hh : h[a]? = some (eO ci fs)) (hl0 : k < fs.length) (hn : narrow t (pr G v) = pr G v) (hf : fits t (pr G v) = true)
    (kk : PW p l e R s m args below meth c G nL Q cells slots (h.set a (eO ci (fs.set k v))) (pc + 3) ls st) : PW p l e R s m args below meth c G nL Q cells slots h pc ls (v :: vR a :: st) := by
  intro H locs lsA hI hl
  obtain ⟨C, T, N, ty, ⟨hc, hin, hty, hnm⟩, hk, hlk, hfin, rfl⟩ := F
  have hts := X.2.2.2.2.1
  have hap := va_apart (own := own) hts hin ty hty hnm X.2.2.2.2.2.1 hc
  obtain ⟨r, h1, cell, q1, q2, q3, q4⟩ := hI.2.1 a _ (pw_get hh)
  have hr : r = (C, T, N) := Option.some.inj (h1.symm.trans hc)
  subst hr
  obtain ⟨hS, hfc, kC, hkC, hkind⟩ := X.2.2.2.2.2.1.1 ci _ hc
  obtain ⟨cf, kf, fi, f, hi, hsl⟩ := hS k hk
  have hlay := hts _ (hin _ (u_in_lay hk))
  unfold u_lay at hlay
  rw [if_neg (by rw [hfin]; decide)] at hlay
  have hst := (u_facts hfc hkC (u_lays hts hin hk) hi).1
  have h6 := u_store hfc hkC hkind hlay hi (hty k hk) hn hf
  refine W.putK X.1 X.2.1 (f := f) ⟨X.2.2.2.1, hts _ hlk, ⟨_, _, _, hi⟩, hst⟩ (by rw [q2]; exact h6) q1 q3 (by rw [hsl]; exact k2_hasslot (q4 k hk)) rfl rfl hd fun H1 e1 e2 e3 => ?_
  rw [hsl] at e1
  refine kk H1 _ lsA (pI_put hI hh e2 e3 ⟨_, hc, ?_⟩) hl
  refine t_OB.to (V := updV (vp_V (fs.map (pr G))) k (pr G v)) ⟨_, e1, q2, q3, t_set q4 hap hk _⟩ (fun j _ => ?_)
  show _ = vp_V ((fs.set k v).map (pr G)) j
  rw [List.map_set]
  exact vp_updV_set (by rw [List.length_map]; exact hl0) _ j
theorem r_putF (X : pX p s m args c G nL cc own) {i ci k a : Nat} {fs : List PV} {v : PV} {t : FieldType} (F : fkF own i ci k t) (hin2 : meth.name = "<init>") (hd : decode cc pc = .ok (.putfield i, 3)) (hh : h[a]? = some (eO ci fs)) (hl0 : k < fs.length) (hn : narrow t (pr G v) = pr G v) (hf : fits t (pr G v) = true)
    (kk : PW p l e R s m args below meth c G nL Q cells slots (h.set a (eO ci (fs.set k v))) (pc + 3) ls st) : PW p l e R s m args below meth c G nL Q cells slots h pc ls (v :: vR a :: st) := by
  intro H locs lsA hI hl
  obtain ⟨C, T, N, ty, ⟨hc, hin, hty, hnm⟩, hk, hlk, hfin, hdecl, rfl⟩ := F
  have hts := X.2.2.2.2.1
  have hap := va_apart (own := own) hts hin ty hty hnm X.2.2.2.2.2.1 hc
  obtain ⟨r, h1, cell, q1, q2, q3, q4⟩ := hI.2.1 a _ (pw_get hh)
  have hr : r = (C, T, N) := Option.some.inj (h1.symm.trans hc)
  subst hr
  obtain ⟨hS, hfc, kC, hkC, hkind⟩ := X.2.2.2.2.2.1.1 ci _ hc
  obtain ⟨cf, kf, fi, f, hi, hsl⟩ := hS k hk
  have hlay := hts _ (hin _ (u_in_lay hk))
  unfold u_lay at hlay
  rw [if_pos hfin] at hlay
  have hst := (u_facts hfc hkC (u_lays hts hin hk) hi).1
  have hcf : m.cls = cf := by
    obtain ⟨_, _, c', _, _, _, -, -, hf', -, -, -, hown2, -⟩ := Cond.laysFinal_spec hlay
    have e1 : c' = cf := by have := hi.symm.trans hf'; simp at this; exact this.1.symm
    rw [hdecl] at hown2
    rw [← e1]; exact Option.some.inj (X.2.2.2.1.symm.trans hown2)
  have h6 := u_fits hfc hkC hkind (Or.inr hlay) hi (hty k hk) hn hf
  refine W.putFinK X.1 X.2.1 X.2.2.2.1 (hts _ hlk) hi hst hcf hin2 (by rw [q2]; exact h6) q1 q3 (by rw [hsl]; exact k2_hasslot (q4 k hk)) rfl rfl hd fun H1 e1 e2 e3 => ?_
  rw [hsl] at e1
  refine kk H1 _ lsA (pI_put hI hh e2 e3 ⟨_, hc, ?_⟩) hl
  refine t_OB.to (V := updV (vp_V (fs.map (pr G))) k (pr G v)) ⟨_, e1, q2, q3, t_set q4 hap hk _⟩ (fun j _ => ?_)
  show _ = vp_V ((fs.set k v).map (pr G)) j
  rw [List.map_set]
  exact vp_updV_set (by rw [List.length_map]; exact hl0) _ j
/-! arrays -/
theorem pT0 {G : PG} : (pT G)[0]? = some (G.2.1 0, .int) := rfl
theorem r_iald (X : pX p s m args c G nL cc own) {a n : Nat} {f : Nat → Int32} {i : Int32} (hd : decode cc pc = .ok (.iaload, 1)) (hh : h[a]? = some (eI n f)) (hin : vp_in i n)
    (kk : PW p l e R s m args below meth c G nL Q cells slots h (pc + 1) ls (vI (f i.toNatClampNeg) :: st)) : PW p l e R s m args below meth c G nL Q cells slots h pc ls (vI i :: vR a :: st) := by
  intro H locs lsA hI hl
  exact va_iald X.1 X.2.1 X.2.2.2.2.2.1 hI.2.1 a 0 (pw_get hh) pT0 hin hd (kk H locs lsA hI hl)
theorem r_iast (X : pX p s m args c G nL cc own) {a n : Nat} {f : Nat → Int32} {i x : Int32} (hd : decode cc pc = .ok (.iastore, 1)) (hh : h[a]? = some (eI n f)) (hin : vp_in i n)
    (kk : PW p l e R s m args below meth c G nL Q cells slots (h.set a (eI n (upd f i.toNatClampNeg x))) (pc + 1) ls st) : PW p l e R s m args below meth c G nL Q cells slots h pc ls (vI x :: vI i :: vR a :: st) := by
  intro H locs lsA hI hl
  refine W.iast X.1 X.2.1 (hI.2.1 a _ (pw_get hh)) ((X.2.2.2.2.2.1.2 0 _ pT0).1 n (fun j => .int (f j))) (fun q => by cases q) (by show ¬ (i < 0 ∨ (arrV _ _ _).slots.size ≤ _); rw [arrV_size]; exact hin) rfl rfl hd fun H1 e1 z oq => ?_
  refine kk H1 _ lsA (pI_put hI hh z oq ?_) hl
  show H1[_]? = some (vp_cell _ _)
  rw [e1]
  show some ((vp_cell _ (n, .inl f)).setSlot _ _) = some (vp_cell _ (n, .inl _))
  rw [vp_cell_i, vp_cell_i, arrV_store]
  congr 2
  funext q
  by_cases hq : q = i.toNatClampNeg
  · subst hq
    simp [updV, upd]
  · simp [updV, upd, hq]
theorem r_alen (X : pX p s m args c G nL cc own) {a n : Nat} {f : Nat → Int32} {v : Int32} (hd : decode cc pc = .ok (.arraylength, 1)) (hh : h[a]? = some (eI n f)) (hv : Int32.ofNat n = v)
    (kk : PW p l e R s m args below meth c G nL Q cells slots h (pc + 1) ls (vI v :: st)) : PW p l e R s m args below meth c G nL Q cells slots h pc ls (vR a :: st) := by
  intro H locs lsA hI hl
  exact va_alen X.1 X.2.1 X.2.2.2.2.2.1 hI.2.1 a 0 (pw_get hh) pT0 hv hd (kk H locs lsA hI hl)
def pO (r : Option Nat) : PV := .inr (.inl r)
theorem r_aald (X : pX p s m args c G nL cc own) {a t n : Nat} {C : String} {f : Nat → Option Nat} {i : Int32} (ht : (pT G)[t]? = some (G.2.1 t, .object C)) (hd : decode cc pc = .ok (.aaload, 1)) (hh : h[a]? = some (eR t n f)) (hin : vp_in i n)
    (kk : PW p l e R s m args below meth c G nL Q cells slots h (pc + 1) ls (pO (f i.toNatClampNeg) :: st)) : PW p l e R s m args below meth c G nL Q cells slots h pc ls (vI i :: vR a :: st) := by
  intro H locs lsA hI hl
  refine va_aldq X.1 X.2.1 X.2.2.2.2.2.1 hI.2.1 a t (pw_get hh) ht hin hd ?_
  have := kk H locs lsA hI hl
  have e : pr G (pO (f i.toNatClampNeg)) = va_rf ((f i.toNatClampNeg).map (fun k => G.2.2.1 + k)) := by
    cases f i.toNatClampNeg <;> rfl
  rw [← e]
  exact this
theorem r_aast (X : pX p s m args c G nL cc own) {a t n v ci N : Nat} {T : u_T} {C : String} {vs : List PV} {f : Nat → Option Nat} {i : Int32} (ht : (pT G)[t]? = some (G.2.1 t, .object C)) (hc : vwCl[ci]? = some (C, T, N)) (hd : decode cc pc = .ok (.aastore, 1)) (hh : h[a]? = some (eR t n f)) (hv : h[v]? = some (eO ci vs)) (hin : vp_in i n)
    (kk : PW p l e R s m args below meth c G nL Q cells slots (h.set a (eR t n (va_up f i.toNatClampNeg (some v)))) (pc + 1) ls st) : PW p l e R s m args below meth c G nL Q cells slots h pc ls (vR v :: vI i :: vR a :: st) := by
  intro H locs lsA hI hl
  have hlt : i.toNatClampNeg < n := Nat.not_le.mp fun q => hin (Or.inr q)
  have h0 : ¬ i < 0 := fun q => hin (Or.inl q)
  obtain ⟨r', hr', cellV, g1, g2, g3, -⟩ := hI.2.1 v _ (pw_get hv)
  have hcls := (X.2.2.2.2.2.1.1 ci _ hc).2
  obtain ⟨kA, comp, k1, k2, k3, -⟩ := (X.2.2.2.2.2.1.2 t _ ht).2
  have hcomp : comp = G.1.1 ci := Option.some.inj (k3.symm.trans hcls.1)
  subst hcomp
  obtain ⟨kC, hkC, -⟩ := hcls.2
  refine W.aast X.1 X.2.1 (hI.2.1 a _ (pw_get hh)) (fun q h => by cases h) (fun h => by cases h) k1 k2 rfl hkC ⟨h0, by show _ < (arrV _ _ _).slots.size; rw [arrV_size]; exact hlt⟩ g1 (fun q h => by rw [g3] at h; cases h) (by rw [g2]; exact hkC) (by rw [g2]; exact va_assign hcls) rfl rfl hd fun H1 e1 z oq => ?_
  refine kk H1 _ lsA (pI_put hI hh z oq ?_) hl
  show H1[_]? = some (vp_cell _ _)
  rw [e1]
  show some ((vp_cell _ (n, .inr (.inr (.inr (.inr _))))).setSlot _ _) = some (vp_cell _ (n, .inr (.inr (.inr (.inr _)))))
  rw [vp_cell_q, vp_cell_q, arrV_store]
  congr 2
  funext q
  by_cases hq : q = i.toNatClampNeg
  · subst hq
    simp [updV, va_up, va_rf]
  · simp [updV, va_up, hq]
theorem pI_new {G : PG} {s : State} {h : PH} {H H1 : Heap} {locs : List Loc} {x : PE} (hs : G.2.2.1 ≤ s.heap.size) (hI : pI G s h H locs) (z : H1.size = H.size + 1) (oq : ∀ q : Nat, q < H.size → H1[q]? = H[q]?) (he : va_at G.1 vwCl (G.2.2.1 + h.length, pe G x) H1) : pI G s (h ++ [x]) H1 locs := by
  refine ⟨by rw [z, hI.1, List.length_append]; simp; omega, ?_, ⟨Nat.le_trans hI.2.2.1 (by omega), fun q h1 h2 => (oq q (Nat.lt_of_lt_of_le h1 hI.2.2.1)).trans (hI.2.2.2.1 q h1 h2), hI.2.2.2.2⟩⟩
  rw [pw_push]
  refine (hI.2.1.kept (fun k q hk => oq q.1 ((hI.2.1 k q hk).lt))).app (fun k q hk => ?_)
  cases k with
  | zero => cases hk; exact he
  | succ k => cases hk
theorem r_newi (X : pX p s m args c G nL cc own) {n : Int32} {N : Nat} (hw : Cond.arrayClass .int ∈ lw_ok) (hd : decode cc pc = .ok (.newarray .int, 2)) (hn : ¬ n < 0) (hN : n.toNatClampNeg = N) (hb : N * 4 ≤ 536870912) (hc : cells + 1 ≤ R.cells) (hs : slots + N ≤ R.slots)
    (kk : PW p l e R s m args below meth c G nL Q (cells + 1) (slots + N) (h ++ [eI N (fun _ => 0)]) (pc + 2) ls (vR h.length :: st)) : PW p l e R s m args below meth c G nL Q cells slots h pc ls (vI n :: st) := by
  intro H locs lsA hI hl
  refine va_newaK X.1 X.2.1 (atype := .int) (X.2.2.2.2.1 _ hw) rfl hd rfl hn hN hb hc hs hI.1 fun H1 cA e1 z1 o1 hAr hNm => ?_
  have hA : cA = G.2.1 0 := Option.some.inj (hNm.symm.trans (X.2.2.2.2.2.1.2 0 _ pT0).2)
  subst hA
  exact kk H1 locs lsA (pI_new X.2.2.2.2.2.2.2.2.2.2.2.1 hI (by rw [z1, hI.1]) (fun q hq => o1 q (by rw [← hI.1]; exact hq)) e1) hl
theorem r_newr (X : pX p s m args c G nL cc own) {n : Int32} {N t i : Nat} {C : String} (ht : (pT G)[t]? = some (G.2.1 t, .object C)) (hw : Cond.classLink own i C ∈ lw_ok) (hao : va_AO C s) (hd : decode cc pc = .ok (.anewarray i, 3)) (hn : ¬ n < 0) (hN : n.toNatClampNeg = N) (hb : N * 4 ≤ 536870912) (hc : cells + 1 ≤ R.cells) (hs : slots + N ≤ R.slots)
    (kk : PW p l e R s m args below meth c G nL Q (cells + 1) (slots + N) (h ++ [eR t N (fun _ => none)]) (pc + 3) ls (vR h.length :: st)) : PW p l e R s m args below meth c G nL Q cells slots h pc ls (vI n :: st) := by
  intro H locs lsA hI hl
  subst hN
  refine W.anew X.1 X.2.1 X.2.2.2.1 (X.2.2.2.2.1 _ hw) (va_AO.use hao) rfl hd rfl hn hb hc hs fun cA kA comp f1 f2 f3 f4 => ?_
  obtain ⟨kA', comp', k1, k2, k3, k4⟩ := (X.2.2.2.2.2.1.2 t _ ht).2
  have hA : cA = G.2.1 t := Option.some.inj (f1.symm.trans k4)
  subst hA
  generalize hH1 : H.push ({ cls := G.2.1 t, slots := Array.replicate n.toNatClampNeg .null, vm := .none } : Cell) = H1
  have z1 : H1.size = H.size + 1 := by rw [← hH1, Array.size_push]
  have e1 : H1[H.size]? = some (arrV (G.2.1 t) n.toNatClampNeg (fun _ => .null)) := by rw [← hH1, Array.getElem?_push_size, ← arrV_new]
  have o1 : ∀ q : Nat, q < H.size → H1[q]? = H[q]? := fun q hq => by rw [← hH1, Array.getElem?_push, if_neg (Nat.ne_of_lt hq)]
  have := kk H1 locs lsA (pI_new X.2.2.2.2.2.2.2.2.2.2.2.1 hI z1 o1 (by rw [← hI.1]; exact e1)) hl
  rw [hI.1]
  exact this
def pdef (t : FieldType) : PV := match t with
  | .object _ => vN
  | .array _ => vN
  | _ => vI 0
def pdOK (t : FieldType) : Bool := match t with
  | .long => false
  | .float => false
  | .double => false
  | _ => true
theorem pdef_ok {G : PG} {t : FieldType} (h : pdOK t = true) : defaultValue t = pr G (pdef t) := by
  cases t <;> first | rfl | cases h
def nk (own : String) (i ci N : Nat) (fs : List PV) : Prop := ∃ (C : String) (T : u_T) (ty : Nat → FieldType), ckOK ci C T N ty ∧ Cond.classLink own i C ∈ lw_ok ∧ Cond.instantiable C N ∈ lw_ok ∧ Cond.initialized C ∈ lw_ok ∧ (∀ j, j < N → pdOK (ty j) = true) ∧ fs = (List.range N).map (fun j => pdef (ty j))
theorem r_new (X : pX p s m args c G nL cc own) {i ci N : Nat} {fs : List PV} (K : nk own i ci N fs) (hd : decode cc pc = .ok (.new i, 3)) (hc : cells + 1 ≤ R.cells) (hs : slots + N ≤ R.slots)
    (kk : PW p l e R s m args below meth c G nL Q (cells + 1) (slots + N) (h ++ [eO ci fs]) (pc + 3) ls (vR h.length :: st)) : PW p l e R s m args below meth c G nL Q cells slots h pc ls st := by
  intro H locs lsA hI hl
  obtain ⟨C, T, ty, ⟨hci, hin, hty, hnm⟩, w1, w2, w3, hdo, rfl⟩ := K
  have hts := X.2.2.2.2.1
  have hKn := X.2.2.2.2.2.1.1 ci _ hci
  refine W.newcK X.1 X.2.1 X.2.2.2.1 (hts _ w1) (hts _ w2) (hts _ w3) rfl hd hc hs hKn.2.1 hI.1 fun H1 kC hkC e1 z1 o1 => ?_
  refine kk H1 locs lsA (pI_new X.2.2.2.2.2.2.2.2.2.2.2.1 hI (by rw [z1, hI.1]) (fun q hq => o1 q (by rw [← hI.1]; exact hq)) ?_) hl
  refine ⟨_, hci, (u_born ty hts hin hKn hkC e1 hty).to (fun j hj => ?_)⟩
  rw [pdef_ok (G := G) (hdo j hj)]
  simp [vp_V, hj]
theorem r_obji (X : pX p s m args c G nL cc own) {i a : Nat} (w1 : Cond.methodLink own i objectInit ∈ lw_ok) (w2 : Cond.instanceMethod objectInit ∈ lw_ok) (w3 : Cond.code objectInit ⟨#[0xb1]⟩ 1 none ∈ lw_ok) (hd : decode cc pc = .ok (.invokespecial i, 3)) (hf : 1 ≤ R.frames) (hlo : st.length + 12 ≤ R.locals)
    (kk : PW p l e R s m args below meth c G nL Q cells slots h (pc + 3) ls st) : PW p l e R s m args below meth c G nL Q cells slots h pc ls (vR a :: st) := by
  intro H locs lsA hI hl
  have hts := X.2.2.2.2.1
  exact W.objInit X.1 X.2.1 X.2.2.2.1 (hts _ w1) (hts _ w2) (hts _ w3) rfl (by rw [X.2.2.1]; exact hl.1) rfl hd hf (by rw [pr_sum]; show 2 * 0 + st.length + 12 ≤ R.locals; omega) (kk H locs lsA hI hl)
/-! static arrays -/
theorem r_room (X : pX p s m args c G nL cc own) {i : Nat} {host : String} (hw : Cond.fieldLinkNest own i RX11 "ROOM" "[I" host ∈ pNw) (hd : decode cc pc = .ok (.getstatic i, 3))
    (kk : PW p l e R s m args below meth c G nL Q cells slots h (pc + 3) ls (vS 0 :: st)) : PW p l e R s m args below meth c G nL Q cells slots h pc ls st := by
  intro H locs lsA hI hl
  exact va_getsN X.1 X.2.1 X.2.2.2.2.2.2.2.2.1.1 hI.2.2 X.2.2.2.1 (va_Nw.use rfl (X.2.2.2.2.2.2.1 _ hw)) (fun _ z => z) hd (kk H locs lsA hI hl)
theorem r_pow (X : pX p s m args c G nL cc own) {i : Nat} (hw : Cond.fieldLink own i RX2 "POWERS" "[I" ∈ lw_ok) (hd : decode cc pc = .ok (.getstatic i, 3))
    (kk : PW p l e R s m args below meth c G nL Q cells slots h (pc + 3) ls (vS 1 :: st)) : PW p l e R s m args below meth c G nL Q cells slots h pc ls st := by
  intro H locs lsA hI hl
  exact va_gets X.1 X.2.1 X.2.2.2.2.2.2.2.2.2.1.1 hI.2.2 X.2.2.2.1 (X.2.2.2.2.1 _ hw) (fun _ z => z) hd (kk H locs lsA hI hl)
theorem r_thr (X : pX p s m args c G nL cc own) {i : Nat} (hw : Cond.fieldLink own i RX2 "THREES" "[I" ∈ lw_ok) (hd : decode cc pc = .ok (.getstatic i, 3))
    (kk : PW p l e R s m args below meth c G nL Q cells slots h (pc + 3) ls (vS 2 :: st)) : PW p l e R s m args below meth c G nL Q cells slots h pc ls st := by
  intro H locs lsA hI hl
  exact va_gets X.1 X.2.1 X.2.2.2.2.2.2.2.2.2.2.1.1 hI.2.2 X.2.2.2.1 (X.2.2.2.2.1 _ hw) (fun _ z => z) hd (kk H locs lsA hI hl)
def sN (j : Nat) : Nat := match j with
  | 0 => 9
  | 1 => 9
  | _ => 24
def sF (j : Nat) : Nat → Int32 := match j with
  | 0 => sRoom
  | 1 => sPow
  | _ => sThr
theorem pK_T {G : PG} {s : State} (h : pK G s) {j : Nat} (hj : j < 3) : va_T .int (G.2.2.2 j) (sN j) (fun k => .int (sF j k)) (pF G) s s.heap := by
  rcases (show j = 0 ∨ j = 1 ∨ j = 2 by omega) with rfl | rfl | rfl
  · exact h.2.2.2.1.2
  · exact h.2.2.2.2.1.2
  · exact h.2.2.2.2.2.1.2
theorem r_sald (X : pX p s m args c G nL cc own) {j : Nat} {i : Int32} (hj : j < 3) (hd : decode cc pc = .ok (.iaload, 1)) (hin : vp_in i (sN j))
    (kk : PW p l e R s m args below meth c G nL Q cells slots h (pc + 1) ls (vI (sF j i.toNatClampNeg) :: st)) : PW p l e R s m args below meth c G nL Q cells slots h pc ls (vI i :: vS j :: st) := by
  intro H locs lsA hI hl
  exact va_ti X.1 X.2.1 (pK_T X.2.2.2.2.2 hj) hI.2.2 hin rfl hd (kk H locs lsA hI hl)
theorem r_slen (X : pX p s m args c G nL cc own) {j : Nat} {v : Int32} (hj : j < 3) (hd : decode cc pc = .ok (.arraylength, 1)) (hv : Int32.ofNat (sN j) = v)
    (kk : PW p l e R s m args below meth c G nL Q cells slots h (pc + 1) ls (vI v :: st)) : PW p l e R s m args below meth c G nL Q cells slots h pc ls (vS j :: st) := by
  intro H locs lsA hI hl
  exact va_tlen X.1 X.2.1 (pK_T X.2.2.2.2.2 hj) hI.2.2 hv hd (kk H locs lsA hI hl)
/-! ends -/
theorem r_ret_i {Φ : Option PV → PH → Prop} {mc ms : Nat} (X : pX p s m args c G nL cc own) (hr : meth.sig.returnType = some .int) (hlk : meth.locks = false) {v : Int32} (hd : decode cc pc = .ok (.ireturn, 1)) (hc : cells ≤ mc) (hs : slots ≤ ms) (hΦ : Φ (some (vI v)) h) : PW p l e R s m args below meth c G nL (MQ below (pQ G Φ) args s mc ms (pF G)) cells slots h pc ls [vI v] := by
  intro H locs lsA hI hl
  refine W.widen hc hs ?_
  exact W.iret X.1 X.2.1 hr (fun t ht hW => ⟨⟨some (vI v), h, rfl, hΦ, by rw [ht]; exact hI.1, by rw [ht]; exact hI.2.1⟩, hI.2.2.F ht⟩) hI.2.2.2.2 hd hlk
theorem r_ret_z {Φ : Option PV → PH → Prop} {mc ms : Nat} (X : pX p s m args c G nL cc own) (hr : meth.sig.returnType = some .boolean) (hlk : meth.locks = false) {v : Int32} (hv : v = 0 ∨ v = 1) (hd : decode cc pc = .ok (.ireturn, 1)) (hc : cells ≤ mc) (hs : slots ≤ ms) (hΦ : Φ (some (vI v)) h) : PW p l e R s m args below meth c G nL (MQ below (pQ G Φ) args s mc ms (pF G)) cells slots h pc ls [vI v] := by
  intro H locs lsA hI hl
  refine W.widen hc hs ?_
  exact W.zret X.1 X.2.1 hr (by rcases hv with rfl | rfl <;> decide) (fun t ht hW => ⟨⟨some (vI v), h, rfl, hΦ, by rw [ht]; exact hI.1, by rw [ht]; exact hI.2.1⟩, hI.2.2.F ht⟩) hI.2.2.2.2 hd hlk
theorem r_ret_v {Φ : Option PV → PH → Prop} {mc ms : Nat} (X : pX p s m args c G nL cc own) (hr : meth.sig.returnType = none) (hlk : meth.locks = false) (hd : decode cc pc = .ok (.return_, 1)) (hc : cells ≤ mc) (hs : slots ≤ ms) (hΦ : Φ none h) : PW p l e R s m args below meth c G nL (MQ below (pQ G Φ) args s mc ms (pF G)) cells slots h pc ls [] := by
  intro H locs lsA hI hl
  refine W.widen hc hs ?_
  exact W.vret X.1 X.2.1 hr (fun t ht hW => ⟨⟨none, h, rfl, hΦ, by rw [ht]; exact hI.1, by rw [ht]; exact hI.2.1⟩, hI.2.2.F ht⟩) hI.2.2.2.2 hd hlk
theorem r_ret_a {Φ : Option PV → PH → Prop} {mc ms : Nat} (X : pX p s m args c G nL cc own) {rt : FieldType} (hr : meth.sig.returnType = some rt) (hrt : (∃ n, rt = .object n) ∨ ∃ t, rt = .array t) (hlk : meth.locks = false) {v : Option Nat} (hd : decode cc pc = .ok (.areturn, 1)) (hc : cells ≤ mc) (hs : slots ≤ ms) (hΦ : Φ (some (pO v)) h) : PW p l e R s m args below meth c G nL (MQ below (pQ G Φ) args s mc ms (pF G)) cells slots h pc ls [pO v] := by
  intro H locs lsA hI hl
  refine W.widen hc hs ?_
  exact W.aret X.1 X.2.1 hr hrt (by cases v with | none => exact Or.inl rfl | some k => exact Or.inr ⟨_, rfl⟩) (fun t ht hW => ⟨⟨some (pO v), h, rfl, hΦ, by rw [ht]; exact hI.1, by rw [ht]; exact hI.2.1⟩, hI.2.2.F ht⟩) hI.2.2.2.2 hd hlk
theorem r_eq {h' : PH} {ls' : List (Option PV)} {st' : List PV} (h1 : h = h') (h2 : ls = ls') (h3 : st = st') (k : PW p l e R s m args below meth c G nL Q cells slots h' pc ls' st') : PW p l e R s m args below meth c G nL Q cells slots h pc ls st := by
  subst h1; subst h2; subst h3; exact k
/-! calls -/
def lkB (own : String) (i : Nat) (y : MethodName) (bytes : ByteArray) (maxL : Nat) (ret : Option FieldType) (n : Nat) : Prop := Cond.methodLink own i y ∈ lw_ok ∧ Cond.initialized y.cls ∈ lw_ok ∧ Cond.code y bytes maxL ret ∈ lw_ok ∧ (y.cls ≠ "java/lang/invoke/MethodHandle" ∧ y.cls ≠ "java/lang/invoke/VarHandle" ∧ (parseMethodDescriptor y.desc).map (fun d => d.parameters.length) = some n)
def lkV (own : String) (i : Nat) (y : MethodName) (bytes : ByteArray) (maxL : Nat) (ret : Option FieldType) (n : Nat) : Prop := lkB own i y bytes maxL ret n ∧ Cond.instanceMethod y ∈ lw_ok ∧ Cond.selects y.cls y y ∈ lw_ok
def lkS (own : String) (i : Nat) (y : MethodName) (bytes : ByteArray) (maxL : Nat) (ret : Option FieldType) (n : Nat) : Prop := lkB own i y bytes maxL ret n ∧ Cond.static y ∈ lw_ok
def lkI (own : String) (i : Nat) (y : MethodName) (bytes : ByteArray) (maxL : Nat) (n : Nat) : Prop := lkB own i y bytes maxL none n ∧ y.name = "<init>" ∧ Cond.instanceMethod y ∈ lw_ok
def lkN (own : String) (i : Nat) (y : MethodName) (host : String) (bytes : ByteArray) (maxL : Nat) (ret : Option FieldType) (n : Nat) : Prop := Cond.methodLinkNest own i y host ∈ pNw ∧ Cond.initialized y.cls ∈ lw_ok ∧ Cond.code y bytes maxL ret ∈ lw_ok ∧ (y.cls ≠ "java/lang/invoke/MethodHandle" ∧ y.cls ≠ "java/lang/invoke/VarHandle" ∧ (parseMethodDescriptor y.desc).map (fun d => d.parameters.length) = some n)
theorem pw_after {l' : PH → Prop} {Φ : Option PV → PH → Prop} {mc ms : Nat} {stk : List Value} {rest : List PV} {a : Array Value} {H : Heap} {locs : List Loc} {lsA : Array Slot} (hr : va_Run p l e R s m args below meth c H locs cells slots mc ms (F0 m pc lsA stk) (rest.map (pr G)) (pQ G Φ a) (pF G)) (hI : pI G s h H locs) (hl : lv_has lsA nL (pl G ls))
    (k : ∀ r h', Φ r h' → PW p l e R s m args below meth c G nL Q (cells + mc) (slots + ms) h' (pc + 3) ls (r.toList ++ rest)) : W p l e R s m args below meth c H locs cells slots Q (F0 m pc lsA stk) := by
  intro T hT XX
  obtain ⟨v, st₀, t, T', L, h0, X', hL, e1, e2, ⟨⟨r, h', hv, hΦ, hsz, hP⟩, hz, hk⟩, step⟩ := hr T hT XX
  have hvr : v = r.map (pr G) := by cases hv; rfl
  subst hvr
  rw [h0] at hz hk
  have hS : va_S (pF G) s.heap T'.heap (locs ++ L) := by
    refine ⟨Nat.le_trans hI.2.2.1 (by rw [e1]; exact hz), fun q h1 h2 => ?_, fun q hq => ?_⟩
    · rw [e1, hk q (Nat.lt_of_lt_of_le h1 hI.2.2.1) h2]
      exact hI.2.2.2.1 q h1 h2
    · rcases List.mem_append.mp hq with z | z
      · exact hI.2.2.2.2 q z
      · exact hL q z
  obtain ⟨t2, a1, b1⟩ := k r h' hΦ T'.heap (locs ++ L) lsA ⟨by rw [e1]; exact hsz, by rw [e1]; exact hP, hS⟩ hl T' rfl X'
  refine ⟨t2, step t2 ?_, b1⟩
  have hf : ({ F0 m pc lsA stk with pc := pc + 3, stack := (r.map (pr G)).toList ++ rest.map (pr G) } : JFrame) = F0 m (pc + 3) lsA ((r.toList ++ rest).map (pr G)) := by
    cases r <;> simp
  rw [← hf] at a1
  exact a1
theorem pP_blind {G : PG} {av : List PV} {h : PH} : FrameBlind (pP G av h) := by
  intro a U g mk q
  obtain ⟨q0, q1, q2, q3⟩ := q
  exact ⟨q0, pK_same q1 rfl rfl, q2, q3⟩
theorem pP_at {G : PG} {av : List PV} {s U : State} {h : PH} {H : Heap} {locs : List Loc} (hK : pK G s) (hI : pI G s h H locs) (hU : U.heap = H) (hW : s.WarmedH U.vm) : pP G av h (av.map (pr G)).toArray U :=
  ⟨rfl, pK_to hK hW hI.2.2 hU, by rw [hU]; exact hI.1, by rw [hU]; exact hI.2.1⟩
theorem r_callV (X : pX p s m args c G nL cc own) {i : Nat} {y : MethodName} {bytes : ByteArray} {maxL : Nat} {ret : Option FieldType} {n d mc ms b ci N : Nat} {T : u_T} {fs : List PV} {Φ : Option PV → PH → Prop} {As rest stk : List PV} (K : lkV own i y bytes maxL ret n) (hd : decode cc pc = .ok (.invokevirtual i, 3)) (hs : stk = As.reverse ++ vR b :: rest) (hn : As.length = n) (hh : h[b]? = some (eO ci fs)) (hc : vwCl[ci]? = some (y.cls, T, N)) (hM : PMet l G y bytes maxL ret d mc ms (vR b :: As) h Φ) (hR : d + 1 ≤ R.frames ∧ 8 + (maxL + 11) + 64 * d ≤ R.locals) (hw : rest.length ≤ 8) (hcs : cells + mc ≤ R.cells ∧ slots + ms ≤ R.slots)
    (k : ∀ r h', Φ r h' → PW p l e R s m args below meth c G nL Q (cells + mc) (slots + ms) h' (pc + 3) ls (r.toList ++ rest)) : PW p l e R s m args below meth c G nL Q cells slots h pc ls stk := by
  intro H locs lsA hI hl
  subst hs
  obtain ⟨⟨w1, w2, w3, hy⟩, w4, w5⟩ := K
  have hts := X.2.2.2.2.1
  have cb : CallB R s args own i y bytes maxL ret (.code y bytes maxL ret :: lw_ok) (rmD d mc ms) mc ms n := callB_of n hts (ok_goodIn w3) rfl rfl rfl (hts _ w2) (hts _ w1) hy hR
  refine pw_after (l' := fun _ => True) (rest := rest) (va_runV (Ts := lw_ok) (As := As.map (pr G)) (b := G.2.2.1 + b) ⟨X.1, X.2.1, X.2.2.1, X.2.2.2.1, hts⟩ hM ⟨cb, hts _ w4, hts _ w5⟩ ⟨pP_blind, va_recv X.2.2.2.2.2.1 hI.2.1 hc (pw_get hh), fun U hU hW => pP_at (av := vR b :: As) X.2.2.2.2.2 hI hU hW⟩ rfl (by rw [List.length_map]; exact hn) hl.1 ?_ ?_ hd hcs) hI hl k
  · show List.map (pr G) (As.reverse ++ vR b :: rest) = _
    rw [List.map_append, List.map_reverse]
    rfl
  · rw [pr_sum]
    show 2 * 0 + rest.length ≤ 8
    omega
theorem r_callS (X : pX p s m args c G nL cc own) {i : Nat} {y : MethodName} {bytes : ByteArray} {maxL : Nat} {ret : Option FieldType} {n d mc ms : Nat} {Φ : Option PV → PH → Prop} {As rest stk : List PV} (K : lkS own i y bytes maxL ret n) (hd : decode cc pc = .ok (.invokestatic i, 3)) (hs : stk = As.reverse ++ rest) (hn : As.length = n) (hM : PMet l G y bytes maxL ret d mc ms As h Φ) (hR : d + 1 ≤ R.frames ∧ 8 + (maxL + 11) + 64 * d ≤ R.locals) (hw : rest.length ≤ 8) (hcs : cells + mc ≤ R.cells ∧ slots + ms ≤ R.slots)
    (k : ∀ r h', Φ r h' → PW p l e R s m args below meth c G nL Q (cells + mc) (slots + ms) h' (pc + 3) ls (r.toList ++ rest)) : PW p l e R s m args below meth c G nL Q cells slots h pc ls stk := by
  intro H locs lsA hI hl
  subst hs
  obtain ⟨⟨w1, w2, w3, hy⟩, w4⟩ := K
  have hts := X.2.2.2.2.1
  have cb : CallB R s args own i y bytes maxL ret (.code y bytes maxL ret :: lw_ok) (rmD d mc ms) mc ms n := callB_of n hts (ok_goodIn w3) rfl rfl rfl (hts _ w2) (hts _ w1) hy hR
  refine pw_after (l' := fun _ => True) (rest := rest) (va_runS (Ts := lw_ok) (As := As.map (pr G)) ⟨X.1, X.2.1, X.2.2.1, X.2.2.2.1, hts⟩ hM ⟨cb, hts _ w4⟩ ⟨pP_blind, fun U hU hW => pP_at (av := As) X.2.2.2.2.2 hI hU hW⟩ rfl (by rw [List.length_map]; exact hn) hl.1 ?_ ?_ hd hcs) hI hl k
  · show List.map (pr G) (As.reverse ++ rest) = _
    rw [List.map_append, List.map_reverse]
  · rw [pr_sum]
    show 2 * 0 + rest.length ≤ 8
    omega
theorem r_callI (X : pX p s m args c G nL cc own) {i : Nat} {y : MethodName} {bytes : ByteArray} {maxL : Nat} {n d mc ms b : Nat} {Φ : Option PV → PH → Prop} {As rest stk : List PV} (K : lkI own i y bytes maxL n) (hd : decode cc pc = .ok (.invokespecial i, 3)) (hs : stk = As.reverse ++ vR b :: rest) (hn : As.length = n) (hM : PMet l G y bytes maxL none d mc ms (vR b :: As) h Φ) (hR : d + 1 ≤ R.frames ∧ 8 + (maxL + 11) + 64 * d ≤ R.locals) (hw : rest.length ≤ 8) (hcs : cells + mc ≤ R.cells ∧ slots + ms ≤ R.slots)
    (k : ∀ r h', Φ r h' → PW p l e R s m args below meth c G nL Q (cells + mc) (slots + ms) h' (pc + 3) ls (r.toList ++ rest)) : PW p l e R s m args below meth c G nL Q cells slots h pc ls stk := by
  intro H locs lsA hI hl
  subst hs
  obtain ⟨⟨w1, w2, w3, hy⟩, w4, w5⟩ := K
  have hts := X.2.2.2.2.1
  have cb : CallB R s args own i y bytes maxL none (.code y bytes maxL none :: lw_ok) (rmD d mc ms) mc ms n := callB_of n hts (ok_goodIn w3) rfl rfl rfl (hts _ w2) (hts _ w1) hy hR
  refine pw_after (l' := fun _ => True) (rest := rest) (va_runI (Ts := lw_ok) (As := As.map (pr G)) (b := G.2.2.1 + b) ⟨X.1, X.2.1, X.2.2.1, X.2.2.2.1, hts⟩ hM ⟨cb, w4, hts _ w5⟩ ⟨pP_blind, fun U hU hW => pP_at (av := vR b :: As) X.2.2.2.2.2 hI hU hW⟩ rfl (by rw [List.length_map]; exact hn) hl.1 ?_ ?_ hd hcs) hI hl k
  · show List.map (pr G) (As.reverse ++ vR b :: rest) = _
    rw [List.map_append, List.map_reverse]
    rfl
  · rw [pr_sum]
    show 2 * 0 + rest.length ≤ 8
    omega
theorem r_callIN (X : pX p s m args c G nL cc own) {i : Nat} {y : MethodName} {host : String} {bytes : ByteArray} {maxL : Nat} {n d mc ms b : Nat} {Φ : Option PV → PH → Prop} {As rest stk : List PV} (K : lkN own i y host bytes maxL none n) (hin : y.name = "<init>" ∧ Cond.instanceMethod y ∈ lw_ok) (hd : decode cc pc = .ok (.invokespecial i, 3)) (hs : stk = As.reverse ++ vR b :: rest) (hn : As.length = n) (hM : PMet l G y bytes maxL none d mc ms (vR b :: As) h Φ) (hR : d + 1 ≤ R.frames ∧ 8 + (maxL + 11) + 64 * d ≤ R.locals) (hw : rest.length ≤ 8) (hcs : cells + mc ≤ R.cells ∧ slots + ms ≤ R.slots)
    (k : ∀ r h', Φ r h' → PW p l e R s m args below meth c G nL Q (cells + mc) (slots + ms) h' (pc + 3) ls (r.toList ++ rest)) : PW p l e R s m args below meth c G nL Q cells slots h pc ls stk := by
  intro H locs lsA hI hl
  subst hs
  obtain ⟨w1, w2, w3, hy⟩ := K
  have hts := X.2.2.2.2.1
  have cb : va_CN R s args own i y host bytes maxL none (.code y bytes maxL none :: lw_ok) (rmD d mc ms) mc ms n := va_cnB n hts (ok_goodIn w3) rfl rfl rfl (X.2.2.2.2.2.2.1 _ w1) (hts _ w2) hy hR
  refine pw_after (l' := fun _ => True) (rest := rest) (va_runIN (Ts := lw_ok) (As := As.map (pr G)) (b := G.2.2.1 + b) ⟨X.1, X.2.1, X.2.2.1, X.2.2.2.1, hts⟩ hM ⟨cb, hin.1, hts _ hin.2⟩ ⟨pP_blind, fun U hU hW => pP_at (av := vR b :: As) X.2.2.2.2.2 hI hU hW⟩ rfl (by rw [List.length_map]; exact hn) hl.1 ?_ ?_ hd hcs) hI hl k
  · show List.map (pr G) (As.reverse ++ vR b :: rest) = _
    rw [List.map_append, List.map_reverse]
    rfl
  · rw [pr_sum]
    show 2 * 0 + rest.length ≤ 8
    omega
theorem r_callSN (X : pX p s m args c G nL cc own) {i : Nat} {y : MethodName} {host : String} {bytes : ByteArray} {maxL : Nat} {ret : Option FieldType} {n d mc ms : Nat} {Φ : Option PV → PH → Prop} {As rest stk : List PV} (K : lkN own i y host bytes maxL ret n) (hst : Cond.static y ∈ lw_ok) (hd : decode cc pc = .ok (.invokestatic i, 3)) (hs : stk = As.reverse ++ rest) (hn : As.length = n) (hM : PMet l G y bytes maxL ret d mc ms As h Φ) (hR : d + 1 ≤ R.frames ∧ 8 + (maxL + 11) + 64 * d ≤ R.locals) (hw : rest.length ≤ 8) (hcs : cells + mc ≤ R.cells ∧ slots + ms ≤ R.slots)
    (k : ∀ r h', Φ r h' → PW p l e R s m args below meth c G nL Q (cells + mc) (slots + ms) h' (pc + 3) ls (r.toList ++ rest)) : PW p l e R s m args below meth c G nL Q cells slots h pc ls stk := by
  intro H locs lsA hI hl
  subst hs
  obtain ⟨w1, w2, w3, hy⟩ := K
  have hts := X.2.2.2.2.1
  have cb : va_CN R s args own i y host bytes maxL ret (.code y bytes maxL ret :: lw_ok) (rmD d mc ms) mc ms n := va_cnB n hts (ok_goodIn w3) rfl rfl rfl (X.2.2.2.2.2.2.1 _ w1) (hts _ w2) hy hR
  refine pw_after (l' := fun _ => True) (rest := rest) (va_runSN (Ts := lw_ok) (As := As.map (pr G)) ⟨X.1, X.2.1, X.2.2.1, X.2.2.2.1, hts⟩ hM ⟨cb, hts _ hst, trivial⟩ ⟨pP_blind, fun U hU hW => pP_at (av := As) X.2.2.2.2.2 hI hU hW⟩ rfl (by rw [List.length_map]; exact hn) hl.1 ?_ ?_ hd hcs) hI hl k
  · show List.map (pr G) (As.reverse ++ rest) = _
    rw [List.map_append, List.map_reverse]
  · rw [pr_sum]
    show 2 * 0 + rest.length ≤ 8
    omega
end Rows
