/-! THE JUDGEMENT: all that a walk carries of the machine, in one word. X: the launch, the tables' numbers, the class numbers of the arrays, the addresses outside, the first new address, the script. -/
abbrev jX : Type := Launch × va_G × (Nat → ClassId) × (Nat → Nat) × Nat × (Nat × Nat × (Nat → Int32))
abbrev jl (X : jX) : Launch := X.1
abbrev jD (X : jX) : va_G := X.2.1
abbrev jcA (X : jX) : Nat → ClassId := X.2.2.1
abbrev jx (X : jX) : Nat → Nat := X.2.2.2.1
abbrev jSZ (X : jX) : Nat := X.2.2.2.2.1
abbrev jb (X : jX) : Nat := X.2.2.2.2.2.1
abbrev jL (X : jX) : Nat := X.2.2.2.2.2.2.1
abbrev jxs (X : jX) : Nat → Int32 := X.2.2.2.2.2.2.2
def jA (X : jX) : Nat → Prop := fun q => jSZ X ≤ q
def jT (X : jX) : List (ClassId × FieldType) := [(jcA X 0, .int), (jcA X 1, .boolean), (jcA X 2, .object RX1), (jcA X 3, .object RX0)]
/-- the words of the tables that hold in every frame -/
def TW : List Cond := lw_tbl.filter goodWord
theorem inTW {w : Cond} (i : Nat) (h : lw_tbl[i]? = some w) (g : goodWord w = true) : w ∈ TW := List.mem_filter.mpr ⟨List.mem_of_getElem? h, g⟩
theorem inTWs (ws : List Cond) (ps : List Nat) (hp : ws = ps.filterMap (fun i => lw_tbl[i]?)) (h : ws.all goodWord = true) : ∀ w ∈ ws, w ∈ TW := by
  intro w hw
  have h1 := List.all_eq_true.mp h w hw
  rw [hp] at hw
  obtain ⟨i, -, hi⟩ := List.mem_filterMap.mp hw
  exact inTW i hi h1
theorem goodTW {ws : List Cond} (h : ∀ w ∈ ws, w ∈ TW) : GoodIn TW ws := fun w hw => ⟨h w hw, good_of_word (List.mem_filter.mp (h w hw)).2⟩
/-- the words of nest mates, carried beside -/
def jNest : List Cond := [.fieldLinkNest RX0 9 RX5 "FIRST_SETTINGS" "[I" RX5, .fieldLinkNest RX0 107 RX5 "LOWEST_SETTINGS" "[I" RX5, .fieldLinkNest RX0 110 RX5 "HIGHEST_SETTINGS" "[I" RX5, .methodLinkNest RX0 29 yX1_init RX5, .methodLinkNest RX0 103 yX5_isIn RX5, .methodLinkNest RX0 117 yX5_isSlot RX5, .methodLinkNest RX4 28 yX5_isIn RX5]
def jStat (X : jX) : List (String × String × String × Value) := [(RX5, "FIRST_SETTINGS", "[I", .ref (jx X 0)), (RX5, "LOWEST_SETTINGS", "[I", .ref (jx X 1)), (RX5, "HIGHEST_SETTINGS", "[I", .ref (jx X 2)), ("java/lang/String", "COMPACT_STRINGS", "Z", .int 1)]
def jArr (X : jX) : List (Nat × List Int32) := [(jx X 1, [0, 1, 1, 1, 10]), (jx X 2, [1, 50, 9, 9, 300])]
/-- the first settings, whole: they are cloned -/
def jF (X : jX) (U : State) (H : Heap) : Prop := ∃ cell : Cell, H[jx X 0]? = some cell ∧ U.isArrayOf cell .int ∧ cell.vm ≠ .unknown ∧ cell.vm.isStatics = false ∧ cell.slots = #[.int 1, .int 20, .int 3, .int 2, .int 120] ∧ cell.cls = jcA X 0 ∧ ¬ jA X (jx X 0)
theorem jF.moved {X : jX} {u U : State} {H : Heap} (hvm : u.vm.Alike U.vm) (h : jF X u H) : jF X U H := by
  obtain ⟨cell, h1, h2, h3⟩ := h
  exact ⟨cell, h1, State.isArrayOf_alike hvm h2, h3⟩
theorem jF.kept {X : jX} {U : State} {H H1 : Heap} (h : jF X U H) (hq : ∀ a : Nat, a < H.size → ¬ jA X a → H1[a]? = H[a]?) : jF X U H1 := by
  obtain ⟨cell, h1, h2, h3, h4, h5, h6, h7⟩ := h
  exact ⟨cell, by rw [hq _ (Array.getElem?_eq_some_iff.mp h1).1 h7]; exact h1, h2, h3, h4, h5, h6, h7⟩
def jTx : List String := ["#.#", "d@d+#", "d-#", "d", "dd", "#", ""]
def jLen : List Nat := [3, 5, 3, 1, 2, 1, 0]
def jByt : List (List Int32) := [[35, 46, 35], [100, 64, 100, 43, 35], [100, 45, 35], [100], [100, 100], [35], []]
/-- a static that holds a reference or null -/
def jZq (X : jX) (U : State) (H : Heap) : Prop := va_Z "jdk/internal/util/Preconditions" "SIOOBE_FORMATTER" "Ljava/util/function/BiFunction;" .null (jA X) U H ∨ va_Z "jdk/internal/util/Preconditions" "SIOOBE_FORMATTER" "Ljava/util/function/BiFunction;" (.ref (jx X 3)) (jA X) U H
/-- what holds of the machine's tables and of the cells that nobody writes -/
def jE (X : jX) (U : State) (H : Heap) : Prop := (∀ w ∈ jNest, va_Nw w U) ∧ va_K (jD X) vwCl (jT X) U ∧ va_Nw (.castable "[I" "java/lang/Cloneable") U ∧ va_AO RX1 U ∧ va_AO RX0 U
  ∧ (∀ q ∈ jStat X, va_Z q.1 q.2.1 q.2.2.1 q.2.2.2 (jA X) U H) ∧ (∀ q ∈ jArr X, va_T .int q.1 5 (fun j => .int (q.2.getD j 0)) (jA X) U H) ∧ jF X U H ∧ jZq X U H
  ∧ (∀ i, i < 7 → vk_R RX4 (77 + 2 * i) (jTx.getD i "") (jx X (10 + i)) U) ∧ vk_S 7 jLen jByt (fun i => jx X (10 + i)) (fun i => jx X (20 + i)) (jA X) U H ∧ va_X (jb X) (jL X) (jxs X) U H ∧ jb X < jSZ X
theorem jZq.moved {X : jX} {u U : State} {H : Heap} (hvm : u.vm.Alike U.vm) (h : jZq X u H) : jZq X U H := h.imp (fun h => va_Z.moved hvm h) (fun h => va_Z.moved hvm h)
theorem jZq.kept {X : jX} {U : State} {H H1 : Heap} (h : jZq X U H) (hq : ∀ a : Nat, a < H.size → ¬ jA X a → H1[a]? = H[a]?) : jZq X U H1 := h.imp (fun h => h.kept hq) (fun h => h.kept hq)
theorem jNest_warm {s U : State} (hW : s.WarmedH U.vm) (h : ∀ w ∈ jNest, va_Nw w s) : ∀ w ∈ jNest, va_Nw w U := by
  intro w hw
  have h1 := h w hw
  simp only [jNest, List.mem_cons, List.not_mem_nil, or_false] at hw
  rcases hw with rfl | rfl | rfl | rfl | rfl | rfl | rfl
  · exact va_Nw.warmF hW h1
  · exact va_Nw.warmF hW h1
  · exact va_Nw.warmF hW h1
  · exact va_Nw.warmM hW h1
  · exact va_Nw.warmM hW h1
  · exact va_Nw.warmM hW h1
  · exact va_Nw.warmM hW h1
theorem jNest_same {s U : State} (hv : s.vm = U.vm) (h : ∀ w ∈ jNest, va_Nw w s) : ∀ w ∈ jNest, va_Nw w U := by
  intro w hw
  have h1 := h w hw
  simp only [jNest, List.mem_cons, List.not_mem_nil, or_false] at hw
  rcases hw with rfl | rfl | rfl | rfl | rfl | rfl | rfl <;> exact va_Nw.same rfl hv h1
theorem jE.go {X : jX} {s U : State} {H : Heap} {locs : List Loc} (h : jE X s s.heap) (hz : jSZ X ≤ s.heap.size) (hS : va_S (jA X) s.heap H locs) (hU : U.heap = H) (hW : s.WarmedH U.vm) : jE X U U.heap := by
  obtain ⟨h1, h2, h3, h4, h5, h6, h7, hF, h8, h9, h10, h11, h12⟩ := h
  subst hU
  have hal := hW.alike
  refine ⟨jNest_warm hW h1, h2.moved hal, va_Nw.warmC hW h3, h4.moved hal, h5.moved hal, fun q hq => ((h6 q hq).moved hal).kept hS.2.1, fun q hq => ((h7 q hq).moved hal).kept hS.2.1, (hF.moved hal).kept hS.2.1, (h8.moved hal).kept hS.2.1, fun i hi => (h9 i hi).warm hW, (h10.moved hal).kept hS.2.1, (h11.moved hal).kept (hS.2.1 _ (Nat.lt_of_lt_of_le h12 hz) (Nat.not_le.mpr h12)), h12⟩
theorem jE.same {X : jX} {s U : State} (h : jE X s s.heap) (hv : s.vm = U.vm) (hh : s.heap = U.heap) : jE X U U.heap := by
  obtain ⟨h1, h2, h3, h4, h5, h6, h7, hF, h8, h9, h10, h11, h12⟩ := h
  have hal : s.vm.Alike U.vm := by rw [hv]; exact Vm.Alike.refl _
  rw [← hh]
  refine ⟨jNest_same hv h1, h2.moved hal, va_Nw.same rfl hv h3, h4.moved hal, h5.moved hal, fun q hq => (h6 q hq).moved hal, fun q hq => (h7 q hq).moved hal, hF.moved hal, h8.moved hal, fun i hi => vk_R.same hv.symm (h9 i hi), h10.moved hal, h11.moved hal, h12⟩
/-- values over cell numbers, and over addresses -/
def em (ad : Nat → Nat) (v : Value) : Value := match v with
  | .ref n => .ref (ad n)
  | v => v
theorem em_cat (ad : Nat → Nat) (v : Value) : (em ad v).category = v.category := by cases v <;> rfl
def lvm (ad : Nat → Nat) (lv : List (Nat × Value)) : List (Nat × Value) := lv.map (fun q => (q.1, em ad q.2))
def lk : List (Nat × Value) → Nat → Option Value
  | [], _ => none
  | q :: t, i => match Nat.beq q.1 i with
    | true => some q.2
    | false => lk t i
def lvno : List (Nat × Value) → Nat → Bool
  | [], _ => true
  | q :: t, i => match Nat.beq q.1 i, Nat.beq (q.1 + 1) i, Nat.beq q.2.category 2 with
    | false, false, _ => lvno t i
    | false, true, false => lvno t i
    | _, _, _ => false
def stL : List (Nat × Value) → Nat → Value → Option (List (Nat × Value))
  | [], i, v => some [(i, v)]
  | q :: t, i, v => match Nat.beq q.1 i with
    | true => match lvno t i with
      | true => some ((i, v) :: t)
      | false => none
    | false => match Nat.beq (q.1 + 1) i, Nat.beq q.2.category 2 with
      | true, true => none
      | _, _ => match stL t i v with
        | some t' => some (q :: t')
        | none => none
theorem lk_mem {lv : List (Nat × Value)} {i : Nat} {v : Value} (h : lk lv i = some v) : (i, v) ∈ lv := by
  induction lv with
  | nil => cases h
  | cons q t ih =>
    unfold lk at h
    cases hb : Nat.beq q.1 i with
    | true =>
      rw [hb] at h
      have e : q.1 = i := Nat.eq_of_beq_eq_true hb
      have e2 : q.2 = v := Option.some.inj h
      rw [← e, ← e2]
      exact List.mem_cons_self
    | false =>
      rw [hb] at h
      exact List.mem_cons_of_mem _ (ih h)
theorem lk_at {ls : Array Slot} {nL : Nat} {ad : Nat → Nat} {lv : List (Nat × Value)} (h : lv_has ls nL (lvm ad lv)) {i : Nat} {v : Value} (hk : lk lv i = some v) : ls[i]? = some (.val (em ad v)) :=
  h.2.2 (i, em ad v) (List.mem_map.mpr ⟨(i, v), lk_mem hk, rfl⟩)
theorem lvno_ok {ad : Nat → Nat} {t : List (Nat × Value)} {i : Nat} (h : lvno t i = true) : ∀ q ∈ lvm ad t, (!(q.1 == i) && !(q.1 + 1 == i && q.2.category == 2)) = true := by
  induction t with
  | nil => intro q hq; simp [lvm] at hq
  | cons r t ih =>
    intro q hq
    have h0 : lvno t i = true ∧ (!(r.1 == i) && !(r.1 + 1 == i && r.2.category == 2)) = true := by
      unfold lvno at h
      have c1 := fun (a b : Nat) (q : Nat.beq a b = false) => Nat.ne_of_beq_eq_false q
      cases h1 : Nat.beq r.1 i <;> cases h2 : Nat.beq (r.1 + 1) i <;> cases h3 : Nat.beq r.2.category 2 <;> rw [h1, h2, h3] at h <;> first | (exact absurd h Bool.false_ne_true) | (refine ⟨h, ?_⟩; have z1 := c1 _ _ h1; have z2 := c1 _ _ h2; simp [z1, z2]; done) | (refine ⟨h, ?_⟩; have z1 := c1 _ _ h1; have z3 := c1 _ _ h3; simp [z1, z3]; done)
    rcases List.mem_cons.mp hq with e | hq
    · rw [e]
      simp only [em_cat]
      exact h0.2
    · exact ih h0.1 q hq
theorem stL_sub {ad : Nat → Nat} {i : Nat} {v : Value} : ∀ {lv lv' : List (Nat × Value)}, stL lv i v = some lv' → ∀ q ∈ lvm ad lv', q ∈ (i, em ad v) :: (lvm ad lv).filter (fun q => !(q.1 == i) && !(q.1 + 1 == i && q.2.category == 2)) := by
  intro lv
  induction lv with
  | nil =>
    intro lv' h q hq
    have e : [(i, v)] = lv' := Option.some.inj h
    rw [← e] at hq
    simpa [lvm] using hq
  | cons r t ih =>
    intro lv' h q hq
    unfold stL at h
    cases h1 : Nat.beq r.1 i with
    | true =>
      simp only [h1] at h
      cases h2 : lvno t i with
      | false => simp only [h2] at h; cases h
      | true =>
        simp only [h2] at h
        have e := Option.some.inj h
        rw [← e] at hq
        rcases List.mem_cons.mp hq with e2 | hq
        · rw [e2]; exact List.mem_cons_self
        · exact List.mem_cons_of_mem _ (List.mem_filter.mpr ⟨List.mem_cons_of_mem _ hq, lvno_ok h2 q hq⟩)
    | false =>
      simp only [h1] at h
      have key : (!(r.1 == i) && !(r.1 + 1 == i && r.2.category == 2)) = true ∧ ∃ t', stL t i v = some t' ∧ lv' = r :: t' := by
        cases h2 : Nat.beq (r.1 + 1) i <;> cases h3 : Nat.beq r.2.category 2 <;> simp only [h2, h3] at h
        · cases h4 : stL t i v with
          | none => rw [h4] at h; cases h
          | some t' => rw [h4] at h; exact ⟨by have z1 := Nat.ne_of_beq_eq_false h1; first | (have z2 := Nat.ne_of_beq_eq_false h2; simp [z1, z2]; done) | (have z3 := Nat.ne_of_beq_eq_false h3; simp [z1, z3]; done), t', rfl, (Option.some.inj h).symm⟩
        · cases h4 : stL t i v with
          | none => rw [h4] at h; cases h
          | some t' => rw [h4] at h; exact ⟨by have z1 := Nat.ne_of_beq_eq_false h1; first | (have z2 := Nat.ne_of_beq_eq_false h2; simp [z1, z2]; done) | (have z3 := Nat.ne_of_beq_eq_false h3; simp [z1, z3]; done), t', rfl, (Option.some.inj h).symm⟩
        · cases h4 : stL t i v with
          | none => rw [h4] at h; cases h
          | some t' => rw [h4] at h; exact ⟨by have z1 := Nat.ne_of_beq_eq_false h1; first | (have z2 := Nat.ne_of_beq_eq_false h2; simp [z1, z2]; done) | (have z3 := Nat.ne_of_beq_eq_false h3; simp [z1, z3]; done), t', rfl, (Option.some.inj h).symm⟩
        · cases h
      obtain ⟨k1, t', k2, k3⟩ := key
      rw [k3] at hq
      rcases List.mem_cons.mp hq with e2 | hq
      · refine List.mem_cons_of_mem _ (List.mem_filter.mpr ⟨?_, ?_⟩)
        · rw [e2]; exact List.mem_cons_self
        · rw [e2]; simp only [em_cat]; exact k1
      · rcases List.mem_cons.mp (ih k2 q hq) with e3 | h5
        · rw [e3]; exact List.mem_cons_self
        · exact List.mem_cons_of_mem _ (List.mem_filter.mpr ⟨List.mem_cons_of_mem _ (List.mem_filter.mp h5).1, (List.mem_filter.mp h5).2⟩)
/-- a store of a value of one slot -/
theorem stL_has {ls : Array Slot} {nL i : Nat} {ad : Nat → Nat} {lv lv' : List (Nat × Value)} {v : Value} (hst : stL lv i v = some lv') (h : lv_has ls nL ((i, em ad v) :: (lvm ad lv).filter (fun q => !(q.1 == i) && !(q.1 + 1 == i && q.2.category == 2)))) : lv_has ls nL (lvm ad lv') := ⟨h.1, h.2.1, fun q hq => h.2.2 q (stL_sub hst q hq)⟩
/-- what a frame knows -/
def jC (X : jX) (own : String) (cc : ByteArray) (nL : Nat) (ret : Option FieldType) (nm : String) (d CR SR : Nat) (p : Program) (R : Room) (s : State) (m : MethodId) (args : Array Value) (meth : Method) (c : Code) : Prop :=
  p.tables.exec = Jvm.exec ∧ c.code = cc ∧ c.maxLocals = nL ∧ meth.sig.returnType = ret ∧ meth.name = nm ∧ s.vm.findClass own = some m.cls ∧ (∀ w ∈ TW, w.before args s = true) ∧ meth.locks = false ∧ d ≤ R.frames ∧ 40 * d ≤ R.locals ∧ CR ≤ R.cells ∧ SR ≤ R.slots ∧ jE X s s.heap ∧ jSZ X ≤ s.heap.size
/-- THE JUDGEMENT: from this place, with these locals, this stack and this world, the machine comes to an end that Q allows -/
def Jg (X : jX) (own : String) (cc : ByteArray) (nL : Nat) (ret : Option FieldType) (nm : String) (d CR SR : Nat) (Q : List Frame → Array Value → State → State → Prop) (ad : Nat → Nat) (cells slots pc : Nat) (lv : List (Nat × Value)) (st : List Value) (ws : va_W) : Prop :=
  ∀ (p : Program) (e : Env) (R : Room) (s : State) (m : MethodId) (args : Array Value) (below : List Frame) (meth : Method) (c : Code) (H : Heap) (locs : List Loc) (ls : Array Slot),
    jC X own cc nL ret nm d CR SR p R s m args meth c → va_P (jD X) vwCl ws H → va_D (jA X) ws → va_S (jA X) s.heap H locs → lv_has ls nL (lvm ad lv) →
    W p (jl X) e R s m args below meth c H locs cells slots (Q below args s) (F0 m pc ls (st.map (em ad)))
section RULES
variable {X : jX} {own : String} {cc : ByteArray} {nL : Nat} {ret : Option FieldType} {nm : String} {d CR SR : Nat} {Q : List Frame → Array Value → State → State → Prop} {ad : Nat → Nat} {cells slots pc : Nat} {lv : List (Nat × Value)} {st : List Value} {ws : va_W}
theorem J_lv {lv' : List (Nat × Value)} (ks : List Nat) (h : lv_pick lv ks = lv') (k : Jg X own cc nL ret nm d CR SR (Q) ad cells slots (pc) (lv') (st) (ws)) : Jg X own cc nL ret nm d CR SR (Q) ad cells slots (pc) (lv) (st) (ws) := by
  intro p e R s m args below meth c H locs ls hC hP hD hS hl
  refine k p e R s m args below meth c H locs ls hC hP hD hS ⟨hl.1, hl.2.1, fun q hq => hl.2.2 q ?_⟩
  rw [← h] at hq
  obtain ⟨r, hr, e⟩ := List.mem_map.mp hq
  obtain ⟨i, -, hi⟩ := List.mem_filterMap.mp hr
  exact List.mem_map.mpr ⟨r, List.mem_of_getElem? hi, e⟩
theorem J_widen {k n : Nat} (h1 : cells ≤ k) (h2 : slots ≤ n) (kk : Jg X own cc nL ret nm d CR SR (Q) ad k n (pc) (lv) (st) (ws)) : Jg X own cc nL ret nm d CR SR (Q) ad cells slots (pc) (lv) (st) (ws) := by
  intro p e R s m args below meth c H locs ls hC hP hD hS hl
  exact W.widen h1 h2 (kk p e R s m args below meth c H locs ls hC hP hD hS hl)
theorem J_iconst {n : Int} {v : Int32} (hdg : decode cc pc = .ok (.iconst n, 1)) (hv : Int32.ofInt n = v) (k : Jg X own cc nL ret nm d CR SR (Q) ad cells slots (pc + 1) (lv) (.int v :: st) (ws)) : Jg X own cc nL ret nm d CR SR (Q) ad cells slots (pc) (lv) (st) (ws) := by
  intro p e R s m args below meth c H locs ls hC hP hD hS hl
  exact lv_iconst hC.1 hC.2.1 hdg hv (k p e R s m args below meth c H locs ls hC hP hD hS hl)
theorem J_bipush {n : Int} {v : Int32} (hdg : decode cc pc = .ok (.bipush n, 2)) (hv : (Int8.ofInt n).toInt32 = v) (k : Jg X own cc nL ret nm d CR SR (Q) ad cells slots (pc + 2) (lv) (.int v :: st) (ws)) : Jg X own cc nL ret nm d CR SR (Q) ad cells slots (pc) (lv) (st) (ws) := by
  intro p e R s m args below meth c H locs ls hC hP hD hS hl
  exact lv_bipush hC.1 hC.2.1 hdg hv (k p e R s m args below meth c H locs ls hC hP hD hS hl)
theorem J_sipush {n : Int} {v : Int32} (hdg : decode cc pc = .ok (.sipush n, 3)) (hv : (Int16.ofInt n).toInt32 = v) (k : Jg X own cc nL ret nm d CR SR (Q) ad cells slots (pc + 3) (lv) (.int v :: st) (ws)) : Jg X own cc nL ret nm d CR SR (Q) ad cells slots (pc) (lv) (st) (ws) := by
  intro p e R s m args below meth c H locs ls hC hP hD hS hl
  exact lv_sipush hC.1 hC.2.1 hdg hv (k p e R s m args below meth c H locs ls hC hP hD hS hl)
theorem J_lconst {n : Fin 2} {v : Int64} (hdg : decode cc pc = .ok (.lconst n, 1)) (hv : Int64.ofNat (n : Nat) = v) (k : Jg X own cc nL ret nm d CR SR (Q) ad cells slots (pc + 1) (lv) (.long v :: st) (ws)) : Jg X own cc nL ret nm d CR SR (Q) ad cells slots (pc) (lv) (st) (ws) := by
  intro p e R s m args below meth c H locs ls hC hP hD hS hl
  exact lv_lconst hC.1 hC.2.1 hdg hv (k p e R s m args below meth c H locs ls hC hP hD hS hl)
theorem J_null  (hdg : decode cc pc = .ok (.aconst_null, 1))  (k : Jg X own cc nL ret nm d CR SR (Q) ad cells slots (pc + 1) (lv) (.null :: st) (ws)) : Jg X own cc nL ret nm d CR SR (Q) ad cells slots (pc) (lv) (st) (ws) := by
  intro p e R s m args below meth c H locs ls hC hP hD hS hl
  exact lv_null hC.1 hC.2.1 hdg  (k p e R s m args below meth c H locs ls hC hP hD hS hl)
theorem J_iload_n {k0 : Fin 4} {i : Nat} {x : Int32} (hdg : decode cc pc = .ok (.iload_n k0, 1)) (hi : (k0 : Nat) = i) (hk : lk lv i = some (.int x)) (k : Jg X own cc nL ret nm d CR SR (Q) ad cells slots (pc + 1) (lv) (.int x :: st) (ws)) : Jg X own cc nL ret nm d CR SR (Q) ad cells slots (pc) (lv) (st) (ws) := by
  intro p e R s m args below meth c H locs ls hC hP hD hS hl
  exact lv_iload_n hC.1 hC.2.1 hdg hi (lk_at hl hk) (k p e R s m args below meth c H locs ls hC hP hD hS hl)
theorem J_iload {i : Nat} {x : Int32} (hdg : decode cc pc = .ok (.iload i, 2)) (hk : lk lv i = some (.int x)) (k : Jg X own cc nL ret nm d CR SR (Q) ad cells slots (pc + 2) (lv) (.int x :: st) (ws)) : Jg X own cc nL ret nm d CR SR (Q) ad cells slots (pc) (lv) (st) (ws) := by
  intro p e R s m args below meth c H locs ls hC hP hD hS hl
  exact lv_iload hC.1 hC.2.1 hdg (lk_at hl hk) (k p e R s m args below meth c H locs ls hC hP hD hS hl)
theorem J_lload_n {k0 : Fin 4} {i : Nat} {x : Int64} (hdg : decode cc pc = .ok (.lload_n k0, 1)) (hi : (k0 : Nat) = i) (hk : lk lv i = some (.long x)) (k : Jg X own cc nL ret nm d CR SR (Q) ad cells slots (pc + 1) (lv) (.long x :: st) (ws)) : Jg X own cc nL ret nm d CR SR (Q) ad cells slots (pc) (lv) (st) (ws) := by
  intro p e R s m args below meth c H locs ls hC hP hD hS hl
  exact lv_lload_n hC.1 hC.2.1 hdg hi (lk_at hl hk) (k p e R s m args below meth c H locs ls hC hP hD hS hl)
theorem J_lload {i : Nat} {x : Int64} (hdg : decode cc pc = .ok (.lload i, 2)) (hk : lk lv i = some (.long x)) (k : Jg X own cc nL ret nm d CR SR (Q) ad cells slots (pc + 2) (lv) (.long x :: st) (ws)) : Jg X own cc nL ret nm d CR SR (Q) ad cells slots (pc) (lv) (st) (ws) := by
  intro p e R s m args below meth c H locs ls hC hP hD hS hl
  exact lv_lload hC.1 hC.2.1 hdg (lk_at hl hk) (k p e R s m args below meth c H locs ls hC hP hD hS hl)
theorem J_aload_n {k0 : Fin 4} {i : Nat} {x : Nat} (hdg : decode cc pc = .ok (.aload_n k0, 1)) (hi : (k0 : Nat) = i) (hk : lk lv i = some (.ref x)) (k : Jg X own cc nL ret nm d CR SR (Q) ad cells slots (pc + 1) (lv) (.ref x :: st) (ws)) : Jg X own cc nL ret nm d CR SR (Q) ad cells slots (pc) (lv) (st) (ws) := by
  intro p e R s m args below meth c H locs ls hC hP hD hS hl
  exact lv_aload_n hC.1 hC.2.1 hdg hi (lk_at hl hk) (k p e R s m args below meth c H locs ls hC hP hD hS hl)
theorem J_aload {i : Nat} {x : Nat} (hdg : decode cc pc = .ok (.aload i, 2)) (hk : lk lv i = some (.ref x)) (k : Jg X own cc nL ret nm d CR SR (Q) ad cells slots (pc + 2) (lv) (.ref x :: st) (ws)) : Jg X own cc nL ret nm d CR SR (Q) ad cells slots (pc) (lv) (st) (ws) := by
  intro p e R s m args below meth c H locs ls hC hP hD hS hl
  exact lv_aload hC.1 hC.2.1 hdg (lk_at hl hk) (k p e R s m args below meth c H locs ls hC hP hD hS hl)
theorem J_aload_nN {k0 : Fin 4} {i : Nat} (hdg : decode cc pc = .ok (.aload_n k0, 1)) (hi : (k0 : Nat) = i) (hk : lk lv i = some .null) (k : Jg X own cc nL ret nm d CR SR (Q) ad cells slots (pc + 1) (lv) (.null :: st) (ws)) : Jg X own cc nL ret nm d CR SR (Q) ad cells slots (pc) (lv) (st) (ws) := by
  intro p e R s m args below meth c H locs ls hC hP hD hS hl
  exact lv_aload_nN hC.1 hC.2.1 hdg hi (lk_at hl hk) (k p e R s m args below meth c H locs ls hC hP hD hS hl)
theorem J_aloadN {i : Nat} (hdg : decode cc pc = .ok (.aload i, 2)) (hk : lk lv i = some .null) (k : Jg X own cc nL ret nm d CR SR (Q) ad cells slots (pc + 2) (lv) (.null :: st) (ws)) : Jg X own cc nL ret nm d CR SR (Q) ad cells slots (pc) (lv) (st) (ws) := by
  intro p e R s m args below meth c H locs ls hC hP hD hS hl
  exact lv_aloadN hC.1 hC.2.1 hdg (lk_at hl hk) (k p e R s m args below meth c H locs ls hC hP hD hS hl)
theorem J_iadd {x y : Int32} (hdg : decode cc pc = .ok (.iadd, 1))  (k : Jg X own cc nL ret nm d CR SR (Q) ad cells slots (pc + 1) (lv) (.int (x + y) :: st) (ws)) : Jg X own cc nL ret nm d CR SR (Q) ad cells slots (pc) (lv) (.int y :: .int x :: st) (ws) := by
  intro p e R s m args below meth c H locs ls hC hP hD hS hl
  exact lv_iadd hC.1 hC.2.1 hdg  (k p e R s m args below meth c H locs ls hC hP hD hS hl)
theorem J_isub {x y : Int32} (hdg : decode cc pc = .ok (.isub, 1))  (k : Jg X own cc nL ret nm d CR SR (Q) ad cells slots (pc + 1) (lv) (.int (x - y) :: st) (ws)) : Jg X own cc nL ret nm d CR SR (Q) ad cells slots (pc) (lv) (.int y :: .int x :: st) (ws) := by
  intro p e R s m args below meth c H locs ls hC hP hD hS hl
  exact lv_isub hC.1 hC.2.1 hdg  (k p e R s m args below meth c H locs ls hC hP hD hS hl)
theorem J_imul {x y : Int32} (hdg : decode cc pc = .ok (.imul, 1))  (k : Jg X own cc nL ret nm d CR SR (Q) ad cells slots (pc + 1) (lv) (.int (x * y) :: st) (ws)) : Jg X own cc nL ret nm d CR SR (Q) ad cells slots (pc) (lv) (.int y :: .int x :: st) (ws) := by
  intro p e R s m args below meth c H locs ls hC hP hD hS hl
  exact lv_imul hC.1 hC.2.1 hdg  (k p e R s m args below meth c H locs ls hC hP hD hS hl)
theorem J_iand {x y : Int32} (hdg : decode cc pc = .ok (.iand, 1))  (k : Jg X own cc nL ret nm d CR SR (Q) ad cells slots (pc + 1) (lv) (.int (x &&& y) :: st) (ws)) : Jg X own cc nL ret nm d CR SR (Q) ad cells slots (pc) (lv) (.int y :: .int x :: st) (ws) := by
  intro p e R s m args below meth c H locs ls hC hP hD hS hl
  exact lv_iand hC.1 hC.2.1 hdg  (k p e R s m args below meth c H locs ls hC hP hD hS hl)
theorem J_ior {x y : Int32} (hdg : decode cc pc = .ok (.ior, 1))  (k : Jg X own cc nL ret nm d CR SR (Q) ad cells slots (pc + 1) (lv) (.int (x ||| y) :: st) (ws)) : Jg X own cc nL ret nm d CR SR (Q) ad cells slots (pc) (lv) (.int y :: .int x :: st) (ws) := by
  intro p e R s m args below meth c H locs ls hC hP hD hS hl
  exact lv_ior hC.1 hC.2.1 hdg  (k p e R s m args below meth c H locs ls hC hP hD hS hl)
theorem J_ixor {x y : Int32} (hdg : decode cc pc = .ok (.ixor, 1))  (k : Jg X own cc nL ret nm d CR SR (Q) ad cells slots (pc + 1) (lv) (.int (x ^^^ y) :: st) (ws)) : Jg X own cc nL ret nm d CR SR (Q) ad cells slots (pc) (lv) (.int y :: .int x :: st) (ws) := by
  intro p e R s m args below meth c H locs ls hC hP hD hS hl
  exact lv_ixor hC.1 hC.2.1 hdg  (k p e R s m args below meth c H locs ls hC hP hD hS hl)
theorem J_ishl {x y : Int32} (hdg : decode cc pc = .ok (.ishl, 1))  (k : Jg X own cc nL ret nm d CR SR (Q) ad cells slots (pc + 1) (lv) (.int (x <<< (y &&& 31)) :: st) (ws)) : Jg X own cc nL ret nm d CR SR (Q) ad cells slots (pc) (lv) (.int y :: .int x :: st) (ws) := by
  intro p e R s m args below meth c H locs ls hC hP hD hS hl
  exact lv_ishl hC.1 hC.2.1 hdg  (k p e R s m args below meth c H locs ls hC hP hD hS hl)
theorem J_ishr {x y : Int32} (hdg : decode cc pc = .ok (.ishr, 1))  (k : Jg X own cc nL ret nm d CR SR (Q) ad cells slots (pc + 1) (lv) (.int (x >>> (y &&& 31)) :: st) (ws)) : Jg X own cc nL ret nm d CR SR (Q) ad cells slots (pc) (lv) (.int y :: .int x :: st) (ws) := by
  intro p e R s m args below meth c H locs ls hC hP hD hS hl
  exact lv_ishr hC.1 hC.2.1 hdg  (k p e R s m args below meth c H locs ls hC hP hD hS hl)
theorem J_idiv {x y : Int32} (hdg : decode cc pc = .ok (.idiv, 1)) (hne : ¬ y = 0) (k : Jg X own cc nL ret nm d CR SR (Q) ad cells slots (pc + 1) (lv) (.int (x / y) :: st) (ws)) : Jg X own cc nL ret nm d CR SR (Q) ad cells slots (pc) (lv) (.int y :: .int x :: st) (ws) := by
  intro p e R s m args below meth c H locs ls hC hP hD hS hl
  exact lv_idiv hC.1 hC.2.1 hdg hne (k p e R s m args below meth c H locs ls hC hP hD hS hl)
theorem J_irem {x y : Int32} (hdg : decode cc pc = .ok (.irem, 1)) (hne : ¬ y = 0) (k : Jg X own cc nL ret nm d CR SR (Q) ad cells slots (pc + 1) (lv) (.int (x - x / y * y) :: st) (ws)) : Jg X own cc nL ret nm d CR SR (Q) ad cells slots (pc) (lv) (.int y :: .int x :: st) (ws) := by
  intro p e R s m args below meth c H locs ls hC hP hD hS hl
  exact lv_irem hC.1 hC.2.1 hdg hne (k p e R s m args below meth c H locs ls hC hP hD hS hl)
theorem J_ineg {x : Int32} (hdg : decode cc pc = .ok (.ineg, 1))  (k : Jg X own cc nL ret nm d CR SR (Q) ad cells slots (pc + 1) (lv) (.int (-x) :: st) (ws)) : Jg X own cc nL ret nm d CR SR (Q) ad cells slots (pc) (lv) (.int x :: st) (ws) := by
  intro p e R s m args below meth c H locs ls hC hP hD hS hl
  exact lv_ineg hC.1 hC.2.1 hdg  (k p e R s m args below meth c H locs ls hC hP hD hS hl)
theorem J_land {x y : Int64} (hdg : decode cc pc = .ok (.land, 1))  (k : Jg X own cc nL ret nm d CR SR (Q) ad cells slots (pc + 1) (lv) (.long (x &&& y) :: st) (ws)) : Jg X own cc nL ret nm d CR SR (Q) ad cells slots (pc) (lv) (.long y :: .long x :: st) (ws) := by
  intro p e R s m args below meth c H locs ls hC hP hD hS hl
  exact lv_land hC.1 hC.2.1 hdg  (k p e R s m args below meth c H locs ls hC hP hD hS hl)
theorem J_lor {x y : Int64} (hdg : decode cc pc = .ok (.lor, 1))  (k : Jg X own cc nL ret nm d CR SR (Q) ad cells slots (pc + 1) (lv) (.long (x ||| y) :: st) (ws)) : Jg X own cc nL ret nm d CR SR (Q) ad cells slots (pc) (lv) (.long y :: .long x :: st) (ws) := by
  intro p e R s m args below meth c H locs ls hC hP hD hS hl
  exact lv_lor hC.1 hC.2.1 hdg  (k p e R s m args below meth c H locs ls hC hP hD hS hl)
theorem J_i2l {x : Int32} {v : Int64} (hdg : decode cc pc = .ok (.i2l, 1)) (hv : x.toInt64 = v) (k : Jg X own cc nL ret nm d CR SR (Q) ad cells slots (pc + 1) (lv) (.long v :: st) (ws)) : Jg X own cc nL ret nm d CR SR (Q) ad cells slots (pc) (lv) (.int x :: st) (ws) := by
  intro p e R s m args below meth c H locs ls hC hP hD hS hl
  exact lv_i2l hC.1 hC.2.1 hdg hv (k p e R s m args below meth c H locs ls hC hP hD hS hl)
theorem J_l2i {x : Int64} {v : Int32} (hdg : decode cc pc = .ok (.l2i, 1)) (hv : x.toInt32 = v) (k : Jg X own cc nL ret nm d CR SR (Q) ad cells slots (pc + 1) (lv) (.int v :: st) (ws)) : Jg X own cc nL ret nm d CR SR (Q) ad cells slots (pc) (lv) (.long x :: st) (ws) := by
  intro p e R s m args below meth c H locs ls hC hP hD hS hl
  exact lv_l2i hC.1 hC.2.1 hdg hv (k p e R s m args below meth c H locs ls hC hP hD hS hl)
theorem J_i2c {x v : Int32} (hdg : decode cc pc = .ok (.i2c, 1)) (hv : (x.toUInt32 % 65536).toInt32 = v) (k : Jg X own cc nL ret nm d CR SR (Q) ad cells slots (pc + 1) (lv) (.int v :: st) (ws)) : Jg X own cc nL ret nm d CR SR (Q) ad cells slots (pc) (lv) (.int x :: st) (ws) := by
  intro p e R s m args below meth c H locs ls hC hP hD hS hl
  exact lv_i2c hC.1 hC.2.1 hdg hv (k p e R s m args below meth c H locs ls hC hP hD hS hl)
theorem J_lushr {x v : Int64} {y : Int32} (hdg : decode cc pc = .ok (.lushr, 1)) (hv : (x.toUInt64 >>> (y.toInt64.toUInt64 &&& Int64.toUInt64 63)).toInt64 = v) (k : Jg X own cc nL ret nm d CR SR (Q) ad cells slots (pc + 1) (lv) (.long v :: st) (ws)) : Jg X own cc nL ret nm d CR SR (Q) ad cells slots (pc) (lv) (.int y :: .long x :: st) (ws) := by
  intro p e R s m args below meth c H locs ls hC hP hD hS hl
  exact lv_lushr hC.1 hC.2.1 hdg hv (k p e R s m args below meth c H locs ls hC hP hD hS hl)
theorem J_lshl {x v : Int64} {y : Int32} (hdg : decode cc pc = .ok (.lshl, 1)) (hv : x <<< (y.toInt64 &&& 63) = v) (k : Jg X own cc nL ret nm d CR SR (Q) ad cells slots (pc + 1) (lv) (.long v :: st) (ws)) : Jg X own cc nL ret nm d CR SR (Q) ad cells slots (pc) (lv) (.int y :: .long x :: st) (ws) := by
  intro p e R s m args below meth c H locs ls hC hP hD hS hl
  exact lv_lshl hC.1 hC.2.1 hdg hv (k p e R s m args below meth c H locs ls hC hP hD hS hl)
theorem J_lshr {x v : Int64} {y : Int32} (hdg : decode cc pc = .ok (.lshr, 1)) (hv : x >>> (y.toInt64 &&& 63) = v) (k : Jg X own cc nL ret nm d CR SR (Q) ad cells slots (pc + 1) (lv) (.long v :: st) (ws)) : Jg X own cc nL ret nm d CR SR (Q) ad cells slots (pc) (lv) (.int y :: .long x :: st) (ws) := by
  intro p e R s m args below meth c H locs ls hC hP hD hS hl
  exact lv_lshr hC.1 hC.2.1 hdg hv (k p e R s m args below meth c H locs ls hC hP hD hS hl)
theorem J_lcmp {x y : Int64} (hdg : decode cc pc = .ok (.lcmp, 1))  (k : Jg X own cc nL ret nm d CR SR (Q) ad cells slots (pc + 1) (lv) (.int (lg_cmp x y) :: st) (ws)) : Jg X own cc nL ret nm d CR SR (Q) ad cells slots (pc) (lv) (.long y :: .long x :: st) (ws) := by
  intro p e R s m args below meth c H locs ls hC hP hD hS hl
  exact W.lcmp hC.1 hC.2.1 hdg  (k p e R s m args below meth c H locs ls hC hP hD hS hl)
theorem J_dup {v : Value} (hdg : decode cc pc = .ok (.dup, 1)) (hv : v.category = 1) (k : Jg X own cc nL ret nm d CR SR (Q) ad cells slots (pc + 1) (lv) (v :: v :: st) (ws)) : Jg X own cc nL ret nm d CR SR (Q) ad cells slots (pc) (lv) (v :: st) (ws) := by
  intro p e R s m args below meth c H locs ls hC hP hD hS hl
  exact lv_dup hC.1 hC.2.1 hdg (by rw [em_cat]; exact hv) (k p e R s m args below meth c H locs ls hC hP hD hS hl)
theorem J_pop {v : Value} (hdg : decode cc pc = .ok (.pop, 1)) (hv : v.category = 1) (k : Jg X own cc nL ret nm d CR SR (Q) ad cells slots (pc + 1) (lv) (st) (ws)) : Jg X own cc nL ret nm d CR SR (Q) ad cells slots (pc) (lv) (v :: st) (ws) := by
  intro p e R s m args below meth c H locs ls hC hP hD hS hl
  exact lv_pop hC.1 hC.2.1 hdg (by rw [em_cat]; exact hv) (k p e R s m args below meth c H locs ls hC hP hD hS hl)
theorem J_ldc2 {index : Nat} {v : Int64} (hw : Cond.constantLong own index v ∈ TW) (hdg : decode cc pc = .ok (.ldc2_w index, 3)) (k : Jg X own cc nL ret nm d CR SR (Q) ad cells slots (pc + 3) (lv) (.long v :: st) (ws)) : Jg X own cc nL ret nm d CR SR (Q) ad cells slots (pc) (lv) (st) (ws) := by
  intro p e R s m args below meth c H locs ls hC hP hD hS hl
  exact lv_ldc2 hC.1 hC.2.1 hC.2.2.2.2.2.1 (hC.2.2.2.2.2.2.1 _ hw) hdg (k p e R s m args below meth c H locs ls hC hP hD hS hl)
theorem J_istore_n {k0 : Fin 4} {i : Nat} {x : Int32} {lv' : List (Nat × Value)} (hdg : decode cc pc = .ok (.istore_n k0, 1)) (hi : (k0 : Nat) = i) (hn : Nat.blt i nL = true) (hst : stL lv i (.int x) = some lv') (k : Jg X own cc nL ret nm d CR SR (Q) ad cells slots (pc + 1) (lv') (st) (ws)) : Jg X own cc nL ret nm d CR SR (Q) ad cells slots (pc) (lv) (.int x :: st) (ws) := by
  intro p e R s m args below meth c H locs ls hC hP hD hS hl
  exact lv_istore_n hC.1 hC.2.1 hdg hi hl (Nat.le_of_ble_eq_true hn) rfl (fun ls' hl' => k p e R s m args below meth c H locs ls' hC hP hD hS (stL_has hst hl'))
theorem J_istore {i : Nat} {x : Int32} {lv' : List (Nat × Value)} (hdg : decode cc pc = .ok (.istore i, 2)) (hn : Nat.blt i nL = true) (hst : stL lv i (.int x) = some lv') (k : Jg X own cc nL ret nm d CR SR (Q) ad cells slots (pc + 2) (lv') (st) (ws)) : Jg X own cc nL ret nm d CR SR (Q) ad cells slots (pc) (lv) (.int x :: st) (ws) := by
  intro p e R s m args below meth c H locs ls hC hP hD hS hl
  exact lv_istore hC.1 hC.2.1 hdg hl (Nat.le_of_ble_eq_true hn) rfl (fun ls' hl' => k p e R s m args below meth c H locs ls' hC hP hD hS (stL_has hst hl'))
theorem J_astore_n {k0 : Fin 4} {i : Nat} {x : Nat} {lv' : List (Nat × Value)} (hdg : decode cc pc = .ok (.astore_n k0, 1)) (hi : (k0 : Nat) = i) (hn : Nat.blt i nL = true) (hst : stL lv i (.ref x) = some lv') (k : Jg X own cc nL ret nm d CR SR (Q) ad cells slots (pc + 1) (lv') (st) (ws)) : Jg X own cc nL ret nm d CR SR (Q) ad cells slots (pc) (lv) (.ref x :: st) (ws) := by
  intro p e R s m args below meth c H locs ls hC hP hD hS hl
  exact lv_astore_n hC.1 hC.2.1 hdg hi hl (Nat.le_of_ble_eq_true hn) rfl (fun ls' hl' => k p e R s m args below meth c H locs ls' hC hP hD hS (stL_has hst hl'))
theorem J_astore {i : Nat} {x : Nat} {lv' : List (Nat × Value)} (hdg : decode cc pc = .ok (.astore i, 2)) (hn : Nat.blt i nL = true) (hst : stL lv i (.ref x) = some lv') (k : Jg X own cc nL ret nm d CR SR (Q) ad cells slots (pc + 2) (lv') (st) (ws)) : Jg X own cc nL ret nm d CR SR (Q) ad cells slots (pc) (lv) (.ref x :: st) (ws) := by
  intro p e R s m args below meth c H locs ls hC hP hD hS hl
  exact lv_astore hC.1 hC.2.1 hdg hl (Nat.le_of_ble_eq_true hn) rfl (fun ls' hl' => k p e R s m args below meth c H locs ls' hC hP hD hS (stL_has hst hl'))
theorem J_astore_nN {k0 : Fin 4} {i : Nat}  {lv' : List (Nat × Value)} (hdg : decode cc pc = .ok (.astore_n k0, 1)) (hi : (k0 : Nat) = i) (hn : Nat.blt i nL = true) (hst : stL lv i (.null) = some lv') (k : Jg X own cc nL ret nm d CR SR (Q) ad cells slots (pc + 1) (lv') (st) (ws)) : Jg X own cc nL ret nm d CR SR (Q) ad cells slots (pc) (lv) (.null :: st) (ws) := by
  intro p e R s m args below meth c H locs ls hC hP hD hS hl
  exact lv_astore_nN hC.1 hC.2.1 hdg hi hl (Nat.le_of_ble_eq_true hn) rfl (fun ls' hl' => k p e R s m args below meth c H locs ls' hC hP hD hS (stL_has hst hl'))
theorem J_astoreN {i : Nat}  {lv' : List (Nat × Value)} (hdg : decode cc pc = .ok (.astore i, 2)) (hn : Nat.blt i nL = true) (hst : stL lv i (.null) = some lv') (k : Jg X own cc nL ret nm d CR SR (Q) ad cells slots (pc + 2) (lv') (st) (ws)) : Jg X own cc nL ret nm d CR SR (Q) ad cells slots (pc) (lv) (.null :: st) (ws) := by
  intro p e R s m args below meth c H locs ls hC hP hD hS hl
  exact lv_astoreN hC.1 hC.2.1 hdg hl (Nat.le_of_ble_eq_true hn) rfl (fun ls' hl' => k p e R s m args below meth c H locs ls' hC hP hD hS (stL_has hst hl'))
theorem J_iinc {i : Nat} {n : Int} {x v : Int32} {lv' : List (Nat × Value)} (hdg : decode cc pc = .ok (.iinc i n, 3)) (hk : lk lv i = some (.int x)) (hv : x + Int32.ofInt n = v) (hn : Nat.blt i nL = true) (hst : stL lv i (.int v) = some lv') (k : Jg X own cc nL ret nm d CR SR (Q) ad cells slots (pc + 3) (lv') (st) (ws)) : Jg X own cc nL ret nm d CR SR (Q) ad cells slots (pc) (lv) (st) (ws) := by
  intro p e R s m args below meth c H locs ls hC hP hD hS hl
  obtain ⟨j, hj⟩ := List.getElem?_of_mem (List.mem_map.mpr ⟨(i, Value.int x), lk_mem hk, rfl⟩ : (i, em ad (.int x)) ∈ lvm ad lv)
  exact lv_iinc hC.1 hC.2.1 hdg hl hj hv (Nat.le_of_ble_eq_true hn) rfl (fun ls' hl' => k p e R s m args below meth c H locs ls' hC hP hD hS (stL_has hst hl'))
def lvfree : List (Nat × Value) → Nat → Bool
  | [], _ => true
  | q :: t, i => match Nat.beq q.1 i with
    | true => false
    | false => lvfree t i
theorem lvfree_ok {ad : Nat → Nat} {t : List (Nat × Value)} {i : Nat} (h : lvfree t i = true) : ∀ q ∈ lvm ad t, (!(q.1 == i)) = true := by
  induction t with
  | nil => intro q hq; simp [lvm] at hq
  | cons r t ih =>
    intro q hq
    unfold lvfree at h
    cases h1 : Nat.beq r.1 i with
    | true => rw [h1] at h; cases h
    | false =>
      rw [h1] at h
      rcases List.mem_cons.mp hq with e | hq
      · have z1 := Nat.ne_of_beq_eq_false h1
        rw [e]; simp [z1]
      · exact ih h q hq
theorem stL_has2 {ls : Array Slot} {nL i : Nat} {ad : Nat → Nat} {lv lv' : List (Nat × Value)} {v : Value} (hf : lvfree lv (i + 1) = true) (hst : stL lv i v = some lv') (h : lv_has ls nL ((i, em ad v) :: (lvm ad lv).filter (fun q => !(q.1 == i) && (!(q.1 == i + 1) && !(q.1 + 1 == i && q.2.category == 2))))) : lv_has ls nL (lvm ad lv') := by
  refine stL_has hst ⟨h.1, h.2.1, fun q hq => h.2.2 q ?_⟩
  rcases List.mem_cons.mp hq with e | hq
  · rw [e]; exact List.mem_cons_self
  · obtain ⟨h1, h2⟩ := List.mem_filter.mp hq
    refine List.mem_cons_of_mem _ (List.mem_filter.mpr ⟨h1, ?_⟩)
    have h3 := lvfree_ok hf q h1
    simp only [Bool.and_eq_true] at h2 ⊢
    exact ⟨h2.1, h3, h2.2⟩
theorem J_lstore_n {k0 : Fin 4} {i : Nat} {x : Int64} {lv' : List (Nat × Value)} (hdg : decode cc pc = .ok (.lstore_n k0, 1)) (hi : (k0 : Nat) = i) (hn : Nat.blt (i + 1) nL = true) (hf : lvfree lv (i + 1) = true) (hst : stL lv i (.long x) = some lv') (k : Jg X own cc nL ret nm d CR SR (Q) ad cells slots (pc + 1) (lv') (st) (ws)) : Jg X own cc nL ret nm d CR SR (Q) ad cells slots (pc) (lv) (.long x :: st) (ws) := by
  intro p e R s m args below meth c H locs ls hC hP hD hS hl
  exact lv_lstore_n hC.1 hC.2.1 hdg hi hl (Nat.le_of_ble_eq_true hn) rfl (fun ls' hl' => k p e R s m args below meth c H locs ls' hC hP hD hS (stL_has2 hf hst hl'))
theorem J_topi {x : Int32} (k : ∀ y : Int32, y = x → Jg X own cc nL ret nm d CR SR (Q) ad cells slots (pc) (lv) (.int y :: st) (ws)) : Jg X own cc nL ret nm d CR SR (Q) ad cells slots (pc) (lv) (.int x :: st) (ws) := k x rfl
theorem J_topl {x : Int64} (k : ∀ y : Int64, y = x → Jg X own cc nL ret nm d CR SR (Q) ad cells slots (pc) (lv) (.long y :: st) (ws)) : Jg X own cc nL ret nm d CR SR (Q) ad cells slots (pc) (lv) (.long x :: st) (ws) := k x rfl
theorem J_if_eq {x : Int32} {off : Int} {tgt : Nat} (hdg : decode cc pc = .ok (.ifCond .eq off, 3)) (ht : (pc : Int) + off = (tgt : Int)) (kt : x = 0 → Jg X own cc nL ret nm d CR SR (Q) ad cells slots (tgt) (lv) (st) (ws)) (kf : ¬ x = 0 → Jg X own cc nL ret nm d CR SR (Q) ad cells slots (pc + 3) (lv) (st) (ws)) : Jg X own cc nL ret nm d CR SR (Q) ad cells slots (pc) (lv) (.int x :: st) (ws) := by
  intro p e R s m args below meth c H locs ls hC hP hD hS hl
  exact lv_if_eq hC.1 hC.2.1 hdg ht (fun h => kt h p e R s m args below meth c H locs ls hC hP hD hS hl) (fun h => kf h p e R s m args below meth c H locs ls hC hP hD hS hl)
theorem J_icmp_eq {x y : Int32} {off : Int} {tgt : Nat} (hdg : decode cc pc = .ok (.if_icmp .eq off, 3)) (ht : (pc : Int) + off = (tgt : Int)) (kt : x = y → Jg X own cc nL ret nm d CR SR (Q) ad cells slots (tgt) (lv) (st) (ws)) (kf : ¬ x = y → Jg X own cc nL ret nm d CR SR (Q) ad cells slots (pc + 3) (lv) (st) (ws)) : Jg X own cc nL ret nm d CR SR (Q) ad cells slots (pc) (lv) (.int y :: .int x :: st) (ws) := by
  intro p e R s m args below meth c H locs ls hC hP hD hS hl
  exact lv_icmp_eq hC.1 hC.2.1 hdg ht (fun h => kt h p e R s m args below meth c H locs ls hC hP hD hS hl) (fun h => kf h p e R s m args below meth c H locs ls hC hP hD hS hl)
theorem J_if_ne {x : Int32} {off : Int} {tgt : Nat} (hdg : decode cc pc = .ok (.ifCond .ne off, 3)) (ht : (pc : Int) + off = (tgt : Int)) (kt : ¬ x = 0 → Jg X own cc nL ret nm d CR SR (Q) ad cells slots (tgt) (lv) (st) (ws)) (kf : x = 0 → Jg X own cc nL ret nm d CR SR (Q) ad cells slots (pc + 3) (lv) (st) (ws)) : Jg X own cc nL ret nm d CR SR (Q) ad cells slots (pc) (lv) (.int x :: st) (ws) := by
  intro p e R s m args below meth c H locs ls hC hP hD hS hl
  exact lv_if_ne hC.1 hC.2.1 hdg ht (fun h => kt h p e R s m args below meth c H locs ls hC hP hD hS hl) (fun h => kf h p e R s m args below meth c H locs ls hC hP hD hS hl)
theorem J_icmp_ne {x y : Int32} {off : Int} {tgt : Nat} (hdg : decode cc pc = .ok (.if_icmp .ne off, 3)) (ht : (pc : Int) + off = (tgt : Int)) (kt : ¬ x = y → Jg X own cc nL ret nm d CR SR (Q) ad cells slots (tgt) (lv) (st) (ws)) (kf : x = y → Jg X own cc nL ret nm d CR SR (Q) ad cells slots (pc + 3) (lv) (st) (ws)) : Jg X own cc nL ret nm d CR SR (Q) ad cells slots (pc) (lv) (.int y :: .int x :: st) (ws) := by
  intro p e R s m args below meth c H locs ls hC hP hD hS hl
  exact lv_icmp_ne hC.1 hC.2.1 hdg ht (fun h => kt h p e R s m args below meth c H locs ls hC hP hD hS hl) (fun h => kf h p e R s m args below meth c H locs ls hC hP hD hS hl)
theorem J_if_lt {x : Int32} {off : Int} {tgt : Nat} (hdg : decode cc pc = .ok (.ifCond .lt off, 3)) (ht : (pc : Int) + off = (tgt : Int)) (kt : x < 0 → Jg X own cc nL ret nm d CR SR (Q) ad cells slots (tgt) (lv) (st) (ws)) (kf : ¬ x < 0 → Jg X own cc nL ret nm d CR SR (Q) ad cells slots (pc + 3) (lv) (st) (ws)) : Jg X own cc nL ret nm d CR SR (Q) ad cells slots (pc) (lv) (.int x :: st) (ws) := by
  intro p e R s m args below meth c H locs ls hC hP hD hS hl
  exact lv_if_lt hC.1 hC.2.1 hdg ht (fun h => kt h p e R s m args below meth c H locs ls hC hP hD hS hl) (fun h => kf h p e R s m args below meth c H locs ls hC hP hD hS hl)
theorem J_icmp_lt {x y : Int32} {off : Int} {tgt : Nat} (hdg : decode cc pc = .ok (.if_icmp .lt off, 3)) (ht : (pc : Int) + off = (tgt : Int)) (kt : x < y → Jg X own cc nL ret nm d CR SR (Q) ad cells slots (tgt) (lv) (st) (ws)) (kf : ¬ x < y → Jg X own cc nL ret nm d CR SR (Q) ad cells slots (pc + 3) (lv) (st) (ws)) : Jg X own cc nL ret nm d CR SR (Q) ad cells slots (pc) (lv) (.int y :: .int x :: st) (ws) := by
  intro p e R s m args below meth c H locs ls hC hP hD hS hl
  exact lv_icmp_lt hC.1 hC.2.1 hdg ht (fun h => kt h p e R s m args below meth c H locs ls hC hP hD hS hl) (fun h => kf h p e R s m args below meth c H locs ls hC hP hD hS hl)
theorem J_if_ge {x : Int32} {off : Int} {tgt : Nat} (hdg : decode cc pc = .ok (.ifCond .ge off, 3)) (ht : (pc : Int) + off = (tgt : Int)) (kt : 0 ≤ x → Jg X own cc nL ret nm d CR SR (Q) ad cells slots (tgt) (lv) (st) (ws)) (kf : ¬ 0 ≤ x → Jg X own cc nL ret nm d CR SR (Q) ad cells slots (pc + 3) (lv) (st) (ws)) : Jg X own cc nL ret nm d CR SR (Q) ad cells slots (pc) (lv) (.int x :: st) (ws) := by
  intro p e R s m args below meth c H locs ls hC hP hD hS hl
  exact lv_if_ge hC.1 hC.2.1 hdg ht (fun h => kt h p e R s m args below meth c H locs ls hC hP hD hS hl) (fun h => kf h p e R s m args below meth c H locs ls hC hP hD hS hl)
theorem J_icmp_ge {x y : Int32} {off : Int} {tgt : Nat} (hdg : decode cc pc = .ok (.if_icmp .ge off, 3)) (ht : (pc : Int) + off = (tgt : Int)) (kt : y ≤ x → Jg X own cc nL ret nm d CR SR (Q) ad cells slots (tgt) (lv) (st) (ws)) (kf : ¬ y ≤ x → Jg X own cc nL ret nm d CR SR (Q) ad cells slots (pc + 3) (lv) (st) (ws)) : Jg X own cc nL ret nm d CR SR (Q) ad cells slots (pc) (lv) (.int y :: .int x :: st) (ws) := by
  intro p e R s m args below meth c H locs ls hC hP hD hS hl
  exact lv_icmp_ge hC.1 hC.2.1 hdg ht (fun h => kt h p e R s m args below meth c H locs ls hC hP hD hS hl) (fun h => kf h p e R s m args below meth c H locs ls hC hP hD hS hl)
theorem J_if_gt {x : Int32} {off : Int} {tgt : Nat} (hdg : decode cc pc = .ok (.ifCond .gt off, 3)) (ht : (pc : Int) + off = (tgt : Int)) (kt : 0 < x → Jg X own cc nL ret nm d CR SR (Q) ad cells slots (tgt) (lv) (st) (ws)) (kf : ¬ 0 < x → Jg X own cc nL ret nm d CR SR (Q) ad cells slots (pc + 3) (lv) (st) (ws)) : Jg X own cc nL ret nm d CR SR (Q) ad cells slots (pc) (lv) (.int x :: st) (ws) := by
  intro p e R s m args below meth c H locs ls hC hP hD hS hl
  exact lv_if_gt hC.1 hC.2.1 hdg ht (fun h => kt h p e R s m args below meth c H locs ls hC hP hD hS hl) (fun h => kf h p e R s m args below meth c H locs ls hC hP hD hS hl)
theorem J_icmp_gt {x y : Int32} {off : Int} {tgt : Nat} (hdg : decode cc pc = .ok (.if_icmp .gt off, 3)) (ht : (pc : Int) + off = (tgt : Int)) (kt : y < x → Jg X own cc nL ret nm d CR SR (Q) ad cells slots (tgt) (lv) (st) (ws)) (kf : ¬ y < x → Jg X own cc nL ret nm d CR SR (Q) ad cells slots (pc + 3) (lv) (st) (ws)) : Jg X own cc nL ret nm d CR SR (Q) ad cells slots (pc) (lv) (.int y :: .int x :: st) (ws) := by
  intro p e R s m args below meth c H locs ls hC hP hD hS hl
  exact lv_icmp_gt hC.1 hC.2.1 hdg ht (fun h => kt h p e R s m args below meth c H locs ls hC hP hD hS hl) (fun h => kf h p e R s m args below meth c H locs ls hC hP hD hS hl)
theorem J_if_le {x : Int32} {off : Int} {tgt : Nat} (hdg : decode cc pc = .ok (.ifCond .le off, 3)) (ht : (pc : Int) + off = (tgt : Int)) (kt : x ≤ 0 → Jg X own cc nL ret nm d CR SR (Q) ad cells slots (tgt) (lv) (st) (ws)) (kf : ¬ x ≤ 0 → Jg X own cc nL ret nm d CR SR (Q) ad cells slots (pc + 3) (lv) (st) (ws)) : Jg X own cc nL ret nm d CR SR (Q) ad cells slots (pc) (lv) (.int x :: st) (ws) := by
  intro p e R s m args below meth c H locs ls hC hP hD hS hl
  exact lv_if_le hC.1 hC.2.1 hdg ht (fun h => kt h p e R s m args below meth c H locs ls hC hP hD hS hl) (fun h => kf h p e R s m args below meth c H locs ls hC hP hD hS hl)
theorem J_icmp_le {x y : Int32} {off : Int} {tgt : Nat} (hdg : decode cc pc = .ok (.if_icmp .le off, 3)) (ht : (pc : Int) + off = (tgt : Int)) (kt : x ≤ y → Jg X own cc nL ret nm d CR SR (Q) ad cells slots (tgt) (lv) (st) (ws)) (kf : ¬ x ≤ y → Jg X own cc nL ret nm d CR SR (Q) ad cells slots (pc + 3) (lv) (st) (ws)) : Jg X own cc nL ret nm d CR SR (Q) ad cells slots (pc) (lv) (.int y :: .int x :: st) (ws) := by
  intro p e R s m args below meth c H locs ls hC hP hD hS hl
  exact lv_icmp_le hC.1 hC.2.1 hdg ht (fun h => kt h p e R s m args below meth c H locs ls hC hP hD hS hl) (fun h => kf h p e R s m args below meth c H locs ls hC hP hD hS hl)
theorem J_goto {off : Int} {tgt : Nat} (hdg : decode cc pc = .ok (.goto off, 3)) (ht : (pc : Int) + off = (tgt : Int)) (k : Jg X own cc nL ret nm d CR SR (Q) ad cells slots (tgt) (lv) (st) (ws)) : Jg X own cc nL ret nm d CR SR (Q) ad cells slots (pc) (lv) (st) (ws) := by
  intro p e R s m args below meth c H locs ls hC hP hD hS hl
  exact lv_goto hC.1 hC.2.1 hdg ht (k p e R s m args below meth c H locs ls hC hP hD hS hl)
theorem J_ifnonnull {x : Nat} {off : Int} {tgt : Nat} (hdg : decode cc pc = .ok (.ifnonnull off, 3)) (ht : (pc : Int) + off = (tgt : Int)) (k : Jg X own cc nL ret nm d CR SR (Q) ad cells slots (tgt) (lv) (st) (ws)) : Jg X own cc nL ret nm d CR SR (Q) ad cells slots (pc) (lv) (.ref x :: st) (ws) := by
  intro p e R s m args below meth c H locs ls hC hP hD hS hl
  exact lv_ifnonnull hC.1 hC.2.1 hdg ht (k p e R s m args below meth c H locs ls hC hP hD hS hl)
theorem J_ifnonnullN {off : Int} (hdg : decode cc pc = .ok (.ifnonnull off, 3)) (k : Jg X own cc nL ret nm d CR SR (Q) ad cells slots (pc + 3) (lv) (st) (ws)) : Jg X own cc nL ret nm d CR SR (Q) ad cells slots (pc) (lv) (.null :: st) (ws) := by
  intro p e R s m args below meth c H locs ls hC hP hD hS hl
  exact lv_ifnonnullN hC.1 hC.2.1 hdg (k p e R s m args below meth c H locs ls hC hP hD hS hl)
theorem J_ifnull {x : Nat} {off : Int} (hdg : decode cc pc = .ok (.ifnull off, 3)) (k : Jg X own cc nL ret nm d CR SR (Q) ad cells slots (pc + 3) (lv) (st) (ws)) : Jg X own cc nL ret nm d CR SR (Q) ad cells slots (pc) (lv) (.ref x :: st) (ws) := by
  intro p e R s m args below meth c H locs ls hC hP hD hS hl
  exact lv_ifnull hC.1 hC.2.1 hdg (k p e R s m args below meth c H locs ls hC hP hD hS hl)
theorem J_ifnullN {off : Int} {tgt : Nat} (hdg : decode cc pc = .ok (.ifnull off, 3)) (ht : (pc : Int) + off = (tgt : Int)) (k : Jg X own cc nL ret nm d CR SR (Q) ad cells slots (tgt) (lv) (st) (ws)) : Jg X own cc nL ret nm d CR SR (Q) ad cells slots (pc) (lv) (.null :: st) (ws) := by
  intro p e R s m args below meth c H locs ls hC hP hD hS hl
  exact lv_ifnullN hC.1 hC.2.1 hdg ht (k p e R s m args below meth c H locs ls hC hP hD hS hl)
theorem J_tableOut {dflt lo hi : Int} {offs : Array Int} {len : Nat} {x : Int32} {tgt : Nat} (hdg : decode cc pc = .ok (.tableswitch dflt lo hi offs, len)) (h : x.toInt < lo ∨ hi < x.toInt) (ht : (pc : Int) + dflt = (tgt : Int)) (k : Jg X own cc nL ret nm d CR SR (Q) ad cells slots (tgt) (lv) (st) (ws)) : Jg X own cc nL ret nm d CR SR (Q) ad cells slots (pc) (lv) (.int x :: st) (ws) := by
  intro p e R s m args below meth c H locs ls hC hP hD hS hl
  exact lv_tableOut hC.1 hC.2.1 hdg h ht (k p e R s m args below meth c H locs ls hC hP hD hS hl)
theorem J_tableIn {dflt lo hi : Int} {offs : Array Int} {len : Nat} {x : Int32} {off : Int} {tgt : Nat} (hdg : decode cc pc = .ok (.tableswitch dflt lo hi offs, len)) (h1 : ¬ x.toInt < lo) (h2 : ¬ hi < x.toInt) (ho : offs[(x.toInt - lo).toNat]? = some off) (ht : (pc : Int) + off = (tgt : Int)) (k : Jg X own cc nL ret nm d CR SR (Q) ad cells slots (tgt) (lv) (st) (ws)) : Jg X own cc nL ret nm d CR SR (Q) ad cells slots (pc) (lv) (.int x :: st) (ws) := by
  intro p e R s m args below meth c H locs ls hC hP hD hS hl
  exact lv_tableIn hC.1 hC.2.1 hdg h1 h2 ho ht (k p e R s m args below meth c H locs ls hC hP hD hS hl)
theorem J_lookup {dflt : Int} {ps : Array (Int × Int)} {len : Nat} {x : Int32} {off : Int} {tgt : Nat} (hdg : decode cc pc = .ok (.lookupswitch dflt ps, len)) (hp : (ps.toList.zip (ps.toList.drop 1)).all (fun (a, next) => a.1 < next.1) = true) (ho : Op.lookupswitch.offset ps.toList dflt x.toInt = off) (ht : (pc : Int) + off = (tgt : Int)) (k : Jg X own cc nL ret nm d CR SR (Q) ad cells slots (tgt) (lv) (st) (ws)) : Jg X own cc nL ret nm d CR SR (Q) ad cells slots (pc) (lv) (.int x :: st) (ws) := by
  intro p e R s m args below meth c H locs ls hC hP hD hS hl
  exact lv_lookup hC.1 hC.2.1 hdg hp ho ht (k p e R s m args below meth c H locs ls hC hP hD hS hl)
end RULES
