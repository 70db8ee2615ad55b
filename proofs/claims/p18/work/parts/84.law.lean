/-! THE CLAIM OUT OF ONE WALK OF THE LAW'S BODY. Your part is whole_start (and what it stands on); all else here is the same for every law, but numbers. -/
def R_law : String := "PlugPinsLaw"
def lw_P (b : Addr) (xs : List Int32) (args : Array Value) (s : State) : Prop := args = #[.ref b] ∧ s.IntsAt b xs ∧ xs.length ≤ 2048 ∧ (Jvm.Cond.and given_1 narrow_1).before args s = true
def lw_Q (_ : Array Value) (s : State) (o : Outcome) (t : State) : Prop := o = .returned (some (.int 1)) ∧ Framed s o t [] 600000 7302250
def lw_Z (below : List Frame) (a : Array Value) (s : State) : State → Prop := fun t => ∃ o, t.status = .running ∧ Ended t below o ∧ lw_Q a s o t
/-- the law's own end, with 1 on the stack, nothing written that was there before, its room as the claim has it -/
theorem lw_ret {p : Program} {l : Launch} {e : Env} {s : State} {m : MethodId} {below : List Frame} {meth : Method} {c : Code} {b : Nat} (hx : p.tables.exec = Jvm.exec) (hb : c.code = code) (hr : meth.sig.returnType = ret) (hlocks : meth.locks = false) {pc : Nat} {H : Heap} {ls : Array Slot} (hdg : decode code pc = .ok (.ireturn, 1)) : W p l e room_1 s m #[Value.ref b] below meth c H [] 600000 7302250 (lw_Z below #[Value.ref b] s) (F0 m pc ls [.int 1]) := by
  intro T hT X
  obtain ⟨fs, hret, hrun, hended, hW, hframe⟩ := X.leave (v := some (.int 1)) (hlocks := hlocks) (fun h => by rw [hr] at h; cases h)
  have hmeth' : T.vm.method? m = some meth := X.method'
  refine ⟨T.setFrames fs, ?_, .returned (some (.int 1)), hrun, hended, rfl, ⟨_, rfl⟩, hW, hframe⟩
  jvm_step X.here [X.here.top, hx, hb, hdg, hmeth', hr, ret, narrow_b1]
  (try refine ⟨rfl, ?_⟩); (try refine ⟨rfl, ?_⟩)
  first | (intro acts; rw [hret _ acts rfl rfl rfl]) | rw [hret _ _ rfl rfl rfl]
  exact Steps.refl _
/-- what holds at the law's entry: the machine, the code, the tables' words (any of lw_tbl by 'hts w (by decide +kernel)'), the script of L ints xs at the cell b, what the Statement gives of the start (any of its parts by flat_of_before) -/
def lw_At (p : Program) (s : State) (m : MethodId) (meth : Method) (c : Code) (b L : Nat) (xs : Nat → Int32) : Prop :=
  p.tables.exec = Jvm.exec ∧ c.code = code ∧ meth.sig.returnType = ret ∧ c.maxLocals = 4 ∧ s.vm.findClass R_law = some m.cls ∧ (∀ w ∈ lw_tbl, w.before #[Value.ref b] s = true) ∧ va_X b L xs s s.heap ∧ b < s.heap.size ∧ meth.locks = false ∧ (Jvm.Cond.and given_1 narrow_1).before #[Value.ref b] s = true

theorem lw_retR {p : Program} {l : Launch} {e : Env} {s : State} {m : MethodId} {below : List Frame} {meth : Method} {c : Code} {R : Room} {args : Array Value} {cc : ByteArray} (hx : p.tables.exec = Jvm.exec) (hb : c.code = cc) (hr : meth.sig.returnType = ret) (hlocks : meth.locks = false) {pc : Nat} {H : Heap} {ls : Array Slot} (hdg : decode cc pc = .ok (.ireturn, 1)) : W p l e R s m args below meth c H [] 600000 7302250 (lw_Z below args s) (F0 m pc ls [.int 1]) := by
  intro T hT X
  obtain ⟨fs, hret, hrun, hended, hW, hframe⟩ := X.leave (v := some (.int 1)) (hlocks := hlocks) (fun h => by rw [hr] at h; cases h)
  have hmeth' : T.vm.method? m = some meth := X.method'
  refine ⟨T.setFrames fs, ?_, .returned (some (.int 1)), hrun, hended, rfl, ⟨_, rfl⟩, hW, hframe⟩
  jvm_step X.here [X.here.top, hx, hb, hdg, hmeth', hr, ret, narrow_b1]
  (try refine ⟨rfl, ?_⟩); (try refine ⟨rfl, ?_⟩)
  first | (intro acts; rw [hret _ acts rfl rfl rfl]) | rw [hret _ _ rfl rfl rfl]
  exact Steps.refl _

def QLw (X : jX) : List Frame → Array Value → State → State → Prop := fun below args s t => jSZ X = s.heap.size → lw_Z below args s t
theorem J_lawret {X : jX} {own : String} {cc : ByteArray} {nL : Nat} {nm : String} {d CR SR : Nat} {ad : Nat → Nat} {cells slots pc : Nat} {lv : List (Nat × Value)} {ws : va_W} (hdg : decode cc pc = .ok (.ireturn, 1)) (hc1 : Nat.ble cells 600000 = true) (hs1 : Nat.ble slots 7302250 = true) : Jg X own cc nL (some .boolean) nm d CR SR (QLw X) ad cells slots pc lv [.int 1] ws := by
  intro p e R s m args below meth c H locs ls hC hP hD hS hl
  obtain ⟨hx, hb, hml, hr, hnm, hown, hts, hlk, hfr, hlo, hcr, hsr, hE, hz⟩ := id hC
  by_cases hq : jSZ X = s.heap.size
  · refine W.widen (Nat.le_of_ble_eq_true hc1) (Nat.le_of_ble_eq_true hs1) (va_forget (fun q h => ?_) ?_)
    · have h1 : jSZ X ≤ q.base := hS.2.2 q h
      rw [← hq]
      exact h1
    · intro T hT Y
      obtain ⟨t, a1, b1⟩ := lw_retR hx hb hr hlk hdg T hT Y
      exact ⟨t, a1, fun _ => b1⟩
  · intro T hT Y
    exact ⟨_, Steps.refl _, fun h => absurd h hq⟩
theorem adW_had {X : jX} {h0 hh hq pp p1 p2 sv zs m0 m1 m2 m3 m4 m5 : Nat} {A B C D : Nat → Nat} {E : Nat → Nat → Nat} (k : Nat) : adW X h0 hh hq pp p1 p2 sv zs m0 m1 m2 m3 m4 m5 A B C D E (1000 + k) = jx X k := by
  rw [show 1000 + k = (999 + k) + 1 by omega]
  show (if 999 + k < 187 then _ else if 999 + k < 200 then _ else if 999 + k = 998 then _ else jx X (999 + k - 999)) = _
  rw [if_neg (by omega), if_neg (by omega), if_neg (by omega), Nat.add_sub_cancel_left]
theorem J_move {X : jX} {own : String} {cc : ByteArray} {nL : Nat} {ret : Option FieldType} {nm : String} {d CR SR : Nat} {Q : List Frame → Array Value → State → State → Prop} {cells slots pc : Nat} {h0 hh hq pp p1 p2 sv zs m0 m1 m2 m3 m4 m5 : Nat} {A B C D : Nat → Nat} {E : Nat → Nat → Nat}
    (k : Jg X own cc nL ret nm d CR SR Q (adW X h0 hh hq pp p1 p2 sv zs m0 m1 m2 m3 m4 m5 A B C D E) cells slots pc [(0, .ref 999), (1, .ref 0), (2, .ref 195)] [] (WS X (adW X h0 hh hq pp p1 p2 sv zs m0 m1 m2 m3 m4 m5 A B C D E) mem0)) :
    Jg X own cc nL ret nm d CR SR Q (fun n => n) cells slots pc [(0, .ref (jb X)), (1, .ref h0), (2, .ref m0)] [] (ppW X h0 hh hq pp p1 p2 sv zs A B C D E ++ modW X m0 m1 m2 m3 m4 m5) := by
  intro p e R s m args below meth c H locs ls hC hP hD hS hl
  exact k p e R s m args below meth c H locs ls hC (asm_P hP) (asm_D hD) hS hl
theorem in_sc {X : jX} {i : Int32} (hL : jL X = 4) (h : vp_in i 4) : vp_in i (jL X) := by
  rw [hL]
  exact h
set_option maxRecDepth 100000 in
set_option maxHeartbeats 4000000 in
theorem lawHalt {X : jX} {ad : Nat → Nat} {nm : String} {ws : va_W} {lv : List (Nat × Value)} {cells slots : Nat} (hc : Nat.ble cells 600000 = true) (hs : Nat.ble slots 7302250 = true) : Jg X RL cL_law 4 (some .boolean) nm 12 600000 7302250 (QLw X) ad cells slots 829 lv [] ws := by
  refine J_iconst (v := 1) dL_law_829 (by decide) ?_
  exact J_lawret dL_law_830 hc hs

theorem inS {X : jX} {k : Nat} {i : Int32} (h4 : k + 4 ≤ jL X) (hL : jL X ≤ 2048) (j : Nat) (hj : j < 4) (hi : i = nI (k + j)) : vp_in i (jL X) := by
  subst hi
  exact nIin (by omega) (by omega)
theorem nI_sub4 {L k : Nat} (hL : L ≤ 2048) (hk : k ≤ 4096) (h : ¬ nI L - 4 < nI k) : k + 4 ≤ L := by
  rcases Nat.lt_or_ge L 4 with g | g
  · exfalso
    apply h
    have e : nI L - 4 < 0 := (show ∀ L, L < 4 → nI L - 4 < 0 by decide) L g
    rw [Int32.lt_iff_toInt_lt] at e ⊢
    rw [nI_toInt (by omega)]
    have e0 : (0 : Int32).toInt = 0 := rfl
    omega
  · obtain ⟨l, rfl⟩ : ∃ l, L = l + 4 := ⟨L - 4, by omega⟩
    have e : nI (l + 4) - 4 = nI l := by
      rw [← nI_add l 4]
      exact Int32.add_sub_cancel _ _
    rw [e, Int32.lt_iff_toInt_lt, nI_toInt (by omega), nI_toInt (by omega)] at h
    omega
theorem ws_sm {X : jX} {ad : Nat → Nat} {m : Mem} {s : Rw} (h : m 196 = s) : WS X ad m = WS X ad (SM m s) := by rw [← h, SM_self]
theorem ws_rm {X : jX} {ad : Nat → Nat} {m : Mem} {s : Rw} (h : m 196 = s) : WS X ad m = WS X ad (RM m (m 195) s) := by rw [RM_self, ← h, SM_self]
theorem PtFin_int {m m9 : Mem} {s : Rw} {L : Nat} {c : Int64} {v : Option Value} (h : PtFin m s L c v m9) : ∃ b : Int32, v = some (.int b) ∧ PtFin m s L c (some (.int b)) m9 := by
  rcases id h with ⟨-, rfl, -⟩ | ⟨a, -, -, ⟨-, rfl, -⟩ | ⟨-, rfl, -⟩⟩
  · exact ⟨_, rfl, h⟩
  · exact ⟨_, rfl, h⟩
  · exact ⟨_, rfl, h⟩
theorem CCo_int {m m9 : Mem} {s : Rw} {o q L : Nat} {rows srows : Nat → Rw} {P : Nat → Int32} {v : Option Value} (h : CCo m s o q rows srows P L v m9) : ∃ b : Int32, v = some (.int b) ∧ (∀ c, 195 ≤ c → m9 c = m c) ∧ CCo m s o q rows srows P L (some (.int b)) m9 := by
  have h' := id h
  unfold CCo at h
  by_cases g : ftA P L = -6
  · rw [if_pos g] at h
    obtain ⟨rfl, h2, h3⟩ := h
    exact ⟨_, rfl, h2, h'⟩
  · rw [if_neg g] at h
    obtain ⟨rfl, h2, h3⟩ := h
    exact ⟨_, rfl, h2, h'⟩
theorem CoFin_int {m m9 : Mem} {s : Rw} {q L : Nat} {v : Option Value} (h : CoFin m s q L v m9) : ∃ b : Int32, v = some (.int b) ∧ CoFin m s q L (some (.int b)) m9 := by
  have h' := id h
  unfold CoFin at h
  by_cases g : ftA (m 200) L = -6
  · rw [if_pos g] at h
    obtain ⟨rfl, h3⟩ := h
    exact ⟨_, rfl, h'⟩
  · rw [if_neg g] at h
    obtain ⟨rfl, h3⟩ := h
    exact ⟨_, rfl, h'⟩
theorem CUn_int {m m9 : Mem} {o q L : Nat} {rows srows : Nat → Rw} {P : Nat → Int32} {v : Option Value} (h : CUn m o q rows srows P L v m9) : ∃ b : Int32, v = some (.int b) ∧ CUn m o q rows srows P L (some (.int b)) m9 := by
  rcases id h with ⟨h1, ⟨h2, rfl, h3⟩ | ⟨p, h2, rfl, h3⟩⟩
  · exact ⟨_, rfl, h⟩
  · exact ⟨_, rfl, h⟩
theorem CSv_int {m m9 : Mem} {x : Int32} {s : Rw} {o q L : Nat} {rows srows : Nat → Rw} {P : Nat → Int32} {v : Option Value} (h : CSv m x s o q rows srows P L v m9) : ∃ b : Int32, v = some (.int b) ∧ (∀ c, 195 ≤ c → m9 c = m c) ∧ CSv m x s o q rows srows P L (some (.int b)) m9 := by
  rcases id h with ⟨-, rfl, rfl⟩ | ⟨t, -, -, rfl, hk, -⟩
  · exact ⟨_, rfl, fun _ _ => rfl, h⟩
  · exact ⟨_, rfl, hk, h⟩
theorem CRe_int {m m9 : Mem} {x : Int32} {s : Rw} {o q L : Nat} {rows srows : Nat → Rw} {P : Nat → Int32} {v : Option Value} (h : CRe m x s o q rows srows P L v m9) : ∃ b : Int32, v = some (.int b) ∧ (∀ c, 195 ≤ c → m9 c = m c) ∧ CRe m x s o q rows srows P L (some (.int b)) m9 := by
  rcases id h with ⟨-, rfl, rfl⟩ | ⟨t, -, -, ⟨-, rfl, rfl⟩ | ⟨-, rfl, hk, -⟩⟩
  · exact ⟨_, rfl, fun _ _ => rfl, h⟩
  · exact ⟨_, rfl, fun _ _ => rfl, h⟩
  · exact ⟨_, rfl, hk, h⟩
theorem PaFin_hi {m m9 : Mem} {P : Nat → Int32} {L : Nat} {c : Int64} {v : Option Value} (h : PaFin m P L c v m9) : ∀ x, 195 ≤ x → m9 x = m x := by
  rcases h with ⟨-, -, rfl⟩ | ⟨a, -, -, ⟨-, -, -, hx⟩ | ⟨-, -, rfl⟩⟩
  · exact fun _ _ => rfl
  · exact fun x hx2 => hx x (by omega) (by omega)
  · exact fun _ _ => rfl
set_option maxRecDepth 100000 in
set_option maxHeartbeats 4000000 in
theorem lawNext {X : jX} {ad : Nat → Nat} {nm : String} {m : Mem} {k : Nat} (ih : Jg X RL cL_law 4 (some .boolean) nm 12 600000 7302250 (QLw X) ad 201 13353 18 [(0, .ref 999), (1, .ref 0), (2, .ref 195), (3, .int (nI (k + 4)))] [] (WS X ad m)) : Jg X RL cL_law 4 (some .boolean) nm 12 600000 7302250 (QLw X) ad 201 13353 823 [(0, .ref 999), (1, .ref 0), (2, .ref 195), (3, .int (nI k))] [] (WS X ad m) := by
  refine J_iinc (v := _ + 4) dL_law_823 rfl rfl rfl rfl ?_
  refine J_goto (tgt := 18) dL_law_826 (by decide) ?_
  rw [show nI k + 4 = nI (k + 4) from nI_add k 4]
  exact ih

set_option maxRecDepth 100000 in
set_option maxHeartbeats 4000000 in
theorem lawStep {X : jX} {ad : Nat → Nat} {nm : String} {m : Mem} {k : Nat} (hz : ad 999 = jb X) (had : ∀ k, ad (1000 + k) = jx X k) (hL : jL X ≤ 2048) (h4 : k + 4 ≤ jL X) (hS : SimE m) (kN : ∀ m9, SimE m9 → Jg X RL cL_law 4 (some .boolean) nm 12 600000 7302250 (QLw X) ad 201 13353 823 [(0, .ref 999), (1, .ref 0), (2, .ref 195), (3, .int (nI k))] [] (WS X ad m9)) : Jg X RL cL_law 4 (some .boolean) nm 12 600000 7302250 (QLw X) ad 201 13353 26 [(0, .ref 999), (1, .ref 0), (2, .ref 195), (3, .int (nI k))] [] (WS X ad m) := by
  obtain ⟨s, o, q, L, rows, srows, P, hC, hF⟩ := id hS
  have hq7 := hC.2.1.2.1
  have hL80 := hC.2.2.2.1
  obtain ⟨-, hV⟩ := Sh2_n hC.1
  have hn8 := hV.1.1
  have hn := hV.1.2.1
  have hOk := hV.1.2.2.1
  have hOm := hV.1.2.2.2.1
  refine J_aload_n dL_law_26 rfl rfl ?_
  refine J_iload_n dL_law_27 rfl rfl ?_
  refine J_sld hz (inS h4 hL 0 (by decide) rfl) dL_law_28 ?_
  refine J_bipush (v := 31) dL_law_29 (by decide) ?_
  refine J_iand dL_law_31 ?_
  refine J_topi (fun w9 hw9 => ?_)
  by_cases hts : w9.toInt < 0 ∨ 24 < w9.toInt
  · refine J_tableOut (tgt := 823) dL_law_32 hts (by decide) ?_
    first | exact kN _ hZ | exact kN _ hS
  · obtain ⟨k, hk, rfl⟩ := tin (n := 25) (m := 24) rfl hts
    match k, hk with
    | 0, _ =>
      refine J_tableIn (off := 116) (tgt := 148) dL_law_32 (by decide) (by decide) (by decide) (by decide) ?_
      refine J_aload_n dL_law_148 rfl rfl ?_
      refine J_aload_n dL_law_149 rfl rfl ?_
      refine J_iload_n dL_law_150 rfl rfl ?_
      refine J_iconst (v := 1) dL_law_151 (by decide) ?_
      refine J_iadd dL_law_152 ?_
      refine J_sld hz (inS h4 hL 1 (by decide) (nI_add _ 1)) dL_law_153 ?_
      refine J_aload_n dL_law_154 rfl rfl ?_
      refine J_iload_n dL_law_155 rfl rfl ?_
      refine J_iconst (v := 2) dL_law_156 (by decide) ?_
      refine J_iadd dL_law_157 ?_
      refine J_sld hz (inS h4 hL 2 (by decide) (nI_add _ 2)) dL_law_158 ?_
      refine cVg wv_L_13 (c_X5_set hC had) dL_law_159 ob5 rfl rfl (kk := (fun v9 m1 hf => ?_))
      obtain ⟨rfl, hk1, hs1⟩ := hf
      have hF1 := Rf_cls hF hk1
      refine J_pop dL_law_162 rfl ?_
      refine J_aload_n dL_law_163 rfl rfl ?_
      refine J_aload_n dL_law_164 rfl rfl ?_
      refine J_iload_n dL_law_165 rfl rfl ?_
      refine J_iconst (v := 1) dL_law_166 (by decide) ?_
      refine J_iadd dL_law_167 ?_
      refine J_sld hz (inS h4 hL 1 (by decide) (nI_add _ 1)) dL_law_168 ?_
      refine J_aload_n dL_law_169 rfl rfl ?_
      refine J_iload_n dL_law_170 rfl rfl ?_
      refine J_iconst (v := 2) dL_law_171 (by decide) ?_
      refine J_iadd dL_law_172 ?_
      refine J_sld hz (inS h4 hL 2 (by decide) (nI_add _ 2)) dL_law_173 ?_
      rw [ws_sm hF1.1]
      refine cVg wv_L_17 (c_X6_set  hF1.2.2.1 hq7) dL_law_174 ob6 rfl rfl (kk := (fun v8 m9 hf2 => ?_))
      obtain ⟨rfl, hf2⟩ := hf2
      have hZ := sim_change hF hq7 ⟨rfl, hk1, hs1⟩ ⟨rfl, hf2⟩
      refine J_pop dL_law_177 rfl ?_
      refine J_goto (tgt := 823) dL_law_178 (by decide) ?_
      first | exact kN _ hZ | exact kN _ hS
    | 1, _ =>
      refine J_tableIn (off := 149) (tgt := 181) dL_law_32 (by decide) (by decide) (by decide) (by decide) ?_
      refine J_aload_n dL_law_181 rfl rfl ?_
      refine J_aload_n dL_law_182 rfl rfl ?_
      refine J_iload_n dL_law_183 rfl rfl ?_
      refine J_iconst (v := 1) dL_law_184 (by decide) ?_
      refine J_iadd dL_law_185 ?_
      refine J_sld hz (inS h4 hL 1 (by decide) (nI_add _ 1)) dL_law_186 ?_
      refine J_aload_n dL_law_187 rfl rfl ?_
      refine J_iload_n dL_law_188 rfl rfl ?_
      refine J_iconst (v := 2) dL_law_189 (by decide) ?_
      refine J_iadd dL_law_190 ?_
      refine J_sld hz (inS h4 hL 2 (by decide) (nI_add _ 2)) dL_law_191 ?_
      refine cVg wv_L_18 (c_X5_board hC) dL_law_192 ob5 rfl rfl (kk := (fun v9 m1 hf => ?_))
      obtain ⟨rfl, hk1, hs1⟩ := hf
      have hF1 := Rf_cls hF hk1
      refine J_pop dL_law_195 rfl ?_
      refine J_aload_n dL_law_196 rfl rfl ?_
      refine J_aload_n dL_law_197 rfl rfl ?_
      refine J_iload_n dL_law_198 rfl rfl ?_
      refine J_iconst (v := 1) dL_law_199 (by decide) ?_
      refine J_iadd dL_law_200 ?_
      refine J_sld hz (inS h4 hL 1 (by decide) (nI_add _ 1)) dL_law_201 ?_
      refine J_aload_n dL_law_202 rfl rfl ?_
      refine J_iload_n dL_law_203 rfl rfl ?_
      refine J_iconst (v := 2) dL_law_204 (by decide) ?_
      refine J_iadd dL_law_205 ?_
      refine J_sld hz (inS h4 hL 2 (by decide) (nI_add _ 2)) dL_law_206 ?_
      rw [ws_sm hF1.1]
      refine cVg wv_L_21 (c_X6_board (n := nOf s) (w := wOf s) hn hn8 hF1.2.2.1 hq7) dL_law_207 ob6 rfl rfl (kk := (fun v8 m9 hf2 => ?_))
      obtain ⟨rfl, hf2⟩ := hf2
      have hZ := sim_change hF hq7 ⟨rfl, hk1, hs1⟩ ⟨rfl, hf2⟩
      refine J_pop dL_law_210 rfl ?_
      refine J_goto (tgt := 823) dL_law_211 (by decide) ?_
      first | exact kN _ hZ | exact kN _ hS
    | 2, _ =>
      refine J_tableIn (off := 182) (tgt := 214) dL_law_32 (by decide) (by decide) (by decide) (by decide) ?_
      refine J_aload_n dL_law_214 rfl rfl ?_
      refine J_aload_n dL_law_215 rfl rfl ?_
      refine J_iload_n dL_law_216 rfl rfl ?_
      refine J_iconst (v := 1) dL_law_217 (by decide) ?_
      refine J_iadd dL_law_218 ?_
      refine J_sld hz (inS h4 hL 1 (by decide) (nI_add _ 1)) dL_law_219 ?_
      refine J_aload_n dL_law_220 rfl rfl ?_
      refine J_iload_n dL_law_221 rfl rfl ?_
      refine J_iconst (v := 2) dL_law_222 (by decide) ?_
      refine J_iadd dL_law_223 ?_
      refine J_sld hz (inS h4 hL 2 (by decide) (nI_add _ 2)) dL_law_224 ?_
      refine J_aload_n dL_law_225 rfl rfl ?_
      refine J_iload_n dL_law_226 rfl rfl ?_
      refine J_iconst (v := 3) dL_law_227 (by decide) ?_
      refine J_iadd dL_law_228 ?_
      refine J_sld hz (inS h4 hL 3 (by decide) (nI_add _ 3)) dL_law_229 ?_
      refine cVg wv_L_22 (c_X5_plug hC) dL_law_230 ob5 rfl rfl (kk := (fun v9 m1 hf => ?_))
      obtain ⟨rfl, hk1, hs1⟩ := hf
      have hF1 := Rf_cls hF hk1
      refine J_pop dL_law_233 rfl ?_
      refine J_aload_n dL_law_234 rfl rfl ?_
      refine J_aload_n dL_law_235 rfl rfl ?_
      refine J_iload_n dL_law_236 rfl rfl ?_
      refine J_iconst (v := 1) dL_law_237 (by decide) ?_
      refine J_iadd dL_law_238 ?_
      refine J_sld hz (inS h4 hL 1 (by decide) (nI_add _ 1)) dL_law_239 ?_
      refine J_aload_n dL_law_240 rfl rfl ?_
      refine J_iload_n dL_law_241 rfl rfl ?_
      refine J_iconst (v := 2) dL_law_242 (by decide) ?_
      refine J_iadd dL_law_243 ?_
      refine J_sld hz (inS h4 hL 2 (by decide) (nI_add _ 2)) dL_law_244 ?_
      refine J_aload_n dL_law_245 rfl rfl ?_
      refine J_iload_n dL_law_246 rfl rfl ?_
      refine J_iconst (v := 3) dL_law_247 (by decide) ?_
      refine J_iadd dL_law_248 ?_
      refine J_sld hz (inS h4 hL 3 (by decide) (nI_add _ 3)) dL_law_249 ?_
      rw [ws_sm hF1.1]
      refine cVg wv_L_26 (c_X6_plug (n := nOf s) (w := wOf s) hn hn8 hF1.2.2.1 hq7) dL_law_250 ob6 rfl rfl (kk := (fun v8 m9 hf2 => ?_))
      obtain ⟨rfl, hf2⟩ := hf2
      have hZ := sim_change hF hq7 ⟨rfl, hk1, hs1⟩ ⟨rfl, hf2⟩
      refine J_pop dL_law_253 rfl ?_
      refine J_goto (tgt := 823) dL_law_254 (by decide) ?_
      first | exact kN _ hZ | exact kN _ hS
    | 3, _ =>
      refine J_tableIn (off := 225) (tgt := 257) dL_law_32 (by decide) (by decide) (by decide) (by decide) ?_
      refine J_aload_n dL_law_257 rfl rfl ?_
      refine J_aload_n dL_law_258 rfl rfl ?_
      refine J_iload_n dL_law_259 rfl rfl ?_
      refine J_iconst (v := 1) dL_law_260 (by decide) ?_
      refine J_iadd dL_law_261 ?_
      refine J_sld hz (inS h4 hL 1 (by decide) (nI_add _ 1)) dL_law_262 ?_
      refine J_aload_n dL_law_263 rfl rfl ?_
      refine J_iload_n dL_law_264 rfl rfl ?_
      refine J_iconst (v := 2) dL_law_265 (by decide) ?_
      refine J_iadd dL_law_266 ?_
      refine J_sld hz (inS h4 hL 2 (by decide) (nI_add _ 2)) dL_law_267 ?_
      refine cVg wv_L_27 (c_X5_pull hC) dL_law_268 ob5 rfl rfl (kk := (fun v9 m1 hf => ?_))
      obtain ⟨rfl, hk1, hs1⟩ := hf
      have hF1 := Rf_cls hF hk1
      refine J_pop dL_law_271 rfl ?_
      refine J_aload_n dL_law_272 rfl rfl ?_
      refine J_aload_n dL_law_273 rfl rfl ?_
      refine J_iload_n dL_law_274 rfl rfl ?_
      refine J_iconst (v := 1) dL_law_275 (by decide) ?_
      refine J_iadd dL_law_276 ?_
      refine J_sld hz (inS h4 hL 1 (by decide) (nI_add _ 1)) dL_law_277 ?_
      refine J_aload_n dL_law_278 rfl rfl ?_
      refine J_iload_n dL_law_279 rfl rfl ?_
      refine J_iconst (v := 2) dL_law_280 (by decide) ?_
      refine J_iadd dL_law_281 ?_
      refine J_sld hz (inS h4 hL 2 (by decide) (nI_add _ 2)) dL_law_282 ?_
      rw [ws_sm hF1.1]
      refine cVg wv_L_30 (c_X6_pull (n := nOf s) (w := wOf s) hn hn8 hF1.2.2.1 hq7) dL_law_283 ob6 rfl rfl (kk := (fun v8 m9 hf2 => ?_))
      obtain ⟨rfl, hf2⟩ := hf2
      have hZ := sim_change hF hq7 ⟨rfl, hk1, hs1⟩ ⟨rfl, hf2⟩
      refine J_pop dL_law_286 rfl ?_
      refine J_goto (tgt := 823) dL_law_287 (by decide) ?_
      first | exact kN _ hZ | exact kN _ hS
    | 4, _ =>
      refine J_tableIn (off := 258) (tgt := 290) dL_law_32 (by decide) (by decide) (by decide) (by decide) ?_
      refine J_aload_n dL_law_290 rfl rfl ?_
      refine J_aload_n dL_law_291 rfl rfl ?_
      refine J_iload_n dL_law_292 rfl rfl ?_
      refine J_iconst (v := 1) dL_law_293 (by decide) ?_
      refine J_iadd dL_law_294 ?_
      refine J_sld hz (inS h4 hL 1 (by decide) (nI_add _ 1)) dL_law_295 ?_
      refine cVg wv_L_31 (c_X5_ask hC) dL_law_296 ob5 rfl rfl (kk := (fun v9 m1 hf => ?_))
      obtain ⟨rfl, hk1, hs1⟩ := hf
      have hF1 := Rf_cls hF hk1
      refine J_pop dL_law_299 rfl ?_
      refine J_aload_n dL_law_300 rfl rfl ?_
      refine J_aload_n dL_law_301 rfl rfl ?_
      refine J_iload_n dL_law_302 rfl rfl ?_
      refine J_iconst (v := 1) dL_law_303 (by decide) ?_
      refine J_iadd dL_law_304 ?_
      refine J_sld hz (inS h4 hL 1 (by decide) (nI_add _ 1)) dL_law_305 ?_
      rw [ws_sm hF1.1]
      refine cVg wv_L_35 (c_X6_ask (n := nOf s) (w := wOf s) hn hn8 hOk hF1.2.2.1 hq7) dL_law_306 ob6 rfl rfl (kk := (fun v8 m9 hf2 => ?_))
      obtain ⟨rfl, hf2⟩ := hf2
      have hZ := sim_change hF hq7 ⟨rfl, hk1, hs1⟩ ⟨rfl, hf2⟩
      refine J_pop dL_law_309 rfl ?_
      refine J_goto (tgt := 823) dL_law_310 (by decide) ?_
      first | exact kN _ hZ | exact kN _ hS
    | 5, _ =>
      refine J_tableIn (off := 281) (tgt := 313) dL_law_32 (by decide) (by decide) (by decide) (by decide) ?_
      refine J_aload_n dL_law_313 rfl rfl ?_
      refine J_aload_n dL_law_314 rfl rfl ?_
      refine J_iload_n dL_law_315 rfl rfl ?_
      refine J_iconst (v := 1) dL_law_316 (by decide) ?_
      refine J_iadd dL_law_317 ?_
      refine J_sld hz (inS h4 hL 1 (by decide) (nI_add _ 1)) dL_law_318 ?_
      refine J_aload_n dL_law_319 rfl rfl ?_
      refine J_iload_n dL_law_320 rfl rfl ?_
      refine J_iconst (v := 2) dL_law_321 (by decide) ?_
      refine J_iadd dL_law_322 ?_
      refine J_sld hz (inS h4 hL 2 (by decide) (nI_add _ 2)) dL_law_323 ?_
      refine cVg wv_L_36 (c_X5_send hC) dL_law_324 ob5 rfl rfl (kk := (fun v9 m1 hf => ?_))
      obtain ⟨rfl, hk1, hs1⟩ := hf
      have hF1 := Rf_cls hF hk1
      refine J_pop dL_law_327 rfl ?_
      refine J_aload_n dL_law_328 rfl rfl ?_
      refine J_aload_n dL_law_329 rfl rfl ?_
      refine J_iload_n dL_law_330 rfl rfl ?_
      refine J_iconst (v := 1) dL_law_331 (by decide) ?_
      refine J_iadd dL_law_332 ?_
      refine J_sld hz (inS h4 hL 1 (by decide) (nI_add _ 1)) dL_law_333 ?_
      refine J_aload_n dL_law_334 rfl rfl ?_
      refine J_iload_n dL_law_335 rfl rfl ?_
      refine J_iconst (v := 2) dL_law_336 (by decide) ?_
      refine J_iadd dL_law_337 ?_
      refine J_sld hz (inS h4 hL 2 (by decide) (nI_add _ 2)) dL_law_338 ?_
      rw [ws_sm hF1.1]
      refine cVg wv_L_39 (c_X6_send (n := nOf s) (w := wOf s) hn hn8 hOk hF1.2.2.1 hq7) dL_law_339 ob6 rfl rfl (kk := (fun v8 m9 hf2 => ?_))
      obtain ⟨rfl, hf2⟩ := hf2
      have hZ := sim_change hF hq7 ⟨rfl, hk1, hs1⟩ ⟨rfl, hf2⟩
      refine J_pop dL_law_342 rfl ?_
      refine J_goto (tgt := 823) dL_law_343 (by decide) ?_
      first | exact kN _ hZ | exact kN _ hS
    | 6, _ =>
      refine J_tableIn (off := 314) (tgt := 346) dL_law_32 (by decide) (by decide) (by decide) (by decide) ?_
      refine J_aload_n dL_law_346 rfl rfl ?_
      refine J_aload_n dL_law_347 rfl rfl ?_
      refine J_iload_n dL_law_348 rfl rfl ?_
      refine J_iconst (v := 1) dL_law_349 (by decide) ?_
      refine J_iadd dL_law_350 ?_
      refine J_sld hz (inS h4 hL 1 (by decide) (nI_add _ 1)) dL_law_351 ?_
      refine cVg wv_L_40 (c_X5_pass hC) dL_law_352 ob5 rfl rfl (kk := (fun v9 m1 hf => ?_))
      obtain ⟨rfl, hk1, hs1⟩ := hf
      have hF1 := Rf_cls hF hk1
      refine J_pop dL_law_355 rfl ?_
      refine J_aload_n dL_law_356 rfl rfl ?_
      refine J_aload_n dL_law_357 rfl rfl ?_
      refine J_iload_n dL_law_358 rfl rfl ?_
      refine J_iconst (v := 1) dL_law_359 (by decide) ?_
      refine J_iadd dL_law_360 ?_
      refine J_sld hz (inS h4 hL 1 (by decide) (nI_add _ 1)) dL_law_361 ?_
      rw [ws_sm hF1.1]
      refine cVg wv_L_43 (c_X6_pass (n := nOf s) (w := wOf s) hn hn8 hOk hF1.2.2.1 hq7) dL_law_362 ob6 rfl rfl (kk := (fun v8 m9 hf2 => ?_))
      obtain ⟨rfl, hf2⟩ := hf2
      have hZ := sim_change hF hq7 ⟨rfl, hk1, hs1⟩ ⟨rfl, hf2⟩
      refine J_pop dL_law_365 rfl ?_
      refine J_goto (tgt := 823) dL_law_366 (by decide) ?_
      first | exact kN _ hZ | exact kN _ hS
    | 7, _ =>
      refine J_tableIn (off := 337) (tgt := 369) dL_law_32 (by decide) (by decide) (by decide) (by decide) ?_
      refine J_aload_n dL_law_369 rfl rfl ?_
      refine J_aload_n dL_law_370 rfl rfl ?_
      refine J_iload_n dL_law_371 rfl rfl ?_
      refine J_iconst (v := 1) dL_law_372 (by decide) ?_
      refine J_iadd dL_law_373 ?_
      refine J_sld hz (inS h4 hL 1 (by decide) (nI_add _ 1)) dL_law_374 ?_
      refine J_aload_n dL_law_375 rfl rfl ?_
      refine J_iload_n dL_law_376 rfl rfl ?_
      refine J_iconst (v := 2) dL_law_377 (by decide) ?_
      refine J_iadd dL_law_378 ?_
      refine J_sld hz (inS h4 hL 2 (by decide) (nI_add _ 2)) dL_law_379 ?_
      refine cVi wv_L_44 (c_X5_of hC) dL_law_380 ob5 rfl rfl (kk := ?_)
      refine J_pop dL_law_383 rfl ?_
      refine J_aload_n dL_law_384 rfl rfl ?_
      refine J_aload_n dL_law_385 rfl rfl ?_
      refine J_iload_n dL_law_386 rfl rfl ?_
      refine J_iconst (v := 1) dL_law_387 (by decide) ?_
      refine J_iadd dL_law_388 ?_
      refine J_sld hz (inS h4 hL 1 (by decide) (nI_add _ 1)) dL_law_389 ?_
      refine J_aload_n dL_law_390 rfl rfl ?_
      refine J_iload_n dL_law_391 rfl rfl ?_
      refine J_iconst (v := 2) dL_law_392 (by decide) ?_
      refine J_iadd dL_law_393 ?_
      refine J_sld hz (inS h4 hL 2 (by decide) (nI_add _ 2)) dL_law_394 ?_
      rw [ws_sm hF.1]
      have hZ := sim_q0 hF hC
      refine cVi wv_L_47 (c_X6_of (n := nOf s) hn hn8) dL_law_395 ob6 rfl rfl (kk := ?_)
      refine J_pop dL_law_398 rfl ?_
      refine J_goto (tgt := 823) dL_law_399 (by decide) ?_
      first | exact kN _ hZ | exact kN _ hS
    | 8, _ =>
      refine J_tableIn (off := 370) (tgt := 402) dL_law_32 (by decide) (by decide) (by decide) (by decide) ?_
      refine J_aload_n dL_law_402 rfl rfl ?_
      refine J_aload_n dL_law_403 rfl rfl ?_
      refine J_iload_n dL_law_404 rfl rfl ?_
      refine J_iconst (v := 1) dL_law_405 (by decide) ?_
      refine J_iadd dL_law_406 ?_
      refine J_sld hz (inS h4 hL 1 (by decide) (nI_add _ 1)) dL_law_407 ?_
      refine cVi wv_L_48 (c_X5_slot hC) dL_law_408 ob5 rfl rfl (kk := ?_)
      refine J_pop dL_law_411 rfl ?_
      refine J_aload_n dL_law_412 rfl rfl ?_
      refine J_aload_n dL_law_413 rfl rfl ?_
      refine J_iload_n dL_law_414 rfl rfl ?_
      refine J_iconst (v := 1) dL_law_415 (by decide) ?_
      refine J_iadd dL_law_416 ?_
      refine J_sld hz (inS h4 hL 1 (by decide) (nI_add _ 1)) dL_law_417 ?_
      rw [ws_sm hF.1]
      have hZ := sim_q0 hF hC
      refine cVi wv_L_51 (c_X6_slot (n := nOf s) hn hn8) dL_law_418 ob6 rfl rfl (kk := ?_)
      refine J_pop dL_law_421 rfl ?_
      refine J_goto (tgt := 823) dL_law_422 (by decide) ?_
      first | exact kN _ hZ | exact kN _ hS
    | 9, _ =>
      refine J_tableIn (off := 393) (tgt := 425) dL_law_32 (by decide) (by decide) (by decide) (by decide) ?_
      refine J_aload_n dL_law_425 rfl rfl ?_
      refine J_aload_n dL_law_426 rfl rfl ?_
      refine J_iload_n dL_law_427 rfl rfl ?_
      refine J_iconst (v := 1) dL_law_428 (by decide) ?_
      refine J_iadd dL_law_429 ?_
      refine J_sld hz (inS h4 hL 1 (by decide) (nI_add _ 1)) dL_law_430 ?_
      refine J_aload_n dL_law_431 rfl rfl ?_
      refine J_iload_n dL_law_432 rfl rfl ?_
      refine J_iconst (v := 2) dL_law_433 (by decide) ?_
      refine J_iadd dL_law_434 ?_
      refine J_sld hz (inS h4 hL 2 (by decide) (nI_add _ 2)) dL_law_435 ?_
      refine cVi wv_L_52 (c_X5_word hC) dL_law_436 ob5 rfl rfl (kk := ?_)
      refine J_pop dL_law_439 rfl ?_
      refine J_aload_n dL_law_440 rfl rfl ?_
      refine J_aload_n dL_law_441 rfl rfl ?_
      refine J_iload_n dL_law_442 rfl rfl ?_
      refine J_iconst (v := 1) dL_law_443 (by decide) ?_
      refine J_iadd dL_law_444 ?_
      refine J_sld hz (inS h4 hL 1 (by decide) (nI_add _ 1)) dL_law_445 ?_
      refine J_aload_n dL_law_446 rfl rfl ?_
      refine J_iload_n dL_law_447 rfl rfl ?_
      refine J_iconst (v := 2) dL_law_448 (by decide) ?_
      refine J_iadd dL_law_449 ?_
      refine J_sld hz (inS h4 hL 2 (by decide) (nI_add _ 2)) dL_law_450 ?_
      rw [ws_sm hF.1]
      have hZ := sim_q0 hF hC
      refine cVi wv_L_55 (c_X6_word (w := wOf s) hOk.1) dL_law_451 ob6 rfl rfl (kk := ?_)
      refine J_pop dL_law_454 rfl ?_
      refine J_goto (tgt := 823) dL_law_455 (by decide) ?_
      first | exact kN _ hZ | exact kN _ hS
    | 10, _ =>
      refine J_tableIn (off := 426) (tgt := 458) dL_law_32 (by decide) (by decide) (by decide) (by decide) ?_
      refine J_aload_n dL_law_458 rfl rfl ?_
      refine J_aload_n dL_law_459 rfl rfl ?_
      refine J_iload_n dL_law_460 rfl rfl ?_
      refine J_iconst (v := 1) dL_law_461 (by decide) ?_
      refine J_iadd dL_law_462 ?_
      refine J_sld hz (inS h4 hL 1 (by decide) (nI_add _ 1)) dL_law_463 ?_
      refine cVi wv_L_56 (c_X5_waiting hC) dL_law_464 ob5 rfl rfl (kk := ?_)
      refine J_pop dL_law_467 rfl ?_
      refine J_aload_n dL_law_468 rfl rfl ?_
      refine J_aload_n dL_law_469 rfl rfl ?_
      refine J_iload_n dL_law_470 rfl rfl ?_
      refine J_iconst (v := 1) dL_law_471 (by decide) ?_
      refine J_iadd dL_law_472 ?_
      refine J_sld hz (inS h4 hL 1 (by decide) (nI_add _ 1)) dL_law_473 ?_
      rw [ws_sm hF.1]
      have hZ := sim_q0 hF hC
      refine cVi wv_L_59 (c_X6_waiting (n := wOf s) hOk.1) dL_law_474 ob6 rfl rfl (kk := ?_)
      refine J_pop dL_law_477 rfl ?_
      refine J_goto (tgt := 823) dL_law_478 (by decide) ?_
      first | exact kN _ hZ | exact kN _ hS
    | 11, _ =>
      refine J_tableIn (off := 449) (tgt := 481) dL_law_32 (by decide) (by decide) (by decide) (by decide) ?_
      refine J_aload_n dL_law_481 rfl rfl ?_
      refine J_aload_n dL_law_482 rfl rfl ?_
      refine J_iload_n dL_law_483 rfl rfl ?_
      refine J_iconst (v := 1) dL_law_484 (by decide) ?_
      refine J_iadd dL_law_485 ?_
      refine J_sld hz (inS h4 hL 1 (by decide) (nI_add _ 1)) dL_law_486 ?_
      refine cVg wv_L_60 (c_X5_count hC) dL_law_487 ob5 rfl rfl (kk := (fun v9 m1 hf => ?_))
      obtain ⟨⟨a1, rfl⟩, rfl⟩ := hf
      refine J_pop dL_law_490 rfl ?_
      refine J_aload_n dL_law_491 rfl rfl ?_
      refine J_aload_n dL_law_492 rfl rfl ?_
      refine J_iload_n dL_law_493 rfl rfl ?_
      refine J_iconst (v := 1) dL_law_494 (by decide) ?_
      refine J_iadd dL_law_495 ?_
      refine J_sld hz (inS h4 hL 1 (by decide) (nI_add _ 1)) dL_law_496 ?_
      rw [ws_sm hF.1]
      refine cVg wv_L_63 (c_X6_count (n := nOf s) hn hn8) dL_law_497 ob6 rfl rfl (kk := (fun v8 m9 hf2 => ?_))
      obtain ⟨⟨a2, rfl⟩, rfl⟩ := hf2
      have hZ := sim_q0 hF hC
      refine J_pop dL_law_500 rfl ?_
      refine J_goto (tgt := 823) dL_law_501 (by decide) ?_
      first | exact kN _ hZ | exact kN _ hS
    | 12, _ =>
      refine J_tableIn (off := 472) (tgt := 504) dL_law_32 (by decide) (by decide) (by decide) (by decide) ?_
      refine J_aload_n dL_law_504 rfl rfl ?_
      refine J_aload_n dL_law_505 rfl rfl ?_
      refine J_iload_n dL_law_506 rfl rfl ?_
      refine J_iconst (v := 1) dL_law_507 (by decide) ?_
      refine J_iadd dL_law_508 ?_
      refine J_sld hz (inS h4 hL 1 (by decide) (nI_add _ 1)) dL_law_509 ?_
      refine cVi wv_L_64 (c_X5_known hC) dL_law_510 ob5 rfl rfl (kk := ?_)
      refine J_pop dL_law_513 rfl ?_
      refine J_aload_n dL_law_514 rfl rfl ?_
      refine J_aload_n dL_law_515 rfl rfl ?_
      refine J_iload_n dL_law_516 rfl rfl ?_
      refine J_iconst (v := 1) dL_law_517 (by decide) ?_
      refine J_iadd dL_law_518 ?_
      refine J_sld hz (inS h4 hL 1 (by decide) (nI_add _ 1)) dL_law_519 ?_
      rw [ws_sm hF.1]
      have hZ := sim_q0 hF hC
      refine cVi wv_L_67 (c_X6_known (n := nOf s) hn hn8) dL_law_520 ob6 rfl rfl (kk := ?_)
      refine J_pop dL_law_523 rfl ?_
      refine J_goto (tgt := 823) dL_law_524 (by decide) ?_
      first | exact kN _ hZ | exact kN _ hS
    | 13, _ =>
      refine J_tableIn (off := 495) (tgt := 527) dL_law_32 (by decide) (by decide) (by decide) (by decide) ?_
      refine J_aload_n dL_law_527 rfl rfl ?_
      refine J_aload_n dL_law_528 rfl rfl ?_
      refine J_iload_n dL_law_529 rfl rfl ?_
      refine J_iconst (v := 1) dL_law_530 (by decide) ?_
      refine J_iadd dL_law_531 ?_
      refine J_sld hz (inS h4 hL 1 (by decide) (nI_add _ 1)) dL_law_532 ?_
      refine J_aload_n dL_law_533 rfl rfl ?_
      refine J_iload_n dL_law_534 rfl rfl ?_
      refine J_iconst (v := 2) dL_law_535 (by decide) ?_
      refine J_iadd dL_law_536 ?_
      refine J_sld hz (inS h4 hL 2 (by decide) (nI_add _ 2)) dL_law_537 ?_
      refine cVi wv_L_68 (c_X5_why hC) dL_law_538 ob5 rfl rfl (kk := ?_)
      refine J_pop dL_law_541 rfl ?_
      refine J_aload_n dL_law_542 rfl rfl ?_
      refine J_aload_n dL_law_543 rfl rfl ?_
      refine J_iload_n dL_law_544 rfl rfl ?_
      refine J_iconst (v := 1) dL_law_545 (by decide) ?_
      refine J_iadd dL_law_546 ?_
      refine J_sld hz (inS h4 hL 1 (by decide) (nI_add _ 1)) dL_law_547 ?_
      refine J_aload_n dL_law_548 rfl rfl ?_
      refine J_iload_n dL_law_549 rfl rfl ?_
      refine J_iconst (v := 2) dL_law_550 (by decide) ?_
      refine J_iadd dL_law_551 ?_
      refine J_sld hz (inS h4 hL 2 (by decide) (nI_add _ 2)) dL_law_552 ?_
      rw [ws_sm hF.1]
      have hZ := sim_q0 hF hC
      refine cVi wv_L_71 (c_X6_why (n := nOf s) hn hn8) dL_law_553 ob6 rfl rfl (kk := ?_)
      refine J_pop dL_law_556 rfl ?_
      refine J_goto (tgt := 823) dL_law_557 (by decide) ?_
      first | exact kN _ hZ | exact kN _ hS
    | 14, _ =>
      refine J_tableIn (off := 528) (tgt := 560) dL_law_32 (by decide) (by decide) (by decide) (by decide) ?_
      refine J_aload_n dL_law_560 rfl rfl ?_
      refine J_aload_n dL_law_561 rfl rfl ?_
      refine J_iload_n dL_law_562 rfl rfl ?_
      refine J_iconst (v := 1) dL_law_563 (by decide) ?_
      refine J_iadd dL_law_564 ?_
      refine J_sld hz (inS h4 hL 1 (by decide) (nI_add _ 1)) dL_law_565 ?_
      refine cVg wv_L_72 (c_X5_knownIn hC) dL_law_566 ob5 rfl rfl (kk := (fun v9 m1 hf => ?_))
      obtain ⟨rfl, hk1, hs1⟩ := hf
      have hF1 := Rf_cls hF hk1
      refine J_pop dL_law_569 rfl ?_
      refine J_aload_n dL_law_570 rfl rfl ?_
      refine J_aload_n dL_law_571 rfl rfl ?_
      refine J_iload_n dL_law_572 rfl rfl ?_
      refine J_iconst (v := 1) dL_law_573 (by decide) ?_
      refine J_iadd dL_law_574 ?_
      refine J_sld hz (inS h4 hL 1 (by decide) (nI_add _ 1)) dL_law_575 ?_
      rw [ws_sm hF1.1]
      refine cVg wv_L_75 (c_X6_knownIn (n := nOf s) (w := wOf s) hn hn8 hOk) dL_law_576 ob6 rfl rfl (kk := (fun v8 m9 hf2 => ?_))
      obtain ⟨rfl, hf2⟩ := hf2
      have hZ := sim_qu hF (v := some (.int 0)) ⟨rfl, hk1, hs1⟩ hf2
      refine J_pop dL_law_579 rfl ?_
      refine J_goto (tgt := 823) dL_law_580 (by decide) ?_
      first | exact kN _ hZ | exact kN _ hS
    | 15, _ =>
      refine J_tableIn (off := 551) (tgt := 583) dL_law_32 (by decide) (by decide) (by decide) (by decide) ?_
      refine J_aload_n dL_law_583 rfl rfl ?_
      refine J_aload_n dL_law_584 rfl rfl ?_
      refine J_iload_n dL_law_585 rfl rfl ?_
      refine J_iconst (v := 1) dL_law_586 (by decide) ?_
      refine J_iadd dL_law_587 ?_
      refine J_sld hz (inS h4 hL 1 (by decide) (nI_add _ 1)) dL_law_588 ?_
      refine J_aload_n dL_law_589 rfl rfl ?_
      refine J_iload_n dL_law_590 rfl rfl ?_
      refine J_iconst (v := 2) dL_law_591 (by decide) ?_
      refine J_iadd dL_law_592 ?_
      refine J_sld hz (inS h4 hL 2 (by decide) (nI_add _ 2)) dL_law_593 ?_
      refine J_aload_n dL_law_594 rfl rfl ?_
      refine J_iload_n dL_law_595 rfl rfl ?_
      refine J_iconst (v := 3) dL_law_596 (by decide) ?_
      refine J_iadd dL_law_597 ?_
      refine J_sld hz (inS h4 hL 3 (by decide) (nI_add _ 3)) dL_law_598 ?_
      refine cVg wv_L_76 (c_X5_wouldHurt hC) dL_law_599 ob5 rfl rfl (kk := (fun v9 m1 hf => ?_))
      obtain ⟨rfl, hk1, hs1⟩ := hf
      have hF1 := Rf_cls hF hk1
      refine J_pop dL_law_602 rfl ?_
      refine J_aload_n dL_law_603 rfl rfl ?_
      refine J_aload_n dL_law_604 rfl rfl ?_
      refine J_iload_n dL_law_605 rfl rfl ?_
      refine J_iconst (v := 1) dL_law_606 (by decide) ?_
      refine J_iadd dL_law_607 ?_
      refine J_sld hz (inS h4 hL 1 (by decide) (nI_add _ 1)) dL_law_608 ?_
      refine J_aload_n dL_law_609 rfl rfl ?_
      refine J_iload_n dL_law_610 rfl rfl ?_
      refine J_iconst (v := 2) dL_law_611 (by decide) ?_
      refine J_iadd dL_law_612 ?_
      refine J_sld hz (inS h4 hL 2 (by decide) (nI_add _ 2)) dL_law_613 ?_
      refine J_aload_n dL_law_614 rfl rfl ?_
      refine J_iload_n dL_law_615 rfl rfl ?_
      refine J_iconst (v := 3) dL_law_616 (by decide) ?_
      refine J_iadd dL_law_617 ?_
      refine J_sld hz (inS h4 hL 3 (by decide) (nI_add _ 3)) dL_law_618 ?_
      rw [ws_sm hF1.1]
      have hZ := sim_qu hF (v := some (.int 0)) ⟨rfl, hk1, hs1⟩ (Or.inr rfl)
      refine cVi wv_L_79 (c_X6_wouldHurt (n := nOf s) (w := wOf s) hn hn8 hOk hOm) dL_law_619 ob6 rfl rfl (kk := ?_)
      refine J_pop dL_law_622 rfl ?_
      refine J_goto (tgt := 823) dL_law_623 (by decide) ?_
      first | exact kN _ hZ | exact kN _ hS
    | 16, _ =>
      refine J_tableIn (off := 594) (tgt := 626) dL_law_32 (by decide) (by decide) (by decide) (by decide) ?_
      refine J_aload_n dL_law_626 rfl rfl ?_
      refine J_aload_n dL_law_627 rfl rfl ?_
      refine J_iload_n dL_law_628 rfl rfl ?_
      refine J_iconst (v := 1) dL_law_629 (by decide) ?_
      refine J_iadd dL_law_630 ?_
      refine J_sld hz (inS h4 hL 1 (by decide) (nI_add _ 1)) dL_law_631 ?_
      refine J_aload_n dL_law_632 rfl rfl ?_
      refine J_iload_n dL_law_633 rfl rfl ?_
      refine J_iconst (v := 2) dL_law_634 (by decide) ?_
      refine J_iadd dL_law_635 ?_
      refine J_sld hz (inS h4 hL 2 (by decide) (nI_add _ 2)) dL_law_636 ?_
      refine cVg wv_L_80 (c_X5_safeSpeed hC) dL_law_637 ob5 rfl rfl (kk := (fun v9 m1 hf => ?_))
      obtain ⟨rfl, hk1, hs1⟩ := hf
      have hF1 := Rf_cls hF hk1
      refine J_aload_n dL_law_640 rfl rfl ?_
      refine J_aload_n dL_law_641 rfl rfl ?_
      refine J_iload_n dL_law_642 rfl rfl ?_
      refine J_iconst (v := 1) dL_law_643 (by decide) ?_
      refine J_iadd dL_law_644 ?_
      refine J_sld hz (inS h4 hL 1 (by decide) (nI_add _ 1)) dL_law_645 ?_
      refine J_aload_n dL_law_646 rfl rfl ?_
      refine J_iload_n dL_law_647 rfl rfl ?_
      refine J_iconst (v := 2) dL_law_648 (by decide) ?_
      refine J_iadd dL_law_649 ?_
      refine J_sld hz (inS h4 hL 2 (by decide) (nI_add _ 2)) dL_law_650 ?_
      rw [ws_sm hF1.1]
      refine cVg wv_L_83 (c_X6_safeSpeed (n := nOf s) (w := wOf s) hn hn8 hOk hOm) dL_law_651 ob6 rfl rfl (kk := (fun v8 m9 hf2 => ?_))
      obtain ⟨rfl, hf2⟩ := hf2
      have hZ := sim_qu hF (v := some (.int 0)) ⟨rfl, hk1, hs1⟩ (Or.inr hf2)
      refine J_icmp_eq (tgt := 823) dL_law_654 (by decide) (fun h654 => ?_) (fun h654 => absurd (ss_eq hV) h654)
      first | exact kN _ hZ | exact kN _ hS
    | 17, _ =>
      refine J_tableIn (off := 627) (tgt := 659) dL_law_32 (by decide) (by decide) (by decide) (by decide) ?_
      refine J_aload_n dL_law_659 rfl rfl ?_
      refine cVg wv_L_84 (c_X5_quietIn hC) dL_law_660 ob5 rfl rfl (kk := (fun v9 m1 hf => ?_))
      obtain ⟨rfl, hk1, hs1⟩ := hf
      have hF1 := Rf_cls hF hk1
      refine J_pop dL_law_663 rfl ?_
      refine J_aload_n dL_law_664 rfl rfl ?_
      rw [ws_sm hF1.1]
      refine cVg wv_L_88 (c_X6_quietIn (n := nOf s) (w := wOf s) hn hn8 hOk) dL_law_665 ob6 rfl rfl (kk := (fun v8 m9 hf2 => ?_))
      obtain ⟨rfl, hf2⟩ := hf2
      have hZ := sim_qu hF (v := some (.int 0)) ⟨rfl, hk1, hs1⟩ (Or.inr hf2)
      refine J_pop dL_law_668 rfl ?_
      refine J_goto (tgt := 823) dL_law_669 (by decide) ?_
      first | exact kN _ hZ | exact kN _ hS
    | 18, _ =>
      refine J_tableIn (off := 640) (tgt := 672) dL_law_32 (by decide) (by decide) (by decide) (by decide) ?_
      refine J_aload_n dL_law_672 rfl rfl ?_
      refine J_aload_n dL_law_673 rfl rfl ?_
      refine J_iload_n dL_law_674 rfl rfl ?_
      refine J_iconst (v := 1) dL_law_675 (by decide) ?_
      refine J_iadd dL_law_676 ?_
      refine J_sld hz (inS h4 hL 1 (by decide) (nI_add _ 1)) dL_law_677 ?_
      refine J_i2l dL_law_678 rfl ?_
      refine J_bipush (v := 32) dL_law_679 (by decide) ?_
      refine J_lshl dL_law_681 rfl ?_
      refine J_aload_n dL_law_682 rfl rfl ?_
      refine J_iload_n dL_law_683 rfl rfl ?_
      refine J_iconst (v := 2) dL_law_684 (by decide) ?_
      refine J_iadd dL_law_685 ?_
      refine J_sld hz (inS h4 hL 2 (by decide) (nI_add _ 2)) dL_law_686 ?_
      refine J_i2l dL_law_687 rfl ?_
      refine J_ldc2 wl_L_89 dL_law_688 ?_
      refine J_land dL_law_691 ?_
      refine J_lor dL_law_692 ?_
      refine cVg wv_L_91 (c_X5_put hC) dL_law_693 ob5 rfl rfl (kk := (fun v9 m1 hf => ?_))
      obtain ⟨b1, rfl, hf⟩ := PaFin_int hf
      have hF1 := Rf_cls hF (PaFin_hi hf)
      refine J_pop dL_law_696 rfl ?_
      refine J_aload_n dL_law_697 rfl rfl ?_
      refine J_aload_n dL_law_698 rfl rfl ?_
      refine J_iload_n dL_law_699 rfl rfl ?_
      refine J_iconst (v := 1) dL_law_700 (by decide) ?_
      refine J_iadd dL_law_701 ?_
      refine J_sld hz (inS h4 hL 1 (by decide) (nI_add _ 1)) dL_law_702 ?_
      refine J_i2l dL_law_703 rfl ?_
      refine J_bipush (v := 32) dL_law_704 (by decide) ?_
      refine J_lshl dL_law_706 rfl ?_
      refine J_aload_n dL_law_707 rfl rfl ?_
      refine J_iload_n dL_law_708 rfl rfl ?_
      refine J_iconst (v := 2) dL_law_709 (by decide) ?_
      refine J_iadd dL_law_710 ?_
      refine J_sld hz (inS h4 hL 2 (by decide) (nI_add _ 2)) dL_law_711 ?_
      refine J_i2l dL_law_712 rfl ?_
      refine J_ldc2 wl_L_89 dL_law_713 ?_
      refine J_land dL_law_716 ?_
      refine J_lor dL_law_717 ?_
      rw [ws_sm hF1.1]
      refine cVg wv_L_95 (c_X6_put hF1.2.2.2.1 hL80) dL_law_718 ob6 rfl rfl (kk := (fun v8 m9 hf2 => ?_))
      obtain ⟨b2, rfl, hf2⟩ := PtFin_int hf2
      obtain ⟨he, hZ⟩ := sim_put hF hC hf hf2
      obtain rfl : b1 = b2 := Value.int.inj (Option.some.inj he)
      refine J_pop dL_law_721 rfl ?_
      refine J_goto (tgt := 823) dL_law_722 (by decide) ?_
      first | exact kN _ hZ | exact kN _ hS
    | 19, _ =>
      refine J_tableIn (off := 693) (tgt := 725) dL_law_32 (by decide) (by decide) (by decide) (by decide) ?_
      refine J_aload_n dL_law_725 rfl rfl ?_
      refine cVg wv_L_96 (c_X5_wipe hC) dL_law_726 ob5 rfl rfl (kk := (fun v9 m1 hf => ?_))
      obtain ⟨rfl, hk1, hs1⟩ := hf
      have hF1 := Rf_cls hF hk1
      refine J_pop dL_law_729 rfl ?_
      refine J_aload_n dL_law_730 rfl rfl ?_
      rw [ws_sm hF1.1]
      have hZ := sim_wipe hF (v := some (.int (nI L))) ⟨rfl, hk1, hs1⟩
      refine cVi wv_L_99 c_X6_wipe dL_law_731 ob6 rfl rfl (kk := ?_)
      refine J_pop dL_law_734 rfl ?_
      refine J_goto (tgt := 823) dL_law_735 (by decide) ?_
      first | exact kN _ hZ | exact kN _ hS
    | 20, _ =>
      refine J_tableIn (off := 706) (tgt := 738) dL_law_32 (by decide) (by decide) (by decide) (by decide) ?_
      refine J_aload_n dL_law_738 rfl rfl ?_
      refine cVg wv_L_100 (c_X5_fault hC had) dL_law_739 ob5 rfl rfl (kk := (fun v9 m1 hf => ?_))
      obtain ⟨rfl, hk1, hs1⟩ := hf
      have hF1 := Rf_cls hF hk1
      refine J_pop dL_law_742 rfl ?_
      refine J_aload_n dL_law_743 rfl rfl ?_
      rw [ws_rm hF1.1]
      refine cVg wv_L_103 (c_X6_fault hF1.2.2.2.1 hL80) dL_law_744 ob6 rfl rfl (kk := (fun v8 m9 hf2 => ?_))
      obtain ⟨rfl, G, rfl, hG⟩ := hf2
      have hZ := sim_rm hF (v := some (.int 0)) ⟨rfl, hk1, hs1⟩ hG
      refine J_pop dL_law_747 rfl ?_
      refine J_goto (tgt := 823) dL_law_748 (by decide) ?_
      first | exact kN _ hZ | exact kN _ hS
    | 21, _ =>
      refine J_tableIn (off := 719) (tgt := 751) dL_law_32 (by decide) (by decide) (by decide) (by decide) ?_
      refine J_aload_n dL_law_751 rfl rfl ?_
      refine cVg wv_L_104 (c_X5_carryOut hC had) dL_law_752 ob5 rfl rfl (kk := (fun v9 m1 hf => ?_))
      obtain ⟨b1, rfl, hk1, hf⟩ := CCo_int hf
      have hF1 := Rf_cls hF hk1
      refine J_pop dL_law_755 rfl ?_
      refine J_aload_n dL_law_756 rfl rfl ?_
      rw [ws_sm hF1.1]
      refine cVg wv_L_107 (c_X6_carryOut hF1.2.2.2.1 hL80 ⟨_, _, hV.1⟩ hF1.2.2.1 hq7) dL_law_757 ob6 rfl rfl (kk := (fun v8 m9 hf2 => ?_))
      obtain ⟨b2, rfl, hf2⟩ := CoFin_int hf2
      obtain ⟨he, hZ⟩ := sim_carry hF hq7 hf hf2
      refine J_pop dL_law_760 rfl ?_
      refine J_goto (tgt := 823) dL_law_761 (by decide) ?_
      first | exact kN _ hZ | exact kN _ hS
    | 22, _ =>
      refine J_tableIn (off := 732) (tgt := 764) dL_law_32 (by decide) (by decide) (by decide) (by decide) ?_
      refine J_aload_n dL_law_764 rfl rfl ?_
      refine cVg wv_L_108 (c_X5_undo hC) dL_law_765 ob5 rfl rfl (kk := (fun v9 m1 hf => ?_))
      obtain ⟨b1, rfl, hf⟩ := CUn_int hf
      have hF1 := Rf_cls hF hf.1
      refine J_pop dL_law_768 rfl ?_
      refine J_aload_n dL_law_769 rfl rfl ?_
      rw [ws_sm hF1.1]
      refine cVg wv_L_111 (c_X6_undo hF1.2.2.1 hq7) dL_law_770 ob6 rfl rfl (kk := (fun v8 m9 hf2 => ?_))
      obtain ⟨he, hZ⟩ := sim_undo hF hC hf hf2
      subst he
      refine J_pop dL_law_773 rfl ?_
      refine J_goto (tgt := 823) dL_law_774 (by decide) ?_
      first | exact kN _ hZ | exact kN _ hS
    | 23, _ =>
      refine J_tableIn (off := 745) (tgt := 777) dL_law_32 (by decide) (by decide) (by decide) (by decide) ?_
      refine J_aload_n dL_law_777 rfl rfl ?_
      refine J_aload_n dL_law_778 rfl rfl ?_
      refine J_iload_n dL_law_779 rfl rfl ?_
      refine J_iconst (v := 1) dL_law_780 (by decide) ?_
      refine J_iadd dL_law_781 ?_
      refine J_sld hz (inS h4 hL 1 (by decide) (nI_add _ 1)) dL_law_782 ?_
      refine cVg wv_L_112 (c_X5_save hC) dL_law_783 ob5 rfl rfl (kk := (fun v9 m1 hf => ?_))
      obtain ⟨b1, rfl, hk1, hf⟩ := CSv_int hf
      have hF1 := Rf_cls hF hk1
      refine J_pop dL_law_786 rfl ?_
      refine J_aload_n dL_law_787 rfl rfl ?_
      refine J_aload_n dL_law_788 rfl rfl ?_
      refine J_iload_n dL_law_789 rfl rfl ?_
      refine J_iconst (v := 1) dL_law_790 (by decide) ?_
      refine J_iadd dL_law_791 ?_
      refine J_sld hz (inS h4 hL 1 (by decide) (nI_add _ 1)) dL_law_792 ?_
      rw [ws_sm hF1.1]
      refine cVg wv_L_115 c_X6_save dL_law_793 ob6 rfl rfl (kk := (fun v8 m9 hf2 => ?_))
      obtain ⟨he, hZ⟩ := sim_save hF hC hf hf2
      subst he
      refine J_pop dL_law_796 rfl ?_
      refine J_goto (tgt := 823) dL_law_797 (by decide) ?_
      first | exact kN _ hZ | exact kN _ hS
    | 24, _ =>
      refine J_tableIn (off := 768) (tgt := 800) dL_law_32 (by decide) (by decide) (by decide) (by decide) ?_
      refine J_aload_n dL_law_800 rfl rfl ?_
      refine J_aload_n dL_law_801 rfl rfl ?_
      refine J_iload_n dL_law_802 rfl rfl ?_
      refine J_iconst (v := 1) dL_law_803 (by decide) ?_
      refine J_iadd dL_law_804 ?_
      refine J_sld hz (inS h4 hL 1 (by decide) (nI_add _ 1)) dL_law_805 ?_
      refine cVg wv_L_116 (c_X5_restore hC) dL_law_806 ob5 rfl rfl (kk := (fun v9 m1 hf => ?_))
      obtain ⟨b1, rfl, hk1, hf⟩ := CRe_int hf
      have hF1 := Rf_cls hF hk1
      refine J_pop dL_law_809 rfl ?_
      refine J_aload_n dL_law_810 rfl rfl ?_
      refine J_aload_n dL_law_811 rfl rfl ?_
      refine J_iload_n dL_law_812 rfl rfl ?_
      refine J_iconst (v := 1) dL_law_813 (by decide) ?_
      refine J_iadd dL_law_814 ?_
      refine J_sld hz (inS h4 hL 1 (by decide) (nI_add _ 1)) dL_law_815 ?_
      rw [ws_sm hF1.1]
      refine cVg wv_L_119 (c_X6_restore hF1.2.2.1 hq7) dL_law_816 ob6 rfl rfl (kk := (fun v8 m9 hf2 => ?_))
      obtain ⟨he, hZ⟩ := sim_restore hF hC hq7 hf hf2
      subst he
      refine J_pop dL_law_819 rfl ?_
      refine J_goto (tgt := 823) dL_law_820 (by decide) ?_
      first | exact kN _ hZ | exact kN _ hS
    | k + 25, hk => exact absurd hk (by omega)

set_option maxRecDepth 100000 in
set_option maxHeartbeats 4000000 in
theorem lawLoop {X : jX} {ad : Nat → Nat} {nm : String} (hz : ad 999 = jb X) (had : ∀ k, ad (1000 + k) = jx X k) (hL : jL X ≤ 2048) : ∀ (n k : Nat) (m : Mem), jL X ≤ k + 4 * n → k ≤ 4096 → SimE m → Jg X RL cL_law 4 (some .boolean) nm 12 600000 7302250 (QLw X) ad 201 13353 18 [(0, .ref 999), (1, .ref 0), (2, .ref 195), (3, .int (nI k))] [] (WS X ad m) := by
  intro n
  induction n with
  | zero =>
    intro k m h hk hS
    refine J_iload_n dL_law_18 rfl rfl ?_
    refine J_aload_n dL_law_19 rfl rfl ?_
    refine J_slen hz dL_law_20 ?_
    refine J_iconst (v := 4) dL_law_21 (by decide) ?_
    refine J_isub dL_law_22 ?_
    refine J_icmp_gt (tgt := 829) dL_law_23 (by decide) (fun h23 => ?_) (fun h23 => ?_)
    · exact lawHalt rfl rfl
    · exact absurd (nI_sub4 hL hk h23) (by omega)
  | succ n ih =>
    intro k m h hk hS
    refine J_iload_n dL_law_18 rfl rfl ?_
    refine J_aload_n dL_law_19 rfl rfl ?_
    refine J_slen hz dL_law_20 ?_
    refine J_iconst (v := 4) dL_law_21 (by decide) ?_
    refine J_isub dL_law_22 ?_
    refine J_icmp_gt (tgt := 829) dL_law_23 (by decide) (fun h23 => ?_) (fun h23 => ?_)
    · exact lawHalt rfl rfl
    · have h4 := nI_sub4 hL hk h23
      exact lawStep hz had hL h4 hS (fun m9 h9 => lawNext (ih (k + 4) m9 (by omega) (by omega) h9))

