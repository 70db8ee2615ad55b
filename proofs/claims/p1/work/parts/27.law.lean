/-! THE CLAIM OUT OF ONE WALK OF THE LAW'S BODY. Your part is whole_start (and what it stands on); all else here is the same for every law, but numbers. -/
def R_law : String := "PlugPinsLaw"
def lw_P (b : Addr) (xs : List Int32) (args : Array Value) (s : State) : Prop := args = #[.ref b] ∧ s.IntsAt b xs ∧ xs.length ≤ 4 ∧ (Jvm.Cond.and given_1 narrow_1).before args s = true
def lw_Q (_ : Array Value) (s : State) (o : Outcome) (t : State) : Prop := o = .returned (some (.int 1)) ∧ Framed s o t [] 600000 7302250
def lw_Z (below : List Frame) (a : Array Value) (s : State) : State → Prop := fun t => ∃ o, t.status = .running ∧ Ended t below o ∧ lw_Q a s o t
/-- the law's own end, with 1 on the stack, nothing written that was there before, its room as the claim has it -/
theorem lw_ret {p : Program} {l : Launch} {e : Env} {s : State} {m : MethodId} {below : List Frame} {meth : Method} {c : Code} {b : Nat} (hx : p.tables.exec = Jvm.exec) (hb : c.code = code) (hr : meth.sig.returnType = ret) (hlocks : meth.locks = false) {pc : Nat} {H : Heap} {ls : Array Slot} (hdg : decode code pc = .ok (.ireturn, 1)) : W p l e room_1 s m #[Value.ref b] below meth c H [] 600000 7302250 (lw_Z below #[Value.ref b] s) (F0 m pc ls [.int 1]) := by
  intro T hT X
  obtain ⟨fs, hret, hrun, hended, hW, hframe⟩ := X.leave (v := some (.int 1)) (hlocks := hlocks) (fun h => by rw [hr] at h; cases h)
  have hmeth' : T.vm.method? m = some meth := X.method'
  refine ⟨T.setFrames fs, ?_, .returned (some (.int 1)), hrun, hended, rfl, ⟨_, rfl⟩, hW, hframe⟩
  jvm_step X.here [X.here.top, hx, hb, hdg, hmeth', hr, ret, narrow_b1]
  (try refine ⟨rfl, ?_⟩); (try refine ⟨rfl, ?_⟩)
  first | (intro acts; rw [hret _ acts rfl rfl rfl]) | rw [hret _ _ rfl rfl rfl]
  exact Steps.refl _
/-- what holds at the law's entry: the machine, the code, the tables' words (any of lw_tbl by 'hts w (by decide +kernel)'), the script of L ints xs at the cell b, what the Statement gives of the start (any of its parts by flat_of_before) -/
def lw_At (p : Program) (s : State) (m : MethodId) (meth : Method) (c : Code) (b L : Nat) (xs : Nat → Int32) : Prop :=
  p.tables.exec = Jvm.exec ∧ c.code = code ∧ meth.sig.returnType = ret ∧ c.maxLocals = 4 ∧ s.vm.findClass R_law = some m.cls ∧ (∀ w ∈ lw_tbl, w.before #[Value.ref b] s = true) ∧ va_X b L xs s s.heap ∧ b < s.heap.size ∧ meth.locks = false ∧ (Jvm.Cond.and given_1 narrow_1).before #[Value.ref b] s = true

theorem lw_retR {p : Program} {l : Launch} {e : Env} {s : State} {m : MethodId} {below : List Frame} {meth : Method} {c : Code} {R : Room} {args : Array Value} {cc : ByteArray} (hx : p.tables.exec = Jvm.exec) (hb : c.code = cc) (hr : meth.sig.returnType = ret) (hlocks : meth.locks = false) {pc : Nat} {H : Heap} {ls : Array Slot} (hdg : decode cc pc = .ok (.ireturn, 1)) : W p l e R s m args below meth c H [] 600000 7302250 (lw_Z below args s) (F0 m pc ls [.int 1]) := by
  intro T hT X
  obtain ⟨fs, hret, hrun, hended, hW, hframe⟩ := X.leave (v := some (.int 1)) (hlocks := hlocks) (fun h => by rw [hr] at h; cases h)
  have hmeth' : T.vm.method? m = some meth := X.method'
  refine ⟨T.setFrames fs, ?_, .returned (some (.int 1)), hrun, hended, rfl, ⟨_, rfl⟩, hW, hframe⟩
  jvm_step X.here [X.here.top, hx, hb, hdg, hmeth', hr, ret, narrow_b1]
  (try refine ⟨rfl, ?_⟩); (try refine ⟨rfl, ?_⟩)
  first | (intro acts; rw [hret _ acts rfl rfl rfl]) | rw [hret _ _ rfl rfl rfl]
  exact Steps.refl _

def QL (X : jX) : List Frame → Array Value → State → State → Prop := fun below args s t => jSZ X = s.heap.size → lw_Z below args s t
theorem J_lawret {X : jX} {own : String} {cc : ByteArray} {nL : Nat} {nm : String} {d CR SR : Nat} {ad : Nat → Nat} {cells slots pc : Nat} {lv : List (Nat × Value)} {ws : va_W} (hdg : decode cc pc = .ok (.ireturn, 1)) (hc1 : Nat.ble cells 600000 = true) (hs1 : Nat.ble slots 7302250 = true) : Jg X own cc nL (some .boolean) nm d CR SR (QL X) ad cells slots pc lv [.int 1] ws := by
  intro p e R s m args below meth c H locs ls hC hP hD hS hl
  obtain ⟨hx, hb, hml, hr, hnm, hown, hts, hlk, hfr, hlo, hcr, hsr, hE, hz⟩ := id hC
  by_cases hq : jSZ X = s.heap.size
  · refine W.widen (Nat.le_of_ble_eq_true hc1) (Nat.le_of_ble_eq_true hs1) (va_forget (fun q h => ?_) ?_)
    · have h1 : jSZ X ≤ q.base := hS.2.2 q h
      rw [← hq]
      exact h1
    · intro T hT Y
      obtain ⟨t, a1, b1⟩ := lw_retR hx hb hr hlk hdg T hT Y
      exact ⟨t, a1, fun _ => b1⟩
  · intro T hT Y
    exact ⟨_, Steps.refl _, fun h => absurd h hq⟩
theorem adW_had {X : jX} {h0 hh hq pp p1 p2 sv zs m0 m1 m2 m3 m4 m5 : Nat} {A B C D : Nat → Nat} {E : Nat → Nat → Nat} (k : Nat) : adW X h0 hh hq pp p1 p2 sv zs m0 m1 m2 m3 m4 m5 A B C D E (1000 + k) = jx X k := by
  rw [show 1000 + k = (999 + k) + 1 by omega]
  show (if 999 + k < 187 then _ else if 999 + k < 200 then _ else if 999 + k = 998 then _ else jx X (999 + k - 999)) = _
  rw [if_neg (by omega), if_neg (by omega), if_neg (by omega), Nat.add_sub_cancel_left]
theorem J_move {X : jX} {own : String} {cc : ByteArray} {nL : Nat} {ret : Option FieldType} {nm : String} {d CR SR : Nat} {Q : List Frame → Array Value → State → State → Prop} {cells slots pc : Nat} {h0 hh hq pp p1 p2 sv zs m0 m1 m2 m3 m4 m5 : Nat} {A B C D : Nat → Nat} {E : Nat → Nat → Nat}
    (k : Jg X own cc nL ret nm d CR SR Q (adW X h0 hh hq pp p1 p2 sv zs m0 m1 m2 m3 m4 m5 A B C D E) cells slots pc [(0, .ref 999), (1, .ref 0), (2, .ref 195)] [] (WS X (adW X h0 hh hq pp p1 p2 sv zs m0 m1 m2 m3 m4 m5 A B C D E) mem0)) :
    Jg X own cc nL ret nm d CR SR Q (fun n => n) cells slots pc [(0, .ref (jb X)), (1, .ref h0), (2, .ref m0)] [] (ppW X h0 hh hq pp p1 p2 sv zs A B C D E ++ modW X m0 m1 m2 m3 m4 m5) := by
  intro p e R s m args below meth c H locs ls hC hP hD hS hl
  exact k p e R s m args below meth c H locs ls hC (asm_P hP) (asm_D hD) hS hl
theorem in_sc {X : jX} {i : Int32} (hL : jL X = 4) (h : vp_in i 4) : vp_in i (jL X) := by
  rw [hL]
  exact h
set_option maxRecDepth 100000 in
set_option maxHeartbeats 4000000 in
theorem lawHalt {X : jX} {ad : Nat → Nat} {nm : String} {ws : va_W} {lv : List (Nat × Value)} {cells slots : Nat} (hc : Nat.ble cells 600000 = true) (hs : Nat.ble slots 7302250 = true) : Jg X RL cL_law 4 (some .boolean) nm 12 600000 7302250 (QL X) ad cells slots 829 lv [] ws := by
  refine J_iconst (v := 1) dL_law_829 (by decide) ?_
  exact J_lawret dL_law_830 hc hs

set_option maxRecDepth 100000 in
set_option maxHeartbeats 4000000 in
theorem lawEnd {X : jX} {ad : Nat → Nat} {nm : String} {m : Mem} (hz : ad 999 = jb X) (hL : jL X = 4) : Jg X RL cL_law 4 (some .boolean) nm 12 600000 7302250 (QL X) ad 201 13353 823 [(0, .ref 999), (1, .ref 0), (2, .ref 195), (3, .int 0)] [] (WS X ad m) := by
  refine J_iinc (v := 4) dL_law_823 rfl (by decide) rfl rfl ?_
  refine J_goto (tgt := 18) dL_law_826 (by decide) ?_
  refine J_iload_n dL_law_18 rfl rfl ?_
  refine J_aload_n dL_law_19 rfl rfl ?_
  refine J_slen hz dL_law_20 ?_
  refine J_iconst (v := 4) dL_law_21 (by decide) ?_
  refine J_isub dL_law_22 ?_
  refine J_icmp_gt (tgt := 829) dL_law_23 (by decide) (fun h23 => ?_) (fun h23 => absurd (by rw [hL]; decide) h23)
  exact lawHalt rfl rfl

set_option maxRecDepth 100000 in
set_option maxHeartbeats 4000000 in
theorem lawCall {X : jX} {ad : Nat → Nat} {nm : String} (hz : ad 999 = jb X) (had : ∀ k, ad (1000 + k) = jx X k) (hL : jL X = 4) : Jg X RL cL_law 4 (some .boolean) nm 12 600000 7302250 (QL X) ad 201 13353 18 [(0, .ref 999), (1, .ref 0), (2, .ref 195), (3, .int 0)] [] (WS X ad mem0) := by
  refine J_iload_n dL_law_18 rfl rfl ?_
  refine J_aload_n dL_law_19 rfl rfl ?_
  refine J_slen hz dL_law_20 ?_
  refine J_iconst (v := 4) dL_law_21 (by decide) ?_
  refine J_isub dL_law_22 ?_
  refine J_icmp_gt (tgt := 829) dL_law_23 (by decide) (fun h23 => absurd h23 (by rw [hL]; decide)) (fun h23 => ?_)
  refine J_aload_n dL_law_26 rfl rfl ?_
  refine J_iload_n dL_law_27 rfl rfl ?_
  refine J_sld hz (in_sc hL (blt_in (k := 0) (by decide) (by decide) rfl)) dL_law_28 ?_
  refine J_bipush (v := 31) dL_law_29 (by decide) ?_
  refine J_iand dL_law_31 ?_
  refine J_topi (fun w hw => ?_)
  by_cases hts : w.toInt < 0 ∨ 24 < w.toInt
  · refine J_tableOut (tgt := 823) dL_law_32 hts (by decide) ?_
    exact lawEnd hz hL
  · obtain ⟨k, hk, rfl⟩ := tin (n := 25) (m := 24) rfl hts
    match k, hk with
    | 0, _ =>
      refine J_tableIn (off := 116) (tgt := 148) dL_law_32 (by decide) (by decide) (by decide) (by decide) ?_
      refine J_aload_n dL_law_148 rfl rfl ?_
      refine J_aload_n dL_law_149 rfl rfl ?_
      refine J_iload_n dL_law_150 rfl rfl ?_
      refine J_iconst (v := 1) dL_law_151 (by decide) ?_
      refine J_iadd dL_law_152 ?_
      refine J_sld hz (in_sc hL (blt_in (k := 1) (by decide) (by decide) rfl)) dL_law_153 ?_
      refine J_aload_n dL_law_154 rfl rfl ?_
      refine J_iload_n dL_law_155 rfl rfl ?_
      refine J_iconst (v := 2) dL_law_156 (by decide) ?_
      refine J_iadd dL_law_157 ?_
      refine J_sld hz (in_sc hL (blt_in (k := 2) (by decide) (by decide) rfl)) dL_law_158 ?_
      refine cVg wv_L_13 (c_X5_set had) dL_law_159 ob5 rfl rfl (kk := (fun v9 m1 hf => ?_))
      obtain ⟨rfl, hH⟩ := hf
      refine J_aload_n dL_law_162 rfl rfl ?_
      refine J_aload_n dL_law_163 rfl rfl ?_
      refine J_iload_n dL_law_164 rfl rfl ?_
      refine J_iconst (v := 1) dL_law_165 (by decide) ?_
      refine J_iadd dL_law_166 ?_
      refine J_sld hz (in_sc hL (blt_in (k := 1) (by decide) (by decide) rfl)) dL_law_167 ?_
      refine J_aload_n dL_law_168 rfl rfl ?_
      refine J_iload_n dL_law_169 rfl rfl ?_
      refine J_iconst (v := 2) dL_law_170 (by decide) ?_
      refine J_iadd dL_law_171 ?_
      refine J_sld hz (in_sc hL (blt_in (k := 2) (by decide) (by decide) rfl)) dL_law_172 ?_
      refine cVg wv_L_17 (c_X6_set (hH 195 (by decide)) (hH 196 (by decide))) dL_law_173 ob6 rfl rfl (kk := (fun v9 m2 hf => ?_))
      subst hf
      refine J_icmp_eq (tgt := 823) dL_law_176 (by decide) (fun h176 => ?_) (fun h176 => absurd (chg_eq _ _) h176)
      exact lawEnd hz hL
    | 1, _ =>
      refine J_tableIn (off := 149) (tgt := 181) dL_law_32 (by decide) (by decide) (by decide) (by decide) ?_
      refine J_aload_n dL_law_181 rfl rfl ?_
      refine J_aload_n dL_law_182 rfl rfl ?_
      refine J_iload_n dL_law_183 rfl rfl ?_
      refine J_iconst (v := 1) dL_law_184 (by decide) ?_
      refine J_iadd dL_law_185 ?_
      refine J_sld hz (in_sc hL (blt_in (k := 1) (by decide) (by decide) rfl)) dL_law_186 ?_
      refine J_aload_n dL_law_187 rfl rfl ?_
      refine J_iload_n dL_law_188 rfl rfl ?_
      refine J_iconst (v := 2) dL_law_189 (by decide) ?_
      refine J_iadd dL_law_190 ?_
      refine J_sld hz (in_sc hL (blt_in (k := 2) (by decide) (by decide) rfl)) dL_law_191 ?_
      refine cVg wv_L_18 (c_X5_board had) dL_law_192 ob5 rfl rfl (kk := (fun v9 m1 hf => ?_))
      obtain ⟨rfl, hH⟩ := hf
      refine J_aload_n dL_law_195 rfl rfl ?_
      refine J_aload_n dL_law_196 rfl rfl ?_
      refine J_iload_n dL_law_197 rfl rfl ?_
      refine J_iconst (v := 1) dL_law_198 (by decide) ?_
      refine J_iadd dL_law_199 ?_
      refine J_sld hz (in_sc hL (blt_in (k := 1) (by decide) (by decide) rfl)) dL_law_200 ?_
      refine J_aload_n dL_law_201 rfl rfl ?_
      refine J_iload_n dL_law_202 rfl rfl ?_
      refine J_iconst (v := 2) dL_law_203 (by decide) ?_
      refine J_iadd dL_law_204 ?_
      refine J_sld hz (in_sc hL (blt_in (k := 2) (by decide) (by decide) rfl)) dL_law_205 ?_
      refine cVg wv_L_21 (c_X6_board (hH 195 (by decide)) (hH 196 (by decide))) dL_law_206 ob6 rfl rfl (kk := (fun v9 m2 hf => ?_))
      subst hf
      refine J_icmp_eq (tgt := 823) dL_law_209 (by decide) (fun h209 => ?_) (fun h209 => absurd rfl h209)
      exact lawEnd hz hL
    | 2, _ =>
      refine J_tableIn (off := 182) (tgt := 214) dL_law_32 (by decide) (by decide) (by decide) (by decide) ?_
      refine J_aload_n dL_law_214 rfl rfl ?_
      refine J_aload_n dL_law_215 rfl rfl ?_
      refine J_iload_n dL_law_216 rfl rfl ?_
      refine J_iconst (v := 1) dL_law_217 (by decide) ?_
      refine J_iadd dL_law_218 ?_
      refine J_sld hz (in_sc hL (blt_in (k := 1) (by decide) (by decide) rfl)) dL_law_219 ?_
      refine J_aload_n dL_law_220 rfl rfl ?_
      refine J_iload_n dL_law_221 rfl rfl ?_
      refine J_iconst (v := 2) dL_law_222 (by decide) ?_
      refine J_iadd dL_law_223 ?_
      refine J_sld hz (in_sc hL (blt_in (k := 2) (by decide) (by decide) rfl)) dL_law_224 ?_
      refine J_aload_n dL_law_225 rfl rfl ?_
      refine J_iload_n dL_law_226 rfl rfl ?_
      refine J_iconst (v := 3) dL_law_227 (by decide) ?_
      refine J_iadd dL_law_228 ?_
      refine J_sld hz (in_sc hL (blt_in (k := 3) (by decide) (by decide) rfl)) dL_law_229 ?_
      refine cVg wv_L_22 c_X5_plug dL_law_230 ob5 rfl rfl (kk := (fun v9 m1 hf => ?_))
      obtain ⟨rfl, hH⟩ := hf
      refine J_aload_n dL_law_233 rfl rfl ?_
      refine J_aload_n dL_law_234 rfl rfl ?_
      refine J_iload_n dL_law_235 rfl rfl ?_
      refine J_iconst (v := 1) dL_law_236 (by decide) ?_
      refine J_iadd dL_law_237 ?_
      refine J_sld hz (in_sc hL (blt_in (k := 1) (by decide) (by decide) rfl)) dL_law_238 ?_
      refine J_aload_n dL_law_239 rfl rfl ?_
      refine J_iload_n dL_law_240 rfl rfl ?_
      refine J_iconst (v := 2) dL_law_241 (by decide) ?_
      refine J_iadd dL_law_242 ?_
      refine J_sld hz (in_sc hL (blt_in (k := 2) (by decide) (by decide) rfl)) dL_law_243 ?_
      refine J_aload_n dL_law_244 rfl rfl ?_
      refine J_iload_n dL_law_245 rfl rfl ?_
      refine J_iconst (v := 3) dL_law_246 (by decide) ?_
      refine J_iadd dL_law_247 ?_
      refine J_sld hz (in_sc hL (blt_in (k := 3) (by decide) (by decide) rfl)) dL_law_248 ?_
      refine cVg wv_L_26 (c_X6_plug (hH 195 (by decide)) (hH 196 (by decide))) dL_law_249 ob6 rfl rfl (kk := (fun v9 m2 hf => ?_))
      subst hf
      refine J_icmp_eq (tgt := 823) dL_law_252 (by decide) (fun h252 => ?_) (fun h252 => absurd rfl h252)
      exact lawEnd hz hL
    | 3, _ =>
      refine J_tableIn (off := 225) (tgt := 257) dL_law_32 (by decide) (by decide) (by decide) (by decide) ?_
      refine J_aload_n dL_law_257 rfl rfl ?_
      refine J_aload_n dL_law_258 rfl rfl ?_
      refine J_iload_n dL_law_259 rfl rfl ?_
      refine J_iconst (v := 1) dL_law_260 (by decide) ?_
      refine J_iadd dL_law_261 ?_
      refine J_sld hz (in_sc hL (blt_in (k := 1) (by decide) (by decide) rfl)) dL_law_262 ?_
      refine J_aload_n dL_law_263 rfl rfl ?_
      refine J_iload_n dL_law_264 rfl rfl ?_
      refine J_iconst (v := 2) dL_law_265 (by decide) ?_
      refine J_iadd dL_law_266 ?_
      refine J_sld hz (in_sc hL (blt_in (k := 2) (by decide) (by decide) rfl)) dL_law_267 ?_
      refine cVg wv_L_27 c_X5_pull dL_law_268 ob5 rfl rfl (kk := (fun v9 m1 hf => ?_))
      obtain ⟨rfl, hH⟩ := hf
      refine J_aload_n dL_law_271 rfl rfl ?_
      refine J_aload_n dL_law_272 rfl rfl ?_
      refine J_iload_n dL_law_273 rfl rfl ?_
      refine J_iconst (v := 1) dL_law_274 (by decide) ?_
      refine J_iadd dL_law_275 ?_
      refine J_sld hz (in_sc hL (blt_in (k := 1) (by decide) (by decide) rfl)) dL_law_276 ?_
      refine J_aload_n dL_law_277 rfl rfl ?_
      refine J_iload_n dL_law_278 rfl rfl ?_
      refine J_iconst (v := 2) dL_law_279 (by decide) ?_
      refine J_iadd dL_law_280 ?_
      refine J_sld hz (in_sc hL (blt_in (k := 2) (by decide) (by decide) rfl)) dL_law_281 ?_
      refine cVg wv_L_30 (c_X6_pull (hH 195 (by decide)) (hH 196 (by decide))) dL_law_282 ob6 rfl rfl (kk := (fun v9 m2 hf => ?_))
      subst hf
      refine J_icmp_eq (tgt := 823) dL_law_285 (by decide) (fun h285 => ?_) (fun h285 => absurd rfl h285)
      exact lawEnd hz hL
    | 4, _ =>
      refine J_tableIn (off := 258) (tgt := 290) dL_law_32 (by decide) (by decide) (by decide) (by decide) ?_
      refine J_aload_n dL_law_290 rfl rfl ?_
      refine J_aload_n dL_law_291 rfl rfl ?_
      refine J_iload_n dL_law_292 rfl rfl ?_
      refine J_iconst (v := 1) dL_law_293 (by decide) ?_
      refine J_iadd dL_law_294 ?_
      refine J_sld hz (in_sc hL (blt_in (k := 1) (by decide) (by decide) rfl)) dL_law_295 ?_
      refine cVg wv_L_31 c_X5_ask dL_law_296 ob5 rfl rfl (kk := (fun v9 m1 hf => ?_))
      obtain ⟨rfl, hH⟩ := hf
      refine J_aload_n dL_law_299 rfl rfl ?_
      refine J_aload_n dL_law_300 rfl rfl ?_
      refine J_iload_n dL_law_301 rfl rfl ?_
      refine J_iconst (v := 1) dL_law_302 (by decide) ?_
      refine J_iadd dL_law_303 ?_
      refine J_sld hz (in_sc hL (blt_in (k := 1) (by decide) (by decide) rfl)) dL_law_304 ?_
      refine cVg wv_L_35 (c_X6_ask (hH 195 (by decide)) (hH 196 (by decide))) dL_law_305 ob6 rfl rfl (kk := (fun v9 m2 hf => ?_))
      subst hf
      refine J_icmp_eq (tgt := 823) dL_law_308 (by decide) (fun h308 => ?_) (fun h308 => absurd rfl h308)
      exact lawEnd hz hL
    | 5, _ =>
      refine J_tableIn (off := 281) (tgt := 313) dL_law_32 (by decide) (by decide) (by decide) (by decide) ?_
      refine J_aload_n dL_law_313 rfl rfl ?_
      refine J_aload_n dL_law_314 rfl rfl ?_
      refine J_iload_n dL_law_315 rfl rfl ?_
      refine J_iconst (v := 1) dL_law_316 (by decide) ?_
      refine J_iadd dL_law_317 ?_
      refine J_sld hz (in_sc hL (blt_in (k := 1) (by decide) (by decide) rfl)) dL_law_318 ?_
      refine J_aload_n dL_law_319 rfl rfl ?_
      refine J_iload_n dL_law_320 rfl rfl ?_
      refine J_iconst (v := 2) dL_law_321 (by decide) ?_
      refine J_iadd dL_law_322 ?_
      refine J_sld hz (in_sc hL (blt_in (k := 2) (by decide) (by decide) rfl)) dL_law_323 ?_
      refine cVg wv_L_36 c_X5_send dL_law_324 ob5 rfl rfl (kk := (fun v9 m1 hf => ?_))
      obtain ⟨rfl, hH⟩ := hf
      refine J_aload_n dL_law_327 rfl rfl ?_
      refine J_aload_n dL_law_328 rfl rfl ?_
      refine J_iload_n dL_law_329 rfl rfl ?_
      refine J_iconst (v := 1) dL_law_330 (by decide) ?_
      refine J_iadd dL_law_331 ?_
      refine J_sld hz (in_sc hL (blt_in (k := 1) (by decide) (by decide) rfl)) dL_law_332 ?_
      refine J_aload_n dL_law_333 rfl rfl ?_
      refine J_iload_n dL_law_334 rfl rfl ?_
      refine J_iconst (v := 2) dL_law_335 (by decide) ?_
      refine J_iadd dL_law_336 ?_
      refine J_sld hz (in_sc hL (blt_in (k := 2) (by decide) (by decide) rfl)) dL_law_337 ?_
      refine cVg wv_L_39 (c_X6_send (hH 195 (by decide)) (hH 196 (by decide))) dL_law_338 ob6 rfl rfl (kk := (fun v9 m2 hf => ?_))
      subst hf
      refine J_icmp_eq (tgt := 823) dL_law_341 (by decide) (fun h341 => ?_) (fun h341 => absurd rfl h341)
      exact lawEnd hz hL
    | 6, _ =>
      refine J_tableIn (off := 314) (tgt := 346) dL_law_32 (by decide) (by decide) (by decide) (by decide) ?_
      refine J_aload_n dL_law_346 rfl rfl ?_
      refine J_aload_n dL_law_347 rfl rfl ?_
      refine J_iload_n dL_law_348 rfl rfl ?_
      refine J_iconst (v := 1) dL_law_349 (by decide) ?_
      refine J_iadd dL_law_350 ?_
      refine J_sld hz (in_sc hL (blt_in (k := 1) (by decide) (by decide) rfl)) dL_law_351 ?_
      refine cVg wv_L_40 (c_X5_pass had) dL_law_352 ob5 rfl rfl (kk := (fun v9 m1 hf => ?_))
      obtain ⟨rfl, hH⟩ := hf
      refine J_aload_n dL_law_355 rfl rfl ?_
      refine J_aload_n dL_law_356 rfl rfl ?_
      refine J_iload_n dL_law_357 rfl rfl ?_
      refine J_iconst (v := 1) dL_law_358 (by decide) ?_
      refine J_iadd dL_law_359 ?_
      refine J_sld hz (in_sc hL (blt_in (k := 1) (by decide) (by decide) rfl)) dL_law_360 ?_
      refine cVg wv_L_43 (c_X6_pass (hH 195 (by decide)) (hH 196 (by decide))) dL_law_361 ob6 rfl rfl (kk := (fun v9 m2 hf => ?_))
      subst hf
      refine J_icmp_eq (tgt := 823) dL_law_364 (by decide) (fun h364 => ?_) (fun h364 => absurd rfl h364)
      exact lawEnd hz hL
    | 7, _ =>
      refine J_tableIn (off := 337) (tgt := 369) dL_law_32 (by decide) (by decide) (by decide) (by decide) ?_
      refine J_aload_n dL_law_369 rfl rfl ?_
      refine J_aload_n dL_law_370 rfl rfl ?_
      refine J_iload_n dL_law_371 rfl rfl ?_
      refine J_iconst (v := 1) dL_law_372 (by decide) ?_
      refine J_iadd dL_law_373 ?_
      refine J_sld hz (in_sc hL (blt_in (k := 1) (by decide) (by decide) rfl)) dL_law_374 ?_
      refine J_aload_n dL_law_375 rfl rfl ?_
      refine J_iload_n dL_law_376 rfl rfl ?_
      refine J_iconst (v := 2) dL_law_377 (by decide) ?_
      refine J_iadd dL_law_378 ?_
      refine J_sld hz (in_sc hL (blt_in (k := 2) (by decide) (by decide) rfl)) dL_law_379 ?_
      refine cVg wv_L_44 c_X5_of dL_law_380 ob5 rfl rfl (kk := (fun v9 m1 hf => ?_))
      obtain ⟨rfl, hH⟩ := hf
      refine J_aload_n dL_law_383 rfl rfl ?_
      refine J_aload_n dL_law_384 rfl rfl ?_
      refine J_iload_n dL_law_385 rfl rfl ?_
      refine J_iconst (v := 1) dL_law_386 (by decide) ?_
      refine J_iadd dL_law_387 ?_
      refine J_sld hz (in_sc hL (blt_in (k := 1) (by decide) (by decide) rfl)) dL_law_388 ?_
      refine J_aload_n dL_law_389 rfl rfl ?_
      refine J_iload_n dL_law_390 rfl rfl ?_
      refine J_iconst (v := 2) dL_law_391 (by decide) ?_
      refine J_iadd dL_law_392 ?_
      refine J_sld hz (in_sc hL (blt_in (k := 2) (by decide) (by decide) rfl)) dL_law_393 ?_
      refine cVg wv_L_47 (c_X6_of (hH 195 (by decide)) (hH 196 (by decide))) dL_law_394 ob6 rfl rfl (kk := (fun v9 m2 hf => ?_))
      subst hf
      refine J_icmp_eq (tgt := 823) dL_law_397 (by decide) (fun h397 => ?_) (fun h397 => absurd rfl h397)
      exact lawEnd hz hL
    | 8, _ =>
      refine J_tableIn (off := 370) (tgt := 402) dL_law_32 (by decide) (by decide) (by decide) (by decide) ?_
      refine J_aload_n dL_law_402 rfl rfl ?_
      refine J_aload_n dL_law_403 rfl rfl ?_
      refine J_iload_n dL_law_404 rfl rfl ?_
      refine J_iconst (v := 1) dL_law_405 (by decide) ?_
      refine J_iadd dL_law_406 ?_
      refine J_sld hz (in_sc hL (blt_in (k := 1) (by decide) (by decide) rfl)) dL_law_407 ?_
      refine cVg wv_L_48 c_X5_slot dL_law_408 ob5 rfl rfl (kk := (fun v9 m1 hf => ?_))
      obtain ⟨rfl, hH⟩ := hf
      refine J_aload_n dL_law_411 rfl rfl ?_
      refine J_aload_n dL_law_412 rfl rfl ?_
      refine J_iload_n dL_law_413 rfl rfl ?_
      refine J_iconst (v := 1) dL_law_414 (by decide) ?_
      refine J_iadd dL_law_415 ?_
      refine J_sld hz (in_sc hL (blt_in (k := 1) (by decide) (by decide) rfl)) dL_law_416 ?_
      refine cVg wv_L_51 (c_X6_slot (hH 195 (by decide)) (hH 196 (by decide))) dL_law_417 ob6 rfl rfl (kk := (fun v9 m2 hf => ?_))
      subst hf
      refine J_icmp_eq (tgt := 823) dL_law_420 (by decide) (fun h420 => ?_) (fun h420 => absurd rfl h420)
      exact lawEnd hz hL
    | 9, _ =>
      refine J_tableIn (off := 393) (tgt := 425) dL_law_32 (by decide) (by decide) (by decide) (by decide) ?_
      refine J_aload_n dL_law_425 rfl rfl ?_
      refine J_aload_n dL_law_426 rfl rfl ?_
      refine J_iload_n dL_law_427 rfl rfl ?_
      refine J_iconst (v := 1) dL_law_428 (by decide) ?_
      refine J_iadd dL_law_429 ?_
      refine J_sld hz (in_sc hL (blt_in (k := 1) (by decide) (by decide) rfl)) dL_law_430 ?_
      refine J_aload_n dL_law_431 rfl rfl ?_
      refine J_iload_n dL_law_432 rfl rfl ?_
      refine J_iconst (v := 2) dL_law_433 (by decide) ?_
      refine J_iadd dL_law_434 ?_
      refine J_sld hz (in_sc hL (blt_in (k := 2) (by decide) (by decide) rfl)) dL_law_435 ?_
      refine cVg wv_L_52 c_X5_word dL_law_436 ob5 rfl rfl (kk := (fun v9 m1 hf => ?_))
      obtain ⟨rfl, hH⟩ := hf
      refine J_aload_n dL_law_439 rfl rfl ?_
      refine J_aload_n dL_law_440 rfl rfl ?_
      refine J_iload_n dL_law_441 rfl rfl ?_
      refine J_iconst (v := 1) dL_law_442 (by decide) ?_
      refine J_iadd dL_law_443 ?_
      refine J_sld hz (in_sc hL (blt_in (k := 1) (by decide) (by decide) rfl)) dL_law_444 ?_
      refine J_aload_n dL_law_445 rfl rfl ?_
      refine J_iload_n dL_law_446 rfl rfl ?_
      refine J_iconst (v := 2) dL_law_447 (by decide) ?_
      refine J_iadd dL_law_448 ?_
      refine J_sld hz (in_sc hL (blt_in (k := 2) (by decide) (by decide) rfl)) dL_law_449 ?_
      refine cVg wv_L_55 (c_X6_word (hH 195 (by decide)) (hH 196 (by decide))) dL_law_450 ob6 rfl rfl (kk := (fun v9 m2 hf => ?_))
      subst hf
      refine J_icmp_eq (tgt := 823) dL_law_453 (by decide) (fun h453 => ?_) (fun h453 => absurd rfl h453)
      exact lawEnd hz hL
    | 10, _ =>
      refine J_tableIn (off := 426) (tgt := 458) dL_law_32 (by decide) (by decide) (by decide) (by decide) ?_
      refine J_aload_n dL_law_458 rfl rfl ?_
      refine J_aload_n dL_law_459 rfl rfl ?_
      refine J_iload_n dL_law_460 rfl rfl ?_
      refine J_iconst (v := 1) dL_law_461 (by decide) ?_
      refine J_iadd dL_law_462 ?_
      refine J_sld hz (in_sc hL (blt_in (k := 1) (by decide) (by decide) rfl)) dL_law_463 ?_
      refine cVg wv_L_56 c_X5_waiting dL_law_464 ob5 rfl rfl (kk := (fun v9 m1 hf => ?_))
      obtain ⟨rfl, hH⟩ := hf
      refine J_aload_n dL_law_467 rfl rfl ?_
      refine J_aload_n dL_law_468 rfl rfl ?_
      refine J_iload_n dL_law_469 rfl rfl ?_
      refine J_iconst (v := 1) dL_law_470 (by decide) ?_
      refine J_iadd dL_law_471 ?_
      refine J_sld hz (in_sc hL (blt_in (k := 1) (by decide) (by decide) rfl)) dL_law_472 ?_
      refine cVg wv_L_59 (c_X6_waiting (hH 195 (by decide)) (hH 196 (by decide))) dL_law_473 ob6 rfl rfl (kk := (fun v9 m2 hf => ?_))
      subst hf
      refine J_icmp_eq (tgt := 823) dL_law_476 (by decide) (fun h476 => ?_) (fun h476 => absurd rfl h476)
      exact lawEnd hz hL
    | 11, _ =>
      refine J_tableIn (off := 449) (tgt := 481) dL_law_32 (by decide) (by decide) (by decide) (by decide) ?_
      refine J_aload_n dL_law_481 rfl rfl ?_
      refine J_aload_n dL_law_482 rfl rfl ?_
      refine J_iload_n dL_law_483 rfl rfl ?_
      refine J_iconst (v := 1) dL_law_484 (by decide) ?_
      refine J_iadd dL_law_485 ?_
      refine J_sld hz (in_sc hL (blt_in (k := 1) (by decide) (by decide) rfl)) dL_law_486 ?_
      refine cVg wv_L_60 c_X5_count dL_law_487 ob5 rfl rfl (kk := (fun v9 m1 hf => ?_))
      obtain ⟨rfl, hH⟩ := hf
      refine J_aload_n dL_law_490 rfl rfl ?_
      refine J_aload_n dL_law_491 rfl rfl ?_
      refine J_iload_n dL_law_492 rfl rfl ?_
      refine J_iconst (v := 1) dL_law_493 (by decide) ?_
      refine J_iadd dL_law_494 ?_
      refine J_sld hz (in_sc hL (blt_in (k := 1) (by decide) (by decide) rfl)) dL_law_495 ?_
      refine cVg wv_L_63 (c_X6_count (hH 195 (by decide)) (hH 196 (by decide))) dL_law_496 ob6 rfl rfl (kk := (fun v9 m2 hf => ?_))
      subst hf
      refine J_icmp_eq (tgt := 823) dL_law_499 (by decide) (fun h499 => ?_) (fun h499 => absurd rfl h499)
      exact lawEnd hz hL
    | 12, _ =>
      refine J_tableIn (off := 472) (tgt := 504) dL_law_32 (by decide) (by decide) (by decide) (by decide) ?_
      refine J_aload_n dL_law_504 rfl rfl ?_
      refine J_aload_n dL_law_505 rfl rfl ?_
      refine J_iload_n dL_law_506 rfl rfl ?_
      refine J_iconst (v := 1) dL_law_507 (by decide) ?_
      refine J_iadd dL_law_508 ?_
      refine J_sld hz (in_sc hL (blt_in (k := 1) (by decide) (by decide) rfl)) dL_law_509 ?_
      refine cVg wv_L_64 c_X5_known dL_law_510 ob5 rfl rfl (kk := (fun v9 m1 hf => ?_))
      obtain ⟨rfl, hH⟩ := hf
      refine J_aload_n dL_law_513 rfl rfl ?_
      refine J_aload_n dL_law_514 rfl rfl ?_
      refine J_iload_n dL_law_515 rfl rfl ?_
      refine J_iconst (v := 1) dL_law_516 (by decide) ?_
      refine J_iadd dL_law_517 ?_
      refine J_sld hz (in_sc hL (blt_in (k := 1) (by decide) (by decide) rfl)) dL_law_518 ?_
      refine cVg wv_L_67 (c_X6_known (hH 195 (by decide)) (hH 196 (by decide))) dL_law_519 ob6 rfl rfl (kk := (fun v9 m2 hf => ?_))
      subst hf
      refine J_icmp_eq (tgt := 823) dL_law_522 (by decide) (fun h522 => ?_) (fun h522 => absurd rfl h522)
      exact lawEnd hz hL
    | 13, _ =>
      refine J_tableIn (off := 495) (tgt := 527) dL_law_32 (by decide) (by decide) (by decide) (by decide) ?_
      refine J_aload_n dL_law_527 rfl rfl ?_
      refine J_aload_n dL_law_528 rfl rfl ?_
      refine J_iload_n dL_law_529 rfl rfl ?_
      refine J_iconst (v := 1) dL_law_530 (by decide) ?_
      refine J_iadd dL_law_531 ?_
      refine J_sld hz (in_sc hL (blt_in (k := 1) (by decide) (by decide) rfl)) dL_law_532 ?_
      refine J_aload_n dL_law_533 rfl rfl ?_
      refine J_iload_n dL_law_534 rfl rfl ?_
      refine J_iconst (v := 2) dL_law_535 (by decide) ?_
      refine J_iadd dL_law_536 ?_
      refine J_sld hz (in_sc hL (blt_in (k := 2) (by decide) (by decide) rfl)) dL_law_537 ?_
      refine cVg wv_L_68 c_X5_why dL_law_538 ob5 rfl rfl (kk := (fun v9 m1 hf => ?_))
      obtain ⟨rfl, hH⟩ := hf
      refine J_aload_n dL_law_541 rfl rfl ?_
      refine J_aload_n dL_law_542 rfl rfl ?_
      refine J_iload_n dL_law_543 rfl rfl ?_
      refine J_iconst (v := 1) dL_law_544 (by decide) ?_
      refine J_iadd dL_law_545 ?_
      refine J_sld hz (in_sc hL (blt_in (k := 1) (by decide) (by decide) rfl)) dL_law_546 ?_
      refine J_aload_n dL_law_547 rfl rfl ?_
      refine J_iload_n dL_law_548 rfl rfl ?_
      refine J_iconst (v := 2) dL_law_549 (by decide) ?_
      refine J_iadd dL_law_550 ?_
      refine J_sld hz (in_sc hL (blt_in (k := 2) (by decide) (by decide) rfl)) dL_law_551 ?_
      refine cVg wv_L_71 (c_X6_why (hH 195 (by decide)) (hH 196 (by decide))) dL_law_552 ob6 rfl rfl (kk := (fun v9 m2 hf => ?_))
      subst hf
      refine J_icmp_eq (tgt := 823) dL_law_555 (by decide) (fun h555 => ?_) (fun h555 => absurd rfl h555)
      exact lawEnd hz hL
    | 14, _ =>
      refine J_tableIn (off := 528) (tgt := 560) dL_law_32 (by decide) (by decide) (by decide) (by decide) ?_
      refine J_aload_n dL_law_560 rfl rfl ?_
      refine J_aload_n dL_law_561 rfl rfl ?_
      refine J_iload_n dL_law_562 rfl rfl ?_
      refine J_iconst (v := 1) dL_law_563 (by decide) ?_
      refine J_iadd dL_law_564 ?_
      refine J_sld hz (in_sc hL (blt_in (k := 1) (by decide) (by decide) rfl)) dL_law_565 ?_
      refine cVg wv_L_72 c_X5_knownIn dL_law_566 ob5 rfl rfl (kk := (fun v9 m1 hf => ?_))
      obtain ⟨rfl, hH⟩ := hf
      refine J_aload_n dL_law_569 rfl rfl ?_
      refine J_aload_n dL_law_570 rfl rfl ?_
      refine J_iload_n dL_law_571 rfl rfl ?_
      refine J_iconst (v := 1) dL_law_572 (by decide) ?_
      refine J_iadd dL_law_573 ?_
      refine J_sld hz (in_sc hL (blt_in (k := 1) (by decide) (by decide) rfl)) dL_law_574 ?_
      refine cVg wv_L_75 (c_X6_knownIn (hH 195 (by decide)) (hH 196 (by decide))) dL_law_575 ob6 rfl rfl (kk := (fun v9 m2 hf => ?_))
      subst hf
      refine J_icmp_eq (tgt := 823) dL_law_578 (by decide) (fun h578 => ?_) (fun h578 => absurd rfl h578)
      exact lawEnd hz hL
    | 15, _ =>
      refine J_tableIn (off := 551) (tgt := 583) dL_law_32 (by decide) (by decide) (by decide) (by decide) ?_
      refine J_aload_n dL_law_583 rfl rfl ?_
      refine J_aload_n dL_law_584 rfl rfl ?_
      refine J_iload_n dL_law_585 rfl rfl ?_
      refine J_iconst (v := 1) dL_law_586 (by decide) ?_
      refine J_iadd dL_law_587 ?_
      refine J_sld hz (in_sc hL (blt_in (k := 1) (by decide) (by decide) rfl)) dL_law_588 ?_
      refine J_aload_n dL_law_589 rfl rfl ?_
      refine J_iload_n dL_law_590 rfl rfl ?_
      refine J_iconst (v := 2) dL_law_591 (by decide) ?_
      refine J_iadd dL_law_592 ?_
      refine J_sld hz (in_sc hL (blt_in (k := 2) (by decide) (by decide) rfl)) dL_law_593 ?_
      refine J_aload_n dL_law_594 rfl rfl ?_
      refine J_iload_n dL_law_595 rfl rfl ?_
      refine J_iconst (v := 3) dL_law_596 (by decide) ?_
      refine J_iadd dL_law_597 ?_
      refine J_sld hz (in_sc hL (blt_in (k := 3) (by decide) (by decide) rfl)) dL_law_598 ?_
      refine cVg wv_L_76 c_X5_wouldHurt dL_law_599 ob5 rfl rfl (kk := (fun v9 m1 hf => ?_))
      obtain ⟨rfl, hH⟩ := hf
      refine J_aload_n dL_law_602 rfl rfl ?_
      refine J_aload_n dL_law_603 rfl rfl ?_
      refine J_iload_n dL_law_604 rfl rfl ?_
      refine J_iconst (v := 1) dL_law_605 (by decide) ?_
      refine J_iadd dL_law_606 ?_
      refine J_sld hz (in_sc hL (blt_in (k := 1) (by decide) (by decide) rfl)) dL_law_607 ?_
      refine J_aload_n dL_law_608 rfl rfl ?_
      refine J_iload_n dL_law_609 rfl rfl ?_
      refine J_iconst (v := 2) dL_law_610 (by decide) ?_
      refine J_iadd dL_law_611 ?_
      refine J_sld hz (in_sc hL (blt_in (k := 2) (by decide) (by decide) rfl)) dL_law_612 ?_
      refine J_aload_n dL_law_613 rfl rfl ?_
      refine J_iload_n dL_law_614 rfl rfl ?_
      refine J_iconst (v := 3) dL_law_615 (by decide) ?_
      refine J_iadd dL_law_616 ?_
      refine J_sld hz (in_sc hL (blt_in (k := 3) (by decide) (by decide) rfl)) dL_law_617 ?_
      refine cVg wv_L_79 (c_X6_wouldHurt (hH 195 (by decide)) (hH 196 (by decide))) dL_law_618 ob6 rfl rfl (kk := (fun v9 m2 hf => ?_))
      subst hf
      refine J_icmp_eq (tgt := 823) dL_law_621 (by decide) (fun h621 => ?_) (fun h621 => absurd rfl h621)
      exact lawEnd hz hL
    | 16, _ =>
      refine J_tableIn (off := 594) (tgt := 626) dL_law_32 (by decide) (by decide) (by decide) (by decide) ?_
      refine J_aload_n dL_law_626 rfl rfl ?_
      refine J_aload_n dL_law_627 rfl rfl ?_
      refine J_iload_n dL_law_628 rfl rfl ?_
      refine J_iconst (v := 1) dL_law_629 (by decide) ?_
      refine J_iadd dL_law_630 ?_
      refine J_sld hz (in_sc hL (blt_in (k := 1) (by decide) (by decide) rfl)) dL_law_631 ?_
      refine J_aload_n dL_law_632 rfl rfl ?_
      refine J_iload_n dL_law_633 rfl rfl ?_
      refine J_iconst (v := 2) dL_law_634 (by decide) ?_
      refine J_iadd dL_law_635 ?_
      refine J_sld hz (in_sc hL (blt_in (k := 2) (by decide) (by decide) rfl)) dL_law_636 ?_
      refine cVg wv_L_80 c_X5_safeSpeed dL_law_637 ob5 rfl rfl (kk := (fun v9 m1 hf => ?_))
      obtain ⟨rfl, hH⟩ := hf
      refine J_aload_n dL_law_640 rfl rfl ?_
      refine J_aload_n dL_law_641 rfl rfl ?_
      refine J_iload_n dL_law_642 rfl rfl ?_
      refine J_iconst (v := 1) dL_law_643 (by decide) ?_
      refine J_iadd dL_law_644 ?_
      refine J_sld hz (in_sc hL (blt_in (k := 1) (by decide) (by decide) rfl)) dL_law_645 ?_
      refine J_aload_n dL_law_646 rfl rfl ?_
      refine J_iload_n dL_law_647 rfl rfl ?_
      refine J_iconst (v := 2) dL_law_648 (by decide) ?_
      refine J_iadd dL_law_649 ?_
      refine J_sld hz (in_sc hL (blt_in (k := 2) (by decide) (by decide) rfl)) dL_law_650 ?_
      refine cVg wv_L_83 (c_X6_safeSpeed (hH 195 (by decide)) (hH 196 (by decide))) dL_law_651 ob6 rfl rfl (kk := (fun v9 m2 hf => ?_))
      subst hf
      refine J_icmp_eq (tgt := 823) dL_law_654 (by decide) (fun h654 => ?_) (fun h654 => absurd rfl h654)
      exact lawEnd hz hL
    | 17, _ =>
      refine J_tableIn (off := 627) (tgt := 659) dL_law_32 (by decide) (by decide) (by decide) (by decide) ?_
      refine J_aload_n dL_law_659 rfl rfl ?_
      refine cVg wv_L_84 c_X5_quietIn dL_law_660 ob5 rfl rfl (kk := (fun v9 m1 hf => ?_))
      obtain ⟨rfl, hH⟩ := hf
      refine J_aload_n dL_law_663 rfl rfl ?_
      refine cVg wv_L_88 (c_X6_quietIn (hH 195 (by decide)) (hH 196 (by decide))) dL_law_664 ob6 rfl rfl (kk := (fun v9 m2 hf => ?_))
      subst hf
      refine J_icmp_eq (tgt := 823) dL_law_667 (by decide) (fun h667 => ?_) (fun h667 => absurd rfl h667)
      exact lawEnd hz hL
    | 18, _ =>
      refine J_tableIn (off := 640) (tgt := 672) dL_law_32 (by decide) (by decide) (by decide) (by decide) ?_
      refine J_aload_n dL_law_672 rfl rfl ?_
      refine J_aload_n dL_law_673 rfl rfl ?_
      refine J_iload_n dL_law_674 rfl rfl ?_
      refine J_iconst (v := 1) dL_law_675 (by decide) ?_
      refine J_iadd dL_law_676 ?_
      refine J_sld hz (in_sc hL (blt_in (k := 1) (by decide) (by decide) rfl)) dL_law_677 ?_
      refine J_i2l dL_law_678 rfl ?_
      refine J_bipush (v := 32) dL_law_679 (by decide) ?_
      refine J_lshl dL_law_681 rfl ?_
      refine J_aload_n dL_law_682 rfl rfl ?_
      refine J_iload_n dL_law_683 rfl rfl ?_
      refine J_iconst (v := 2) dL_law_684 (by decide) ?_
      refine J_iadd dL_law_685 ?_
      refine J_sld hz (in_sc hL (blt_in (k := 2) (by decide) (by decide) rfl)) dL_law_686 ?_
      refine J_i2l dL_law_687 rfl ?_
      refine J_ldc2 wl_L_89 dL_law_688 ?_
      refine J_land dL_law_691 ?_
      refine J_lor dL_law_692 ?_
      refine cVg wv_L_91 c_X5_put dL_law_693 ob5 rfl rfl (kk := (fun v9 m1 hf => ?_))
      obtain ⟨rfl, hH⟩ := hf
      refine J_aload_n dL_law_696 rfl rfl ?_
      refine J_aload_n dL_law_697 rfl rfl ?_
      refine J_iload_n dL_law_698 rfl rfl ?_
      refine J_iconst (v := 1) dL_law_699 (by decide) ?_
      refine J_iadd dL_law_700 ?_
      refine J_sld hz (in_sc hL (blt_in (k := 1) (by decide) (by decide) rfl)) dL_law_701 ?_
      refine J_i2l dL_law_702 rfl ?_
      refine J_bipush (v := 32) dL_law_703 (by decide) ?_
      refine J_lshl dL_law_705 rfl ?_
      refine J_aload_n dL_law_706 rfl rfl ?_
      refine J_iload_n dL_law_707 rfl rfl ?_
      refine J_iconst (v := 2) dL_law_708 (by decide) ?_
      refine J_iadd dL_law_709 ?_
      refine J_sld hz (in_sc hL (blt_in (k := 2) (by decide) (by decide) rfl)) dL_law_710 ?_
      refine J_i2l dL_law_711 rfl ?_
      refine J_ldc2 wl_L_89 dL_law_712 ?_
      refine J_land dL_law_715 ?_
      refine J_lor dL_law_716 ?_
      refine cVg wv_L_95 (c_X6_put (hH 195 (by decide)) (hH 196 (by decide))) dL_law_717 ob6 rfl rfl (kk := (fun v9 m2 hf => ?_))
      subst hf
      refine J_icmp_eq (tgt := 823) dL_law_720 (by decide) (fun h720 => ?_) (fun h720 => absurd (ptr_eq _) h720)
      exact lawEnd hz hL
    | 19, _ =>
      refine J_tableIn (off := 693) (tgt := 725) dL_law_32 (by decide) (by decide) (by decide) (by decide) ?_
      refine J_aload_n dL_law_725 rfl rfl ?_
      refine cVg wv_L_96 c_X5_wipe dL_law_726 ob5 rfl rfl (kk := (fun v9 m1 hf => ?_))
      obtain ⟨rfl, hH⟩ := hf
      refine J_aload_n dL_law_729 rfl rfl ?_
      refine cVg wv_L_99 (c_X6_wipe (hH 195 (by decide)) (hH 196 (by decide))) dL_law_730 ob6 rfl rfl (kk := (fun v9 m2 hf => ?_))
      subst hf
      refine J_icmp_eq (tgt := 823) dL_law_733 (by decide) (fun h733 => ?_) (fun h733 => absurd rfl h733)
      exact lawEnd hz hL
    | 20, _ =>
      refine J_tableIn (off := 706) (tgt := 738) dL_law_32 (by decide) (by decide) (by decide) (by decide) ?_
      refine J_aload_n dL_law_738 rfl rfl ?_
      refine cVg wv_L_100 (c_X5_fault had) dL_law_739 ob5 rfl rfl (kk := (fun v9 m1 hf => ?_))
      obtain ⟨rfl, hH⟩ := hf
      refine J_aload_n dL_law_742 rfl rfl ?_
      refine cVg wv_L_103 (c_X6_fault (by rw [hH 195 (by decide)]; rfl)) dL_law_743 ob6 rfl rfl (kk := (fun v9 m2 hf => ?_))
      subst hf
      refine J_icmp_eq (tgt := 823) dL_law_746 (by decide) (fun h746 => ?_) (fun h746 => absurd rfl h746)
      exact lawEnd hz hL
    | 21, _ =>
      refine J_tableIn (off := 719) (tgt := 751) dL_law_32 (by decide) (by decide) (by decide) (by decide) ?_
      refine J_aload_n dL_law_751 rfl rfl ?_
      refine cVg wv_L_104 (c_X5_carryOut had) dL_law_752 ob5 rfl rfl (kk := (fun v9 m1 hf => ?_))
      obtain ⟨rfl, hH⟩ := hf
      refine J_aload_n dL_law_755 rfl rfl ?_
      refine cVg wv_L_107 (c_X6_carryOut (by rw [hH 195 (by decide)]; rfl)) dL_law_756 ob6 rfl rfl (kk := (fun v9 m2 hf => ?_))
      subst hf
      refine J_icmp_eq (tgt := 823) dL_law_759 (by decide) (fun h759 => ?_) (fun h759 => absurd rfl h759)
      exact lawEnd hz hL
    | 22, _ =>
      refine J_tableIn (off := 732) (tgt := 764) dL_law_32 (by decide) (by decide) (by decide) (by decide) ?_
      refine J_aload_n dL_law_764 rfl rfl ?_
      refine cVg wv_L_108 c_X5_undo dL_law_765 ob5 rfl rfl (kk := (fun v9 m1 hf => ?_))
      obtain ⟨rfl, hH⟩ := hf
      refine J_aload_n dL_law_768 rfl rfl ?_
      refine cVg wv_L_111 (c_X6_undo (hH 195 (by decide)) (hH 196 (by decide))) dL_law_769 ob6 rfl rfl (kk := (fun v9 m2 hf => ?_))
      subst hf
      refine J_icmp_eq (tgt := 823) dL_law_772 (by decide) (fun h772 => ?_) (fun h772 => absurd rfl h772)
      exact lawEnd hz hL
    | 23, _ =>
      refine J_tableIn (off := 745) (tgt := 777) dL_law_32 (by decide) (by decide) (by decide) (by decide) ?_
      refine J_aload_n dL_law_777 rfl rfl ?_
      refine J_aload_n dL_law_778 rfl rfl ?_
      refine J_iload_n dL_law_779 rfl rfl ?_
      refine J_iconst (v := 1) dL_law_780 (by decide) ?_
      refine J_iadd dL_law_781 ?_
      refine J_sld hz (in_sc hL (blt_in (k := 1) (by decide) (by decide) rfl)) dL_law_782 ?_
      refine cVg wv_L_112 c_X5_save dL_law_783 ob5 rfl rfl (kk := (fun v9 m1 hf => ?_))
      obtain ⟨rfl, hH⟩ := hf
      refine J_aload_n dL_law_786 rfl rfl ?_
      refine J_aload_n dL_law_787 rfl rfl ?_
      refine J_iload_n dL_law_788 rfl rfl ?_
      refine J_iconst (v := 1) dL_law_789 (by decide) ?_
      refine J_iadd dL_law_790 ?_
      refine J_sld hz (in_sc hL (blt_in (k := 1) (by decide) (by decide) rfl)) dL_law_791 ?_
      refine cVg wv_L_115 (c_X6_save (hH 195 (by decide)) (hH 196 (by decide))) dL_law_792 ob6 rfl rfl (kk := (fun v9 m2 hf => ?_))
      subst hf
      refine J_icmp_eq (tgt := 823) dL_law_795 (by decide) (fun h795 => ?_) (fun h795 => absurd rfl h795)
      exact lawEnd hz hL
    | 24, _ =>
      refine J_tableIn (off := 768) (tgt := 800) dL_law_32 (by decide) (by decide) (by decide) (by decide) ?_
      refine J_aload_n dL_law_800 rfl rfl ?_
      refine J_aload_n dL_law_801 rfl rfl ?_
      refine J_iload_n dL_law_802 rfl rfl ?_
      refine J_iconst (v := 1) dL_law_803 (by decide) ?_
      refine J_iadd dL_law_804 ?_
      refine J_sld hz (in_sc hL (blt_in (k := 1) (by decide) (by decide) rfl)) dL_law_805 ?_
      refine cVg wv_L_116 c_X5_restore dL_law_806 ob5 rfl rfl (kk := (fun v9 m1 hf => ?_))
      obtain ⟨rfl, hH⟩ := hf
      refine J_aload_n dL_law_809 rfl rfl ?_
      refine J_aload_n dL_law_810 rfl rfl ?_
      refine J_iload_n dL_law_811 rfl rfl ?_
      refine J_iconst (v := 1) dL_law_812 (by decide) ?_
      refine J_iadd dL_law_813 ?_
      refine J_sld hz (in_sc hL (blt_in (k := 1) (by decide) (by decide) rfl)) dL_law_814 ?_
      refine cVg wv_L_119 (c_X6_restore (hH 195 (by decide)) (hH 196 (by decide))) dL_law_815 ob6 rfl rfl (kk := (fun v9 m2 hf => ?_))
      subst hf
      refine J_icmp_eq (tgt := 823) dL_law_818 (by decide) (fun h818 => ?_) (fun h818 => absurd rfl h818)
      exact lawEnd hz hL
    | k + 25, hk => exact absurd hk (by omega)

set_option maxRecDepth 100000 in
set_option maxHeartbeats 4000000 in
theorem lawShort {X : jX} {ad : Nat → Nat} {nm : String} (hz : ad 999 = jb X) (hL : jL X < 4) : Jg X RL cL_law 4 (some .boolean) nm 12 600000 7302250 (QL X) ad 201 13353 18 [(0, .ref 999), (1, .ref 0), (2, .ref 195), (3, .int 0)] [] (WS X ad mem0) := by
  refine J_iload_n dL_law_18 rfl rfl ?_
  refine J_aload_n dL_law_19 rfl rfl ?_
  refine J_slen hz dL_law_20 ?_
  refine J_iconst (v := 4) dL_law_21 (by decide) ?_
  refine J_isub dL_law_22 ?_
  refine J_icmp_gt (tgt := 829) dL_law_23 (by decide) (fun h23 => ?_) (fun h23 => absurd ((show ∀ k, k < 4 → nI k - 4 < 0 by decide) _ hL) h23)
  exact lawHalt rfl rfl

set_option maxRecDepth 100000 in
set_option maxHeartbeats 4000000 in
theorem lawBody {X : jX} {nm : String} (hL : jL X ≤ 4) : Jg X RL cL_law 4 (some .boolean) nm 12 600000 7302250 (QL X) (fun n => n) 0 0 0 [(0, .ref (jb X))] [] ([]) := by
  refine J_ws (ws' := [] ++ []) rfl ?_
  refine K_new (T := TX5) (ci := 5) (N := 6) rfl inTX5 tyX5 tyX5_ok wc_L_7 wi_X5 wt_X5 [.null, .null, .null, .null, .null, .null] defs5 ⟨rfl, rfl⟩ dL_law_0 (fun b => ?_)
  refine J_dup dL_law_3 rfl ?_
  refine K_call wj_L_9 (c_X5_init _ b) dL_law_4 rfl ⟨rfl, rfl⟩ rfl (fun l1 hl1 => ?_)
  obtain ⟨hh, hq, pp, p1, p2, sv, zs, A, B, C, D, E, rfl⟩ := hl1
  refine J_astore_n dL_law_7 rfl rfl rfl ?_
  refine K_new (T := TX6) (ci := 6) (N := 14) rfl inTX6 tyX6 tyX6_ok wc_L_10 wi_X6 wt_X6 [.null, .null, .null, .int 0, .null, .int 0, .null, .int 0, .int 0, .int 0, .int 0, .int 0, .int 0, .int 0] defs6 ⟨rfl, rfl⟩ dL_law_8 (fun b2 => ?_)
  refine J_dup dL_law_11 rfl ?_
  refine K_call wj_L_12 (c_X6_init _ b2) dL_law_12 rfl ⟨rfl, rfl⟩ rfl (fun l2 hl2 => ?_)
  obtain ⟨m1, m2, m3, m4, m5, rfl⟩ := hl2
  refine J_astore_n dL_law_15 rfl rfl rfl ?_
  refine J_widen (k := 201) (n := 13353) (by decide) (by decide) ?_
  refine J_ws (ws' := ppW X b hh hq pp p1 p2 sv zs A B C D E ++ modW X b2 m1 m2 m3 m4 m5) rfl ?_
  refine J_move ?_
  refine J_iconst (v := 0) dL_law_16 (by decide) ?_
  refine J_istore_n dL_law_17 rfl rfl rfl ?_
  rcases Nat.lt_or_eq_of_le hL with h | h
  · exact lawShort rfl h
  · exact lawCall rfl adW_had h

theorem whole_start {p : Program} {e : Env} {s : State} {m : MethodId} {below : List Frame} {meth : Method} {c : Code} (l : Launch) (hflags : l.flags = flags0) {b L : Nat} {xs : Nat → Int32} (hL : L ≤ 4) (C0 : lw_At p s m meth c b L xs) : W p l e room_1 s m #[Value.ref b] below meth c s.heap [] 0 0 (lw_Z below #[Value.ref b] s) (entryFrame m ([Value.ref b] : List Value).toArray 4) := by
  obtain ⟨hx, hb, hr, hml, hown, hts, hX, hbl, hlk, hgv⟩ := C0
  obtain ⟨D, cA, x, hE⟩ := jE_start l hts hX hbl hgv
  have hl := lv_entry [Value.ref b] (n := 4) (Nat.le_of_ble_eq_true rfl)
  rw [lg_entry_eq]
  generalize (lg_sl [Value.ref b] ++ List.replicate (4 - (lg_sl [Value.ref b]).length) Slot.unset).toArray = ls at hl ⊢
  have hD : va_D (jA (l, D, cA, x, s.heap.size, b, L, xs)) [] := ⟨fun i j p q h => by simp at h, fun k q h => by simp at h⟩
  intro T hT Y
  obtain ⟨t, a1, b1⟩ := lawBody (X := (l, D, cA, x, s.heap.size, b, L, xs)) (nm := meth.name) hL p e room_1 s m #[Value.ref b] below meth c s.heap [] ls ⟨hx, hb, hml, hr, rfl, hown, fun w hw => hts w (List.mem_filter.mp hw).1, hlk, by decide, by decide, by decide, by decide, hE, Nat.le_refl _⟩ (fun k q h => by simp at h) hD va_S.rf hl T hT Y
  exact ⟨t, a1, b1 rfl⟩

set_option maxHeartbeats 4000000 in
theorem lw_walk (l : Launch) (hflags : l.flags = flags0) (b : Addr) (xs : List Int32) : MetFree l x (headSpec (Jvm.Cond.code x code maxLocals ret :: tables_1) room_1) (lw_P b xs) (fun _ _ _ _ _ => True) lw_Q := by
  refine MetFree.of_bodyS (code := code) (maxLocals := maxLocals) (ret := ret) (by decide) ?_ ?_
  · intro args s m h hn
    obtain ⟨meth, c, h1, h2, h3, h4, h5, h6, -, -⟩ := Cond.code_spec hn (atoms_spec (ws := Jvm.Cond.code x code maxLocals ret :: tables_1) h _ List.mem_cons_self)
    exact ⟨meth, c, h1, h2, h3, h4, h5, h6⟩
  · intro p e s m args below meth c s₁ B hml0 hP _
    obtain ⟨rfl, hx, hbd, hgv⟩ := hP
    obtain ⟨scr, harrAt, hlist, hof, hsmall⟩ := hx
    obtain ⟨hcb, hkn, -, -⟩ := State.arrayAt?_spec harrAt
    have hown : s.vm.findClass R_law = some m.cls := findClass_of_methodNamed B.named
    have hts0 : ∀ c ∈ (Jvm.Cond.code x code maxLocals ret :: tables_1), c.before #[Value.ref b] s = true := atoms_spec (ws := Jvm.Cond.code x code maxLocals ret :: tables_1) B.pre
    have hts : ∀ w ∈ lw_tbl, w.before #[Value.ref b] s = true := k2_hts_sels lw_privs (fun w hw => hts0 w (List.mem_cons_of_mem _ hw)) lw_privs_ok
    have hml : c.maxLocals = 4 := B.maxLocals_eq (hts0 _ List.mem_cons_self)
    have X₀ : Stand p l e room_1 s m #[Value.ref b] below meth c s₁ [] 0 0 := Stand.of_body B
    have hh0 : s₁.heap = s.heap := by rw [B.state]; rfl
    have hsz : scr.slots.size = xs.length := by rw [← Array.length_toList, hlist, List.length_map]
    have hval : ∀ j : Nat, j < xs.length → scr.slots[j]? = some (.int (xs.getD j 0)) := fun j hj => by
      rw [← Array.getElem?_toList, hlist]
      simp [hj]
    have hbl : b < s.heap.size := (Array.getElem?_eq_some_iff.mp hcb).1
    have hX : va_X b xs.length (fun j => xs.getD j 0) s s.heap := ⟨scr, hcb, hof, hkn, hsz, hval⟩
    have K : W p l e room_1 s m #[Value.ref b] below meth c s₁.heap [] 0 0 (lw_Z below #[Value.ref b] s) (entryFrame m ([Value.ref b] : List Value).toArray 4) := by
      rw [hh0]
      exact whole_start l hflags hbd ⟨B.exec, B.bytes, B.returns, hml, hown, hts, hX, hbl, B.notSynchronized, hgv⟩
    obtain ⟨t, a1, o, b1, b2, b3⟩ := K s₁ rfl X₀
    exact ⟨t, o, a1, b1, b2, b3⟩
theorem lw_pre_spec {args : Array Value} {s : State} (h : (Jvm.Cond.and given_1 narrow_1).before args s = true) (hr : rest_1_c.before args s = true) : ∃ (b : Addr) (xs : List Int32), lw_P b xs args s := by
  have hs := flat_of_before _ h
  have hq := flat_of_before _ hr
  have hc : (Cond.count 1).before args s = true := hs _ (by decide +kernel)
  have harr : (Cond.arrayOf (.arg 0) .int).before args s = true := hs _ (by decide +kernel)
  have hle : (Cond.le (.length (.arg 0)) (.int 4)).before args s = true := hs _ (by decide +kernel)
  have hlen : (Cond.isInt (.length (.arg 0))).before args s = true := hq _ (by decide +kernel)
  have hall : (Cond.all (.arg 0) (.isInt (.elem (.arg 0) (.index 0)))).before args s = true := hq _ (by decide +kernel)
  obtain ⟨b, xs, hb, hx⟩ := State.ints_of_pre rfl harr hlen hall
  have hsm : xs.length < 2 ^ 31 := hx.choose_spec.2.2.2
  have hev : (Term.length (.arg 0)).eval args s none [] s = some (.int xs.length.toInt32) := hx.length_eval hb
  have hv := Cond.le_ints hev (show (Term.int 4).eval args s none [] s = some (.int 4) from rfl)
  have hd : xs.length.toInt32 ≤ 4 := by
    simpa [Cond.before, Cond.holds, hv] using hle
  have hN : xs.length ≤ 4 := (Int32.ofNat_le_ofNat hsm (by decide)).mp (show Int32.ofNat xs.length ≤ Int32.ofNat 4 from hd)
  exact ⟨b, xs, Cond.one_arg hc (show args[0]? = some (.ref b) from hb), hx, hN, h⟩
theorem lw_comes (l : Launch) (hflags : l.flags = flags0) : Comes l x (Jvm.Cond.code x code maxLocals ret :: tables_1) room_1 (fun tb e args s => Calls_1 tb e args s ∧ rest_1 tb e args s ∧ Pre_1 tb e args s)
    (fun _ _ args s o t => lw_Q args s o t) := by
  intro p e ha hc hk s m args below hf hfit hheap happ hpre
  obtain ⟨b, xs, hP⟩ := lw_pre_spec hpre.2.2 hpre.2.1
  obtain ⟨k, o, h1, h2, h3, hQ⟩ := lw_walk l hflags b xs p e ha hc hk s m args below hf ((Spec.applies_iff_loose hf).mp happ).1 hP trivial
  exact ⟨k, o, h1, h2, h3, hQ⟩
theorem lw_frame {s t : State} {o : Outcome} {args : Array Value} (h : Framed s o t [] 600000 7302250) :
    Framed s o t (fieldLocs frame_1_writes args s ++ arrayLocs frame_1_arrays args s ++ staticLocs frame_1_statics s) 600000 7302250 := h
theorem lw_limb (L : Cond) (hL : ∀ (args : Array Value) (s t : State), L.after args s (.returned (some (.int 1))) t = true) :
    ArmFor flags0 classFile x code maxLocals ret World_1 tables_1 room_1 Calls_1 rest_1 Pre_1
      (fun tb e a s o t => postC L tb e a s o t ∧ Framed s o t (fieldLocs frame_1_writes a s ++ arrayLocs frame_1_arrays a s ++ staticLocs frame_1_statics s) 600000 7302250) := by
  intro l hflags _ _ p e ha hc hk s m args below hf hfit hheap happ hpre
  obtain ⟨k, o, h1, h2, h3, rfl, hF⟩ := lw_comes l hflags p e ha hc hk s m args below hf hfit hheap happ hpre
  exact ⟨k, _, h1, h2, h3, hL args s _, lw_frame hF⟩
theorem i_vc : Claimed_1_1 ∧ Claimed_1_2 := ⟨lw_limb limb_1_1 (fun args s t => by simp [limb_1_1, Cond.after, Cond.holds, Cond.value]), lw_limb limb_1_2 (fun args s t => Cond.after_iff.mpr (by
  first | (rw [show limb_1_2 = Cond.eq .result (.int 1) from rfl, Cond.eq_ints (x := 1) (y := 1) rfl rfl]; simp; done) | (simp [limb_1_2, Cond.value, Term.eval]; done)))⟩

