section RULES
variable {X : jX} {own : String} {cc : ByteArray} {nL : Nat} {ret : Option FieldType} {nm : String} {d CR SR : Nat} {Q : List Frame → Array Value → State → State → Prop} {ad : Nat → Nat} {cells slots pc : Nat} {lv : List (Nat × Value)} {st : List Value} {ws : va_W}
theorem em_sum (ad : Nat → Nat) (st : List Value) : ((st.map (em ad)).map fun v => v.category).sum = (st.map fun v => v.category).sum := by rw [List.map_map]; simp [Function.comp_def, em_cat]
theorem J_getsN {index n : Nat} {nme : String} (k : Nat) (hst : (jStat X)[k]? = some (RX5, nme, "[I", .ref (ad n))) (hlink : Cond.fieldLinkNest own index RX5 nme "[I" RX5 ∈ jNest) (hdg : decode cc pc = .ok (.getstatic index, 3)) (kk : Jg X own cc nL ret nm d CR SR (Q) ad (cells) (slots) (pc + 3) (lv) (.ref n :: st) (ws)) : Jg X own cc nL ret nm d CR SR (Q) ad (cells) (slots) (pc) (lv) (st) (ws) := by
  intro p e R s m args below meth c H locs ls hC hP hD hS hl
  obtain ⟨hx, hb, hml, hr, hnm, hown, hts, hlk, hfr, hlo, hcr, hsr, hE, hz⟩ := id hC
  have hK := hE.2.1
  have hZ := hE.2.2.2.2.2.1 _ (List.mem_of_getElem? hst)
  exact va_getsN hx hb hZ hS hown (va_Nw.use rfl (hE.1 _ hlink)) (fun _ h => h) hdg (kk p e R s m args below meth c H locs ls hC hP hD hS hl)
theorem J_getsCompact {index : Nat} (hlink : Cond.fieldLink own index "java/lang/String" "COMPACT_STRINGS" "Z" ∈ TW) (hdg : decode cc pc = .ok (.getstatic index, 3)) (kk : Jg X own cc nL ret nm d CR SR (Q) ad (cells) (slots) (pc + 3) (lv) (.int 1 :: st) (ws)) : Jg X own cc nL ret nm d CR SR (Q) ad (cells) (slots) (pc) (lv) (st) (ws) := by
  intro p e R s m args below meth c H locs ls hC hP hD hS hl
  obtain ⟨hx, hb, hml, hr, hnm, hown, hts, hlk, hfr, hlo, hcr, hsr, hE, hz⟩ := id hC
  have hK := hE.2.1
  have hZ := hE.2.2.2.2.2.1 ("java/lang/String", "COMPACT_STRINGS", "Z", .int 1) (List.mem_of_getElem? (i := 3) rfl)
  exact va_gets hx hb hZ hS hown (hts _ hlink) (fun _ h => h) hdg (kk p e R s m args below meth c H locs ls hC hP hD hS hl)
/-- a static that holds a reference or null -/
theorem J_getsForm {index n : Nat} (ha : ad n = jx X 3) (hlink : Cond.fieldLink own index "jdk/internal/util/Preconditions" "SIOOBE_FORMATTER" "Ljava/util/function/BiFunction;" ∈ TW) (hdg : decode cc pc = .ok (.getstatic index, 3)) (kk : ∀ v : Value, v = .null ∨ v = .ref n → Jg X own cc nL ret nm d CR SR (Q) ad (cells) (slots) (pc + 3) (lv) (v :: st) (ws)) : Jg X own cc nL ret nm d CR SR (Q) ad (cells) (slots) (pc) (lv) (st) (ws) := by
  intro p e R s m args below meth c H locs ls hC hP hD hS hl
  obtain ⟨hx, hb, hml, hr, hnm, hown, hts, hlk, hfr, hlo, hcr, hsr, hE, hz⟩ := id hC
  have hK := hE.2.1
  rcases hE.2.2.2.2.2.2.2.2.1 with hZ | hZ
  · exact va_gets hx hb hZ hS hown (hts _ hlink) (fun _ h => h) hdg (kk _ (Or.inl rfl) p e R s m args below meth c H locs ls hC hP hD hS hl)
  · rw [← ha] at hZ
    exact va_gets hx hb hZ hS hown (hts _ hlink) (fun _ h => h) hdg (kk _ (Or.inr rfl) p e R s m args below meth c H locs ls hC hP hD hS hl)
theorem J_ti {n : Nat} {i x : Int32} {xs : List Int32} (k : Nat) (ha : (jArr X)[k]? = some (ad n, xs)) (hi : vp_in i 5) (hv : xs.getD i.toNatClampNeg 0 = x) (hdg : decode cc pc = .ok (.iaload, 1)) (kk : Jg X own cc nL ret nm d CR SR (Q) ad (cells) (slots) (pc + 1) (lv) (.int x :: st) (ws)) : Jg X own cc nL ret nm d CR SR (Q) ad (cells) (slots) (pc) (lv) (.int i :: .ref n :: st) (ws) := by
  intro p e R s m args below meth c H locs ls hC hP hD hS hl
  obtain ⟨hx, hb, hml, hr, hnm, hown, hts, hlk, hfr, hlo, hcr, hsr, hE, hz⟩ := id hC
  have hK := hE.2.1
  have hT := hE.2.2.2.2.2.2.1 _ (List.mem_of_getElem? ha)
  exact va_ti hx hb hT hS hi (v := .int x) (by rw [hv]) hdg (kk p e R s m args below meth c H locs ls hC hP hD hS hl)
theorem J_sld {n : Nat} {i : Int32} (ha : ad n = jb X) (hi : vp_in i (jL X)) (hdg : decode cc pc = .ok (.iaload, 1)) (kk : Jg X own cc nL ret nm d CR SR (Q) ad (cells) (slots) (pc + 1) (lv) (.int (jxs X i.toNatClampNeg) :: st) (ws)) : Jg X own cc nL ret nm d CR SR (Q) ad (cells) (slots) (pc) (lv) (.int i :: .ref n :: st) (ws) := by
  intro p e R s m args below meth c H locs ls hC hP hD hS hl
  obtain ⟨hx, hb, hml, hr, hnm, hown, hts, hlk, hfr, hlo, hcr, hsr, hE, hz⟩ := id hC
  have hK := hE.2.1
  obtain ⟨hXs, hb1⟩ := hE.2.2.2.2.2.2.2.2.2.2.2
  have h0 := va_sld (rest := st.map (em ad)) (ls := ls) (pc := pc) (cells := cells) (slots := slots) (Q := Q below args s) (e := e) (R := R) (below := below) (meth := meth) (l := jl X) hx hb hXs (Nat.lt_of_lt_of_le hb1 hz) (Nat.not_le.mpr hb1) hS hi hdg (kk p e R s m args below meth c H locs ls hC hP hD hS hl)
  rw [← ha] at h0
  exact h0
theorem J_slen {n : Nat} (ha : ad n = jb X) (hdg : decode cc pc = .ok (.arraylength, 1)) (kk : Jg X own cc nL ret nm d CR SR (Q) ad (cells) (slots) (pc + 1) (lv) (.int (nI (jL X)) :: st) (ws)) : Jg X own cc nL ret nm d CR SR (Q) ad (cells) (slots) (pc) (lv) (.ref n :: st) (ws) := by
  intro p e R s m args below meth c H locs ls hC hP hD hS hl
  obtain ⟨hx, hb, hml, hr, hnm, hown, hts, hlk, hfr, hlo, hcr, hsr, hE, hz⟩ := id hC
  have hK := hE.2.1
  obtain ⟨hXs, hb1⟩ := hE.2.2.2.2.2.2.2.2.2.2.2
  have h0 := va_slen (rest := st.map (em ad)) (ls := ls) (pc := pc) (cells := cells) (slots := slots) (Q := Q below args s) (e := e) (R := R) (below := below) (meth := meth) (l := jl X) hx hb hXs (Nat.lt_of_lt_of_le hb1 hz) (Nat.not_le.mpr hb1) hS hdg (kk p e R s m args below meth c H locs ls hC hP hD hS hl)
  rw [← ha] at h0
  exact h0
theorem J_ldcS {index n : Nat} (hown1 : own = RX4) (i : Nat) (hi : i < 7) (hix : index = 77 + 2 * i) (ha : ad n = jx X (10 + i)) (hdg : decode cc pc = .ok (.ldc index, 2)) (kk : Jg X own cc nL ret nm d CR SR (Q) ad (cells) (slots) (pc + 2) (lv) (.ref n :: st) (ws)) : Jg X own cc nL ret nm d CR SR (Q) ad (cells) (slots) (pc) (lv) (st) (ws) := by
  intro p e R s m args below meth c H locs ls hC hP hD hS hl
  obtain ⟨hx, hb, hml, hr, hnm, hown, hts, hlk, hfr, hlo, hcr, hsr, hE, hz⟩ := id hC
  have hK := hE.2.1
  have hR := hE.2.2.2.2.2.2.2.2.2.1 i hi
  subst hix
  subst hown1
  rw [← ha] at hR
  exact va_ldcS hx hb hown hR hdg (kk p e R s m args below meth c H locs ls hC hP hD hS hl)
theorem J_sval {index n q : Nat} (i : Nat) (hi : i < 7) (ha : ad n = jx X (10 + i)) (hq : ad q = jx X (20 + i)) (hlink : Cond.fieldLink own index "java/lang/String" "value" "[B" ∈ TW) (hdg : decode cc pc = .ok (.getfield index, 3)) (kk : Jg X own cc nL ret nm d CR SR (Q) ad (cells) (slots) (pc + 3) (lv) (.ref q :: st) (ws)) : Jg X own cc nL ret nm d CR SR (Q) ad (cells) (slots) (pc) (lv) (.ref n :: st) (ws) := by
  intro p e R s m args below meth c H locs ls hC hP hD hS hl
  obtain ⟨hx, hb, hml, hr, hnm, hown, hts, hlk, hfr, hlo, hcr, hsr, hE, hz⟩ := id hC
  have hK := hE.2.1
  have h1 := ((hE.2.2.2.2.2.2.2.2.2.2.1).1 i hi).2.2.1
  dsimp only at h1
  rw [← ha, ← hq] at h1
  exact vk_getf hx hb h1 hS hown (hts _ hlink) (fun _ h => h) hdg (kk p e R s m args below meth c H locs ls hC hP hD hS hl)
theorem J_scoder {index n : Nat} (i : Nat) (hi : i < 7) (ha : ad n = jx X (10 + i)) (hlink : Cond.fieldLink own index "java/lang/String" "coder" "B" ∈ TW) (hdg : decode cc pc = .ok (.getfield index, 3)) (kk : Jg X own cc nL ret nm d CR SR (Q) ad (cells) (slots) (pc + 3) (lv) (.int 0 :: st) (ws)) : Jg X own cc nL ret nm d CR SR (Q) ad (cells) (slots) (pc) (lv) (.ref n :: st) (ws) := by
  intro p e R s m args below meth c H locs ls hC hP hD hS hl
  obtain ⟨hx, hb, hml, hr, hnm, hown, hts, hlk, hfr, hlo, hcr, hsr, hE, hz⟩ := id hC
  have hK := hE.2.1
  have h1 := ((hE.2.2.2.2.2.2.2.2.2.2.1).1 i hi).2.1
  dsimp only at h1
  rw [← ha] at h1
  exact vk_getf hx hb h1 hS hown (hts _ hlink) (fun _ h => h) hdg (kk p e R s m args below meth c H locs ls hC hP hD hS hl)
theorem J_slenb {n : Nat} {v : Int32} (i : Nat) (hi : i < 7) (ha : ad n = jx X (20 + i)) (hv : Int32.ofNat (jLen.getD i 0) = v) (hdg : decode cc pc = .ok (.arraylength, 1)) (kk : Jg X own cc nL ret nm d CR SR (Q) ad (cells) (slots) (pc + 1) (lv) (.int v :: st) (ws)) : Jg X own cc nL ret nm d CR SR (Q) ad (cells) (slots) (pc) (lv) (.ref n :: st) (ws) := by
  intro p e R s m args below meth c H locs ls hC hP hD hS hl
  obtain ⟨hx, hb, hml, hr, hnm, hown, hts, hlk, hfr, hlo, hcr, hsr, hE, hz⟩ := id hC
  have hK := hE.2.1
  have h1 := ((hE.2.2.2.2.2.2.2.2.2.2.1).1 i hi).2.2.2
  dsimp only at h1
  rw [← ha] at h1
  exact va_tlen hx hb h1 hS hv hdg (kk p e R s m args below meth c H locs ls hC hP hD hS hl)
theorem J_sbyte {n : Nat} {k x : Int32} (i : Nat) (hi : i < 7) (ha : ad n = jx X (20 + i)) (hk : vp_in k (jLen.getD i 0)) (hv : (jByt.getD i []).getD k.toNatClampNeg 0 = x) (hdg : decode cc pc = .ok (.baload, 1)) (kk : Jg X own cc nL ret nm d CR SR (Q) ad (cells) (slots) (pc + 1) (lv) (.int x :: st) (ws)) : Jg X own cc nL ret nm d CR SR (Q) ad (cells) (slots) (pc) (lv) (.int k :: .ref n :: st) (ws) := by
  intro p e R s m args below meth c H locs ls hC hP hD hS hl
  obtain ⟨hx, hb, hml, hr, hnm, hown, hts, hlk, hfr, hlo, hcr, hsr, hE, hz⟩ := id hC
  have hK := hE.2.1
  have h1 := ((hE.2.2.2.2.2.2.2.2.2.2.1).1 i hi).2.2.2
  dsimp only at h1
  rw [← ha] at h1
  exact va_tb hx hb h1 hS hk (v := .int x) (by rw [hv]) hdg (kk p e R s m args below meth c H locs ls hC hP hD hS hl)
theorem J_copy {index : Nat} {n0 n1 len0 len1 : Nat} {f g : Nat → Int32} {sp dp n : Int32} (hlink : Cond.methodLink own index arraycopyName ∈ TW) (hnat : Cond.native arraycopyName ∈ TW) (hstat : Cond.static arraycopyName ∈ TW) (hini : Cond.initialized "java/lang/System" ∈ TW) (hdg : decode cc pc = .ok (.invokestatic index, 3)) (hd : 1 ≤ d) (hst : st.length ≤ 1) (q0 q1 : Nat) (h0 : ws[q0]? = some (ad n0, .inl (jcA X 0, len0, .inl f))) (h1 : ws[q1]? = some (ad n1, .inl (jcA X 0, len1, .inl g))) (hs : ¬ sp < 0) (hp : ¬ dp < 0) (hn : ¬ n < 0) (h4 : sp.toNatClampNeg + n.toNatClampNeg ≤ len0) (h5 : dp.toNatClampNeg + n.toNatClampNeg ≤ len1) (kk : Jg X own cc nL ret nm d CR SR (Q) ad (cells) (slots) (pc + 3) (lv) (st) (ws.set q1 (ad n1, .inl (jcA X 0, len1, .inl (va_cpy f g sp.toNatClampNeg dp.toNatClampNeg n.toNatClampNeg))))) : Jg X own cc nL ret nm d CR SR (Q) ad (cells) (slots) (pc) (lv) (.int n :: .int dp :: .ref n1 :: .int sp :: .ref n0 :: st) (ws) := by
  intro p e R s m args below meth c H locs ls hC hP hD hS hl
  obtain ⟨hx, hb, hml, hr, hnm, hown, hts, hlk, hfr, hlo, hcr, hsr, hE, hz⟩ := id hC
  have hK := hE.2.1
  have hcat : ((st.map (em ad)).map fun v => v.category).sum ≤ 2 := by
    rw [em_sum]
    match st, hst with
    | [], _ => simp
    | [v], _ => rcases lv_cat v with h | h <;> simp [h]
  have hw0 : nativeFrameWords "java/lang/System" "arraycopy" 5 ≤ 25 := by decide +kernel
  exact va_copyi hx hb (by rw [hml]; exact hl.1.symm) hown (hts _ hlink) (hts _ hnat) (hts _ hstat) (hts _ hini) hK hP hD hS q0 q1 0 0 h0 h1 rfl rfl rfl hs hp hn h4 h5 (fun _ _ => rfl) (by omega) (by omega) hdg (fun H1 locs1 hP1 hD1 hS1 => kk p e R s m args below meth c H1 locs1 ls hC hP1 hD1 hS1 hl)
theorem J_mmax {index : Nat} {x y : Int32} (hlink : Cond.methodLink own index Lib.Math.max.name ∈ TW) (hstat : Cond.static Lib.Math.max.name ∈ TW) (hini : Cond.initialized "java/lang/Math" ∈ TW) (hcode : Cond.code Lib.Math.max.name Lib.Math.max.code 2 (some .int) ∈ TW) (hdg : decode cc pc = .ok (.invokestatic index, 3)) (hd : 1 ≤ d) (hc1 : cells ≤ CR) (hs1 : slots ≤ SR) (hcat : (st.map fun v => v.category).sum ≤ 8) (kk : Jg X own cc nL ret nm d CR SR (Q) ad (cells) (slots) (pc + 3) (lv) (.int (if x < y then y else x) :: st) (ws)) : Jg X own cc nL ret nm d CR SR (Q) ad (cells) (slots) (pc) (lv) (.int y :: .int x :: st) (ws) := by
  intro p e R s m args below meth c H locs ls hC hP hD hS hl
  obtain ⟨hx, hb, hml, hr, hnm, hown, hts, hlk, hfr, hlo, hcr, hsr, hE, hz⟩ := id hC
  have hK := hE.2.1
  rw [← em_sum ad] at hcat
  exact va_mmax hx hb (by rw [hml]; exact hl.1.symm) hown (hts _ hlink) (hts _ hstat) (hts _ hini) (hts _ hcode) (by omega) (by omega) (Nat.le_trans hc1 hcr) (Nat.le_trans hs1 hsr) hdg (kk p e R s m args below meth c H locs ls hC hP hD hS hl)
theorem J_mmin {index : Nat} {x y : Int32} (hlink : Cond.methodLink own index Lib.Math.min.name ∈ TW) (hstat : Cond.static Lib.Math.min.name ∈ TW) (hini : Cond.initialized "java/lang/Math" ∈ TW) (hcode : Cond.code Lib.Math.min.name Lib.Math.min.code 2 (some .int) ∈ TW) (hdg : decode cc pc = .ok (.invokestatic index, 3)) (hd : 1 ≤ d) (hc1 : cells ≤ CR) (hs1 : slots ≤ SR) (hcat : (st.map fun v => v.category).sum ≤ 8) (kk : Jg X own cc nL ret nm d CR SR (Q) ad (cells) (slots) (pc + 3) (lv) (.int (if y < x then y else x) :: st) (ws)) : Jg X own cc nL ret nm d CR SR (Q) ad (cells) (slots) (pc) (lv) (.int y :: .int x :: st) (ws) := by
  intro p e R s m args below meth c H locs ls hC hP hD hS hl
  obtain ⟨hx, hb, hml, hr, hnm, hown, hts, hlk, hfr, hlo, hcr, hsr, hE, hz⟩ := id hC
  have hK := hE.2.1
  rw [← em_sum ad] at hcat
  exact va_mmin hx hb (by rw [hml]; exact hl.1.symm) hown (hts _ hlink) (hts _ hstat) (hts _ hini) (hts _ hcode) (by omega) (by omega) (Nat.le_trans hc1 hcr) (Nat.le_trans hs1 hsr) hdg (kk p e R s m args below meth c H locs ls hC hP hD hS hl)
/-- the first settings, cloned -/
theorem J_clone {index : Nat} {n : Nat} (ha : n = jx X 0) (hlink : Cond.methodLink own index ⟨"[I", "clone", "()Ljava/lang/Object;"⟩ ∈ TW) (hsame : Cond.sameMethod "[I" "java/lang/Object" "clone" "()Ljava/lang/Object;" ∈ TW) (hnat : Cond.native ⟨"java/lang/Object", "clone", "()Ljava/lang/Object;"⟩ ∈ TW) (hinst : Cond.instanceMethod ⟨"java/lang/Object", "clone", "()Ljava/lang/Object;"⟩ ∈ TW) (hsel : Cond.selects "[I" ⟨"[I", "clone", "()Ljava/lang/Object;"⟩ ⟨"java/lang/Object", "clone", "()Ljava/lang/Object;"⟩ ∈ TW) (hdg : decode cc pc = .ok (.invokevirtual index, 3)) (hd : 1 ≤ d) (hf : cells + 1 ≤ CR ∧ slots + 5 ≤ SR) (hcat : (st.map fun v => v.category).sum ≤ 8) (kk : ∀ q : Nat, Jg X own cc nL ret nm d CR SR (Q) (fun n => n) (cells + 1) (slots + 5) (pc + 3) (lv) (.ref q :: st) (ws ++ [(q, .inl (jcA X 0, 5, .inl (fun j => [1, 20, 3, 2, 120].getD j 0)))])) : Jg X own cc nL ret nm d CR SR (Q) (fun n => n) (cells) (slots) (pc) (lv) (.ref n :: st) (ws) := by
  intro p e R s m args below meth c H locs ls hC hP hD hS hl
  obtain ⟨hx, hb, hml, hr, hnm, hown, hts, hlk, hfr, hlo, hcr, hsr, hE, hz⟩ := id hC
  have hK := hE.2.1
  rw [← em_sum (fun n => n)] at hcat
  subst ha
  obtain ⟨cell, f1, f2, f3, f4, f5, f6, f7⟩ := hE.2.2.2.2.2.2.2.1
  have hcH : H[jx X 0]? = some cell := by rw [hS.2.1 _ (Array.getElem?_eq_some_iff.mp f1).1 f7]; exact f1
  obtain ⟨c0, t0, g1, g2, g3⟩ := Cond.castable_spec (va_Nw.use (A := args) rfl hE.2.2.1)
  have hRA : s.vm.findClass "[I" = some (jcA X 0) := (hK.2 0 _ rfl).2
  intro T hT Y
  have hcT : T.heap[jx X 0]? = some cell := by rw [hT]; exact hcH
  obtain ⟨-, kA, hkA, comp, hkind⟩ := State.isArrayOf_alike Y.warmed.alike f2
  obtain ⟨-, kS, hkS, compS, hkindS⟩ := f2
  have e0 : c0 = cell.cls := by rw [f6]; exact Option.some.inj (g1.symm.trans hRA)
  obtain ⟨vm', Y', stp⟩ := Y.cloneArray hx hown (hts _ hlink) (hts _ hsame) (hts _ hnat) (hts _ hinst) (hts _ hsel) (a := jx X 0) (cell := cell) hcT (fun k h => by rw [h] at f4; cases f4) f3 (by rw [f6]; exact hRA) g2 (by rw [← e0]; exact g3)
    (fun i v hv => by
      have hk' : T.vm.classes[cell.cls]? = some kA := hkA
      have hv' : ∃ x : Int32, v = .int x := by
        rw [f5] at hv
        have hlt : i < 5 := (Array.getElem?_eq_some_iff.mp hv).1
        match i, hlt, hv with
        | 0, _, hv => exact ⟨1, (Option.some.inj hv).symm⟩
        | 1, _, hv => exact ⟨20, (Option.some.inj hv).symm⟩
        | 2, _, hv => exact ⟨3, (Option.some.inj hv).symm⟩
        | 3, _, hv => exact ⟨2, (Option.some.inj hv).symm⟩
        | 4, _, hv => exact ⟨120, (Option.some.inj hv).symm⟩
      obtain ⟨x, rfl⟩ := hv'
      simp [State.fitsSlot, State.slotType?, hk', hkind, fits])
    (g := F0 m pc ls (.ref (jx X 0) :: st.map (em fun n => n))) rfl (by rw [hml]; exact hl.1) rfl (by rw [hb]; exact hdg) (by omega) (by show 2 * 0 + _ + 14 ≤ _; omega) (Nat.le_trans hf.1 hcr) (by rw [f5]; exact Nat.le_trans hf.2 hsr) (hloader := Vm.clonesLoader_of_array hkS hkindS)
  have hce : ({ cls := cell.cls, slots := cell.slots } : Cell) = vp_cell (jcA X 0) (5, .inl (fun j => [1, 20, 3, 2, 120].getD j 0)) := by
    rw [f5, f6]
    rfl
  have hs5 : cell.slots.size = 5 := by rw [f5]; rfl
  rw [hce, hs5] at Y'
  rw [hce] at stp
  generalize hx0 : ((5, Sum.inl (fun j => [1, 20, 3, 2, 120].getD j 0)) : vp_A) = x0 at Y' stp
  generalize hH1 : H.push (vp_cell (jcA X 0) x0) = H1
  have z1 : H1.size = H.size + 1 := by rw [← hH1, Array.size_push]
  have e1 : H1[H.size]? = some (vp_cell (jcA X 0) x0) := by rw [← hH1, Array.getElem?_push_size]
  have o1 : ∀ q : Nat, q < H.size → H1[q]? = H[q]? := fun q hq => by rw [← hH1, Array.getElem?_push, if_neg (Nat.ne_of_lt hq)]
  have hk : ∀ (k : Nat) (y : Nat × va_E), ws[k]? = some y → H1[y.1]? = H[y.1]? := fun k y hy => o1 y.1 ((hP k y hy).lt)
  have hP1 : va_P (jD X) vwCl (ws ++ [(H.size, .inl (jcA X 0, x0))]) H1 := (hP.kept hk).app (fun k y hy => by
      have hz : k < 1 := (List.getElem?_eq_some_iff.mp hy).1
      rw [show k = 0 by omega] at hy
      cases hy
      exact e1)
  subst hx0
  obtain ⟨t, b1, b2⟩ := kk H.size p e R s m args below meth c H1 locs ls hC hP1 (hD.push hP rfl (Nat.le_trans hz hS.1)) ⟨Nat.le_trans hS.1 (by omega), fun y h1 h2 => (o1 y (Nat.lt_of_lt_of_le h1 hS.1)).trans (hS.2.1 y h1 h2), hS.2.2⟩ hl
    ((T.setVm vm').pushCell (vp_cell (jcA X 0) (5, .inl (fun j => [1, 20, 3, 2, 120].getD j 0)))) (by rw [← hH1, ← hT]; rfl) Y'
  refine ⟨t, stp t ?_, b2⟩
  rw [hT]
  exact b1
theorem J_castI {index n : Nat} {x : vp_A} (hlink : Cond.classLink own index "[I" ∈ TW) (q0 : Nat) (he : ws[q0]? = some (ad n, .inl (jcA X 0, x))) (hdg : decode cc pc = .ok (.checkcast index, 3)) (kk : Jg X own cc nL ret nm d CR SR (Q) ad (cells) (slots) (pc + 3) (lv) (.ref n :: st) (ws)) : Jg X own cc nL ret nm d CR SR (Q) ad (cells) (slots) (pc) (lv) (.ref n :: st) (ws) := by
  intro p e R s m args below meth c H locs ls hC hP hD hS hl
  obtain ⟨hx, hb, hml, hr, hnm, hown, hts, hlk, hfr, hlo, hcr, hsr, hE, hz⟩ := id hC
  have hK := hE.2.1
  have hRA : s.vm.findClass "[I" = some (jcA X 0) := (hK.2 0 _ rfl).2
  exact va_castA hx hb hown (hts _ hlink) hP q0 he hRA hdg (kk p e R s m args below meth c H locs ls hC hP hD hS hl)
end RULES
/-- what a method answers, and the world behind it -/
def jQ (X : jX) (ad : Nat → Nat) (fin : Option Value → va_W → Prop) : Array Value → State → Outcome → State → Prop := fun _ st oc t => (∃ (v : Option Value) (ws' : va_W), oc = .returned (v.map (em ad)) ∧ fin v ws' ∧ va_P (jD X) vwCl ws' t.heap ∧ va_D (jA X) ws') ∧ va_F (jA X) st t
/-- a method's contract: from this world and these arguments it comes to an end that fin allows -/
def Ct (X : jX) (y : MethodName) (cc : ByteArray) (nL : Nat) (ret : Option FieldType) (d mc ms : Nat) (ad : Nat → Nat) (args : List Value) (ws : va_W) (fin : Option Value → va_W → Prop) : Prop :=
  Met (jl X) y (Cond.code y cc nL ret :: TW) ({ frames := d, cells := mc, slots := ms, locals := 40 * d } : Room) (va_Pc (args.map (em ad)) (fun U => jE X U U.heap ∧ jSZ X ≤ U.heap.size ∧ va_P (jD X) vwCl ws U.heap ∧ va_D (jA X) ws)) (jQ X ad fin) mc ms (jA X)
def QM (X : jX) (ad : Nat → Nat) (fin : Option Value → va_W → Prop) (mc ms : Nat) : List Frame → Array Value → State → State → Prop := fun below a s => MQ below (jQ X ad fin) a s mc ms (jA X)
theorem lg_sl_em (ad : Nat → Nat) (vs : List Value) : (lg_sl (vs.map (em ad))).length = (lg_sl vs).length := by
  induction vs with
  | nil => rfl
  | cons v t ih =>
    simp only [lg_sl, List.map_cons, List.flatMap_cons, List.length_append, em_cat] at ih ⊢
    rw [ih]
    split <;> rfl
theorem lv_args_em (ad : Nat → Nat) (vs : List Value) : ∀ i, lv_args i (vs.map (em ad)) = lvm ad (lv_args i vs) := by
  induction vs with
  | nil => intro i; rfl
  | cons v t ih =>
    intro i
    simp only [lv_args, List.map_cons, em_cat, ih, lvm]
theorem MetW {l : Launch} {y : MethodName} {ws ws' : List Cond} {rm : Room} {Pc : Array Value → State → Prop} {Qc : Array Value → State → Outcome → State → Prop} {mc ms : Nat} {free : Addr → Prop} {cc : ByteArray} {maxL : Nat} {ret : Option FieldType}
    (hy : plainFor y = true) (hw : ws = Cond.code y cc maxL ret :: ws')
    (body : ∀ p e s m args below meth c s₁, BodyLoose p l y (headSpec ws rm) cc maxL ret e s m args below meth c s₁ → c.maxLocals = maxL → Pc args s →
      W p l e (headSpec ws rm).room s m args below meth c s.heap [] 0 0 (MQ below Qc args s mc ms free) (entryFrame m args maxL)) : Met l y ws rm Pc Qc mc ms free := by
  refine MetFree.of_bodySF (code := cc) (maxLocals := maxL) (ret := ret) hy ?_ ?_
  · intro args s m h hn
    obtain ⟨meth, c, h1, h2, h3, h4, h5, h6, -, -⟩ := Cond.code_spec hn (atoms_spec (ws := ws) h _ (by rw [hw]; exact List.mem_cons_self))
    exact ⟨meth, c, h1, h2, h3, h4, h5, h6⟩
  · intro p e s m args below meth c s₁ B hml hP _
    have hh0 : s₁.heap = s.heap := by rw [B.state]; rfl
    obtain ⟨t, a1, o, b1, b2, b3⟩ := body p e s m args below meth c s₁ B hml hP s₁ hh0 (Stand.of_body B)
    exact ⟨t, o, a1, b1, b2, ⟨b3.1, b3.2⟩⟩
theorem Ct.of {X : jX} {y : MethodName} {cc : ByteArray} {nL : Nat} {ret : Option FieldType} {d mc ms : Nat} {ad : Nat → Nat} {args : List Value} {ws : va_W} {fin : Option Value → va_W → Prop} {own nm : String} {lv : List (Nat × Value)} (hy : plainFor y = true) (hown : y.cls = own) (hnm : y.name = nm) (hlen : Nat.ble (lg_sl args).length nL = true) (hlv : lv_args 0 args = lv)
    (h : Jg X own cc nL ret nm d mc ms (QM X ad fin mc ms) ad 0 0 0 lv [] ws) : Ct X y cc nL ret d mc ms ad args ws fin := by
  subst hown
  subst hnm
  subst hlv
  refine MetW (cc := cc) (maxL := nL) (ret := ret) hy rfl ?_
  intro p e s m args' below meth c s₁ B hml hv
  obtain ⟨rfl, hE, hz, hP, hD⟩ := hv
  have hts := atoms_spec (ws := Cond.code y cc nL ret :: TW) B.pre
  have hl := lv_entry (args.map (em ad)) (n := nL) (by rw [lg_sl_em]; exact Nat.le_of_ble_eq_true hlen)
  rw [lg_entry_eq]
  generalize (lg_sl (args.map (em ad)) ++ List.replicate (nL - (lg_sl (args.map (em ad))).length) Slot.unset).toArray = ls at hl ⊢
  rw [lv_args_em] at hl
  exact h p e _ s m _ below meth c s.heap [] ls ⟨B.exec, B.bytes, hml, B.returns, (name_of_methodNamed B.named B.method).1, findClass_of_methodNamed B.named, fun w hw => hts w (List.mem_cons_of_mem _ hw), B.notSynchronized, Nat.le_refl _, Nat.le_refl _, Nat.le_refl _, Nat.le_refl _, hE, hz⟩ hP hD va_S.rf hl
section ENDS
variable {X : jX} {own : String} {cc : ByteArray} {nL : Nat} {ret : Option FieldType} {nm : String} {d CR SR : Nat} {Q : List Frame → Array Value → State → State → Prop} {ad : Nat → Nat} {cells slots pc : Nat} {lv : List (Nat × Value)} {st : List Value} {ws : va_W}
theorem J_ireturn {fin : Option Value → va_W → Prop} {mc ms : Nat} {x : Int32} {ty : FieldType} (hdg : decode cc pc = .ok (.ireturn, 1)) (hn : narrow ty (.int x) = .int x) (hc1 : Nat.ble cells mc = true) (hs1 : Nat.ble slots ms = true) (hfin : fin (some (.int x)) ws) : Jg X own cc nL (some ty) nm d CR SR (QM X ad fin mc ms) ad (cells) (slots) (pc) (lv) ([.int x]) (ws) := by
  intro p e R s m args below meth c H locs ls hC hP hD hS hl
  obtain ⟨hx, hb, hml, hr, hnm, hown, hts, hlk, hfr, hlo, hcr, hsr, hE, hz⟩ := id hC
  have hK := hE.2.1
  refine W.widen (Nat.le_of_ble_eq_true hc1) (Nat.le_of_ble_eq_true hs1) ?_
  exact W.zret hx hb hr hn (fun t ht hW => ⟨⟨some (.int x), ws, rfl, hfin, by rw [ht]; exact hP, hD⟩, hS.F ht⟩) hS.2.2 hdg hlk
theorem J_areturn {fin : Option Value → va_W → Prop} {mc ms : Nat} {v : Value} {C : String} (hdg : decode cc pc = .ok (.areturn, 1)) (hv : v = .null ∨ ∃ a, v = .ref a) (hc1 : Nat.ble cells mc = true) (hs1 : Nat.ble slots ms = true) (hfin : fin (some v) ws) : Jg X own cc nL (some (.object C)) nm d CR SR (QM X ad fin mc ms) ad (cells) (slots) (pc) (lv) ([v]) (ws) := by
  intro p e R s m args below meth c H locs ls hC hP hD hS hl
  obtain ⟨hx, hb, hml, hr, hnm, hown, hts, hlk, hfr, hlo, hcr, hsr, hE, hz⟩ := id hC
  have hK := hE.2.1
  refine W.widen (Nat.le_of_ble_eq_true hc1) (Nat.le_of_ble_eq_true hs1) ?_
  exact W.aret hx hb hr (Or.inl ⟨_, rfl⟩) (by rcases hv with rfl | ⟨a, rfl⟩; exact Or.inl rfl; exact Or.inr ⟨_, rfl⟩) (fun t ht hW => ⟨⟨some v, ws, rfl, hfin, by rw [ht]; exact hP, hD⟩, hS.F ht⟩) hS.2.2 hdg hlk
theorem J_return {fin : Option Value → va_W → Prop} {mc ms : Nat} (hdg : decode cc pc = .ok (.return_, 1)) (hc1 : Nat.ble cells mc = true) (hs1 : Nat.ble slots ms = true) (hfin : fin none ws) : Jg X own cc nL none nm d CR SR (QM X ad fin mc ms) ad (cells) (slots) (pc) (lv) ([]) (ws) := by
  intro p e R s m args below meth c H locs ls hC hP hD hS hl
  obtain ⟨hx, hb, hml, hr, hnm, hown, hts, hlk, hfr, hlo, hcr, hsr, hE, hz⟩ := id hC
  have hK := hE.2.1
  refine W.widen (Nat.le_of_ble_eq_true hc1) (Nat.le_of_ble_eq_true hs1) ?_
  exact W.vret hx hb hr (fun t ht hW => ⟨⟨none, ws, rfl, hfin, by rw [ht]; exact hP, hD⟩, hS.F ht⟩) hS.2.2 hdg hlk
end ENDS
/-- the words of a call -/
def jWV (own : String) (idx : Nat) (C : String) (y : MethodName) (cc : ByteArray) (nL : Nat) (ret : Option FieldType) (n : Nat) : Prop := (Cond.methodLink own idx y ∈ TW ∧ Cond.instanceMethod y ∈ TW ∧ Cond.selects C y y ∈ TW ∧ Cond.initialized C ∈ TW ∧ Cond.code y cc nL ret ∈ TW) ∧ (y.cls = C ∧ y.cls ≠ "java/lang/invoke/MethodHandle" ∧ y.cls ≠ "java/lang/invoke/VarHandle" ∧ (parseMethodDescriptor y.desc).map (fun d => d.parameters.length) = some n) ∧ nL ≤ 21
def jWS (own : String) (idx : Nat) (y : MethodName) (cc : ByteArray) (nL : Nat) (ret : Option FieldType) (n : Nat) : Prop := (Cond.methodLink own idx y ∈ TW ∧ Cond.static y ∈ TW ∧ Cond.initialized y.cls ∈ TW ∧ Cond.code y cc nL ret ∈ TW) ∧ (y.cls ≠ "java/lang/invoke/MethodHandle" ∧ y.cls ≠ "java/lang/invoke/VarHandle" ∧ (parseMethodDescriptor y.desc).map (fun d => d.parameters.length) = some n) ∧ nL ≤ 21
def jWSN (own : String) (idx : Nat) (y : MethodName) (cc : ByteArray) (nL : Nat) (ret : Option FieldType) (n : Nat) : Prop := (Cond.methodLinkNest own idx y RX5 ∈ jNest ∧ Cond.static y ∈ TW ∧ Cond.initialized y.cls ∈ TW ∧ Cond.code y cc nL ret ∈ TW) ∧ (y.cls ≠ "java/lang/invoke/MethodHandle" ∧ y.cls ≠ "java/lang/invoke/VarHandle" ∧ (parseMethodDescriptor y.desc).map (fun d => d.parameters.length) = some n) ∧ nL ≤ 21
def jWI (own : String) (idx : Nat) (y : MethodName) (cc : ByteArray) (nL : Nat) (n : Nat) : Prop := (Cond.methodLink own idx y ∈ TW ∧ Cond.instanceMethod y ∈ TW ∧ Cond.initialized y.cls ∈ TW ∧ Cond.code y cc nL none ∈ TW) ∧ (y.cls ≠ "java/lang/invoke/MethodHandle" ∧ y.cls ≠ "java/lang/invoke/VarHandle" ∧ (parseMethodDescriptor y.desc).map (fun d => d.parameters.length) = some n) ∧ nL ≤ 21 ∧ y.name = "<init>"
def jWIN (own : String) (idx : Nat) (y : MethodName) (cc : ByteArray) (nL : Nat) (n : Nat) : Prop := (Cond.methodLinkNest own idx y RX5 ∈ jNest ∧ Cond.instanceMethod y ∈ TW ∧ Cond.initialized y.cls ∈ TW ∧ Cond.code y cc nL none ∈ TW) ∧ (y.cls ≠ "java/lang/invoke/MethodHandle" ∧ y.cls ≠ "java/lang/invoke/VarHandle" ∧ (parseMethodDescriptor y.desc).map (fun d => d.parameters.length) = some n) ∧ nL ≤ 21 ∧ y.name = "<init>"
theorem jBlind {X : jX} {av : List Value} {ws : va_W} : FrameBlind (va_Pc av (fun U => jE X U U.heap ∧ jSZ X ≤ U.heap.size ∧ va_P (jD X) vwCl ws U.heap ∧ va_D (jA X) ws)) := fun a U g mk q => by
  obtain ⟨e1, hE, hz, hP, hD⟩ := q
  exact ⟨e1, hE.same rfl rfl, hz, hP, hD⟩
theorem jCons {y : MethodName} {cc : ByteArray} {nL : Nat} {ret : Option FieldType} (h : Cond.code y cc nL ret ∈ TW) : ∀ w ∈ Cond.code y cc nL ret :: TW, w ∈ TW := fun w hw => by
  rcases List.mem_cons.mp hw with rfl | hw
  · exact h
  · exact hw
section CALLS
variable {X : jX} {own : String} {cc : ByteArray} {nL : Nat} {ret : Option FieldType} {nm : String} {d CR SR : Nat} {Q : List Frame → Array Value → State → State → Prop} {ad : Nat → Nat} {cells slots pc : Nat} {lv : List (Nat × Value)} {st : List Value} {ws : va_W}
theorem jRun {p : Program} {e : Env} {R : Room} {s : State} {m : MethodId} {args : Array Value} {below : List Frame} {meth : Method} {c : Code} {H : Heap} {locs : List Loc} {ls : Array Slot} {mc ms : Nat} {st0 rest : List Value} {a : Array Value} {fin : Option Value → va_W → Prop} {Q0 : State → Prop} (hr : va_Run p (jl X) e R s m args below meth c H locs cells slots mc ms (F0 m pc ls st0) rest (jQ X ad fin a) (jA X)) (hS : va_S (jA X) s.heap H locs)
    (kk : ∀ (v : Option Value) (ws' : va_W) (H1 : Heap) (locs1 : List Loc), fin v ws' → va_P (jD X) vwCl ws' H1 → va_D (jA X) ws' → va_S (jA X) s.heap H1 locs1 → W p (jl X) e R s m args below meth c H1 locs1 (cells + mc) (slots + ms) Q0 (F0 m (pc + 3) ls ((v.map (em ad)).toList ++ rest))) : W p (jl X) e R s m args below meth c H locs cells slots Q0 (F0 m pc ls st0) := by
  intro T hT Y
  obtain ⟨v, st₀, t, T', L, h0, Y', hL, e1, e2, ⟨⟨v1, ws', hv, hp, hP1, hD1⟩, hz, hk⟩, st⟩ := hr T hT Y
  cases hv
  rw [h0] at hz hk
  obtain ⟨t2, a1, b1⟩ := kk v1 ws' T'.heap (locs ++ L) hp (by rw [e1]; exact hP1) hD1
    ⟨Nat.le_trans hS.1 (by rw [e1]; exact hz), fun q h1 h2 => by rw [e1, hk q (Nat.lt_of_lt_of_le h1 hS.1) h2]; exact hS.2.1 q h1 h2, fun q hq => by
      rcases List.mem_append.mp hq with h | h
      · exact hS.2.2 q h
      · exact hL q h⟩ T' rfl Y'
  exact ⟨t2, st t2 a1, b1⟩
theorem J_callV {index : Nat} {y : MethodName} {cc' : ByteArray} {nL' : Nat} {C : String} {ret' : Option FieldType} {b ci : Nat} {fs : List Value} {r : vw_C} {d' mc ms n : Nat} {As : List Value} {st0 : List Value} {fin : Option Value → va_W → Prop} (hw : jWV own index C y cc' nL' ret' n) (hM : Ct X y cc' nL' ret' d' mc ms ad (.ref b :: As) ws fin) (hlen : As.length = n) (hst : st0 = As.reverse ++ .ref b :: st) (hdg : decode cc pc = .ok (.invokevirtual index, 3)) (q0 : Nat) (hrec : ws[q0]? = some (ad b, .inr (ci, fs))) (hcl : vwCl[ci]? = some r) (hrC : r.1 = C) (hd : Nat.ble (d' + 1) d = true) (hf : Nat.ble (cells + mc) CR = true ∧ Nat.ble (slots + ms) SR = true) (hcat : Nat.ble (st.map fun v => v.category).sum 8 = true) (kk : ∀ (v : Option Value) (ws' : va_W), fin v ws' → Jg X own cc nL ret nm d CR SR (Q) ad (cells + mc) (slots + ms) (pc + 3) (lv) (v.toList ++ st) (ws')) : Jg X own cc nL ret nm d CR SR (Q) ad (cells) (slots) (pc) (lv) (st0) (ws) := by
  intro p e R s m args below meth c H locs ls hC hP hD hS hl
  obtain ⟨hx, hb, hml, hr, hnm, hown, hts, hlk, hfr, hlo, hcr, hsr, hE, hz⟩ := id hC
  have hK := hE.2.1
  subst hst
  have hdd := Nat.le_of_ble_eq_true hd
  have hcat1 := Nat.le_of_ble_eq_true hcat
  rw [← em_sum ad] at hcat1
  have hpre : ∀ U : State, U.heap = H → s.WarmedH U.vm → va_Pc ((.ref b :: As).map (em ad)) (fun U => jE X U U.heap ∧ jSZ X ≤ U.heap.size ∧ va_P (jD X) vwCl ws U.heap ∧ va_D (jA X) ws) ((.ref b :: As).map (em ad)).toArray U := fun U hU hW => ⟨rfl, hE.go hz hS hU hW, by rw [hU]; exact Nat.le_trans hz hS.1, by rw [hU]; exact hP, hD⟩
  have hl8 : 8 + (nL' + 11) + 40 * d' ≤ R.locals := by have := hw.2.2; omega
  refine jRun (ad := ad) (va_runV (As := As.map (em ad)) (rest := st.map (em ad)) ⟨hx, hb, hml, hown, hts⟩ hM (cwV n hts (goodTW (fun w hw1 => by rcases List.mem_append.mp hw1 with h | h; rotate_left; exact jCons hw.1.2.2.2.2 w h; simp only [List.mem_cons, List.not_mem_nil, or_false] at h; rcases h with rfl | rfl | rfl | rfl; exact hw.1.1; exact hw.1.2.1; exact hw.1.2.2.1; exact hw.1.2.2.2.1)) rfl rfl rfl hw.2.1 ⟨by show d' + 1 ≤ _; omega, hl8⟩) ⟨jBlind, by rw [← hrC]; exact va_recv hK hP hcl hrec, hpre⟩ rfl (by rw [List.length_map]; exact hlen) hl.1 (by simp [em]) (lv_room hcat1) hdg ⟨Nat.le_trans (Nat.le_of_ble_eq_true hf.1) hcr, Nat.le_trans (Nat.le_of_ble_eq_true hf.2) hsr⟩) hS (fun v ws' H1 locs1 hv hP1 hD1 hS1 => ?_)
  have h9 := kk v ws' hv p e R s m args below meth c H1 locs1 ls hC hP1 hD1 hS1 hl
  rw [List.map_append] at h9
  cases v <;> exact h9
theorem J_callS {index : Nat} {y : MethodName} {cc' : ByteArray} {nL' : Nat} {ret' : Option FieldType} {d' mc ms n : Nat} {As : List Value} {st0 : List Value} {fin : Option Value → va_W → Prop} (hw : jWS own index y cc' nL' ret' n) (hM : Ct X y cc' nL' ret' d' mc ms ad As ws fin) (hlen : As.length = n) (hst : st0 = As.reverse ++ st) (hdg : decode cc pc = .ok (.invokestatic index, 3)) (hd : Nat.ble (d' + 1) d = true) (hf : Nat.ble (cells + mc) CR = true ∧ Nat.ble (slots + ms) SR = true) (hcat : Nat.ble (st.map fun v => v.category).sum 8 = true) (kk : ∀ (v : Option Value) (ws' : va_W), fin v ws' → Jg X own cc nL ret nm d CR SR (Q) ad (cells + mc) (slots + ms) (pc + 3) (lv) (v.toList ++ st) (ws')) : Jg X own cc nL ret nm d CR SR (Q) ad (cells) (slots) (pc) (lv) (st0) (ws) := by
  intro p e R s m args below meth c H locs ls hC hP hD hS hl
  obtain ⟨hx, hb, hml, hr, hnm, hown, hts, hlk, hfr, hlo, hcr, hsr, hE, hz⟩ := id hC
  have hK := hE.2.1
  subst hst
  have hdd := Nat.le_of_ble_eq_true hd
  have hcat1 := Nat.le_of_ble_eq_true hcat
  rw [← em_sum ad] at hcat1
  have hpre : ∀ U : State, U.heap = H → s.WarmedH U.vm → va_Pc (As.map (em ad)) (fun U => jE X U U.heap ∧ jSZ X ≤ U.heap.size ∧ va_P (jD X) vwCl ws U.heap ∧ va_D (jA X) ws) (As.map (em ad)).toArray U := fun U hU hW => ⟨rfl, hE.go hz hS hU hW, by rw [hU]; exact Nat.le_trans hz hS.1, by rw [hU]; exact hP, hD⟩
  have hl8 : 8 + (nL' + 11) + 40 * d' ≤ R.locals := by have := hw.2.2; omega
  refine jRun (ad := ad) (va_runS (As := As.map (em ad)) (rest := st.map (em ad)) ⟨hx, hb, hml, hown, hts⟩ hM (va_cwS n hts (goodTW (fun w hw1 => by rcases List.mem_append.mp hw1 with h | h; rotate_left; exact jCons hw.1.2.2.2 w h; simp only [List.mem_cons, List.not_mem_nil, or_false] at h; rcases h with rfl | rfl | rfl; exact hw.1.1; exact hw.1.2.1; exact hw.1.2.2.1)) rfl rfl rfl hw.2.1 ⟨by show d' + 1 ≤ _; omega, hl8⟩) ⟨jBlind, hpre⟩ rfl (by rw [List.length_map]; exact hlen) hl.1 (by simp []) (lv_room hcat1) hdg ⟨Nat.le_trans (Nat.le_of_ble_eq_true hf.1) hcr, Nat.le_trans (Nat.le_of_ble_eq_true hf.2) hsr⟩) hS (fun v ws' H1 locs1 hv hP1 hD1 hS1 => ?_)
  have h9 := kk v ws' hv p e R s m args below meth c H1 locs1 ls hC hP1 hD1 hS1 hl
  rw [List.map_append] at h9
  cases v <;> exact h9
theorem J_callSN {index : Nat} {y : MethodName} {cc' : ByteArray} {nL' : Nat} {ret' : Option FieldType} {d' mc ms n : Nat} {As : List Value} {st0 : List Value} {fin : Option Value → va_W → Prop} (hw : jWSN own index y cc' nL' ret' n) (hM : Ct X y cc' nL' ret' d' mc ms ad As ws fin) (hlen : As.length = n) (hst : st0 = As.reverse ++ st) (hdg : decode cc pc = .ok (.invokestatic index, 3)) (hd : Nat.ble (d' + 1) d = true) (hf : Nat.ble (cells + mc) CR = true ∧ Nat.ble (slots + ms) SR = true) (hcat : Nat.ble (st.map fun v => v.category).sum 8 = true) (kk : ∀ (v : Option Value) (ws' : va_W), fin v ws' → Jg X own cc nL ret nm d CR SR (Q) ad (cells + mc) (slots + ms) (pc + 3) (lv) (v.toList ++ st) (ws')) : Jg X own cc nL ret nm d CR SR (Q) ad (cells) (slots) (pc) (lv) (st0) (ws) := by
  intro p e R s m args below meth c H locs ls hC hP hD hS hl
  obtain ⟨hx, hb, hml, hr, hnm, hown, hts, hlk, hfr, hlo, hcr, hsr, hE, hz⟩ := id hC
  have hK := hE.2.1
  subst hst
  have hdd := Nat.le_of_ble_eq_true hd
  have hcat1 := Nat.le_of_ble_eq_true hcat
  rw [← em_sum ad] at hcat1
  have hpre : ∀ U : State, U.heap = H → s.WarmedH U.vm → va_Pc (As.map (em ad)) (fun U => jE X U U.heap ∧ jSZ X ≤ U.heap.size ∧ va_P (jD X) vwCl ws U.heap ∧ va_D (jA X) ws) (As.map (em ad)).toArray U := fun U hU hW => ⟨rfl, hE.go hz hS hU hW, by rw [hU]; exact Nat.le_trans hz hS.1, by rw [hU]; exact hP, hD⟩
  have hl8 : 8 + (nL' + 11) + 40 * d' ≤ R.locals := by have := hw.2.2; omega
  refine jRun (ad := ad) (va_runSN (As := As.map (em ad)) (rest := st.map (em ad)) ⟨hx, hb, hml, hown, hts⟩ hM ⟨va_cnB n hts (goodTW (jCons hw.1.2.2.2)) rfl rfl rfl (hE.1 _ hw.1.1) (hts _ hw.1.2.2.1) hw.2.1 ⟨by show d' + 1 ≤ _; omega, hl8⟩, hts _ hw.1.2.1, trivial⟩ ⟨jBlind, hpre⟩ rfl (by rw [List.length_map]; exact hlen) hl.1 (by simp []) (lv_room hcat1) hdg ⟨Nat.le_trans (Nat.le_of_ble_eq_true hf.1) hcr, Nat.le_trans (Nat.le_of_ble_eq_true hf.2) hsr⟩) hS (fun v ws' H1 locs1 hv hP1 hD1 hS1 => ?_)
  have h9 := kk v ws' hv p e R s m args below meth c H1 locs1 ls hC hP1 hD1 hS1 hl
  rw [List.map_append] at h9
  cases v <;> exact h9
theorem J_callI {index : Nat} {y : MethodName} {cc' : ByteArray} {nL' : Nat} {b : Nat} {d' mc ms n : Nat} {As : List Value} {st0 : List Value} {fin : Option Value → va_W → Prop} (hw : jWI own index y cc' nL' n) (hM : Ct X y cc' nL' none d' mc ms ad (.ref b :: As) ws fin) (hlen : As.length = n) (hst : st0 = As.reverse ++ .ref b :: st) (hdg : decode cc pc = .ok (.invokespecial index, 3)) (hd : Nat.ble (d' + 1) d = true) (hf : Nat.ble (cells + mc) CR = true ∧ Nat.ble (slots + ms) SR = true) (hcat : Nat.ble (st.map fun v => v.category).sum 8 = true) (kk : ∀ (v : Option Value) (ws' : va_W), fin v ws' → Jg X own cc nL ret nm d CR SR (Q) ad (cells + mc) (slots + ms) (pc + 3) (lv) (v.toList ++ st) (ws')) : Jg X own cc nL ret nm d CR SR (Q) ad (cells) (slots) (pc) (lv) (st0) (ws) := by
  intro p e R s m args below meth c H locs ls hC hP hD hS hl
  obtain ⟨hx, hb, hml, hr, hnm, hown, hts, hlk, hfr, hlo, hcr, hsr, hE, hz⟩ := id hC
  have hK := hE.2.1
  subst hst
  have hdd := Nat.le_of_ble_eq_true hd
  have hcat1 := Nat.le_of_ble_eq_true hcat
  rw [← em_sum ad] at hcat1
  have hpre : ∀ U : State, U.heap = H → s.WarmedH U.vm → va_Pc ((.ref b :: As).map (em ad)) (fun U => jE X U U.heap ∧ jSZ X ≤ U.heap.size ∧ va_P (jD X) vwCl ws U.heap ∧ va_D (jA X) ws) ((.ref b :: As).map (em ad)).toArray U := fun U hU hW => ⟨rfl, hE.go hz hS hU hW, by rw [hU]; exact Nat.le_trans hz hS.1, by rw [hU]; exact hP, hD⟩
  have hl8 : 8 + (nL' + 11) + 40 * d' ≤ R.locals := by have := hw.2.2.1; omega
  refine jRun (ad := ad) (va_runI (As := As.map (em ad)) (rest := st.map (em ad)) ⟨hx, hb, hml, hown, hts⟩ hM (cwI n hts (goodTW (jCons hw.1.2.2.2)) rfl rfl rfl (hts _ hw.1.2.2.1) (hts _ hw.1.1) (hts _ hw.1.2.1) hw.2.2.2 hw.2.1 ⟨by show d' + 1 ≤ _; omega, hl8⟩) ⟨jBlind, hpre⟩ rfl (by rw [List.length_map]; exact hlen) hl.1 (by simp [em]) (lv_room hcat1) hdg ⟨Nat.le_trans (Nat.le_of_ble_eq_true hf.1) hcr, Nat.le_trans (Nat.le_of_ble_eq_true hf.2) hsr⟩) hS (fun v ws' H1 locs1 hv hP1 hD1 hS1 => ?_)
  have h9 := kk v ws' hv p e R s m args below meth c H1 locs1 ls hC hP1 hD1 hS1 hl
  rw [List.map_append] at h9
  cases v <;> exact h9
theorem J_callIN {index : Nat} {y : MethodName} {cc' : ByteArray} {nL' : Nat} {b : Nat} {d' mc ms n : Nat} {As : List Value} {st0 : List Value} {fin : Option Value → va_W → Prop} (hw : jWIN own index y cc' nL' n) (hM : Ct X y cc' nL' none d' mc ms ad (.ref b :: As) ws fin) (hlen : As.length = n) (hst : st0 = As.reverse ++ .ref b :: st) (hdg : decode cc pc = .ok (.invokespecial index, 3)) (hd : Nat.ble (d' + 1) d = true) (hf : Nat.ble (cells + mc) CR = true ∧ Nat.ble (slots + ms) SR = true) (hcat : Nat.ble (st.map fun v => v.category).sum 8 = true) (kk : ∀ (v : Option Value) (ws' : va_W), fin v ws' → Jg X own cc nL ret nm d CR SR (Q) ad (cells + mc) (slots + ms) (pc + 3) (lv) (v.toList ++ st) (ws')) : Jg X own cc nL ret nm d CR SR (Q) ad (cells) (slots) (pc) (lv) (st0) (ws) := by
  intro p e R s m args below meth c H locs ls hC hP hD hS hl
  obtain ⟨hx, hb, hml, hr, hnm, hown, hts, hlk, hfr, hlo, hcr, hsr, hE, hz⟩ := id hC
  have hK := hE.2.1
  subst hst
  have hdd := Nat.le_of_ble_eq_true hd
  have hcat1 := Nat.le_of_ble_eq_true hcat
  rw [← em_sum ad] at hcat1
  have hpre : ∀ U : State, U.heap = H → s.WarmedH U.vm → va_Pc ((.ref b :: As).map (em ad)) (fun U => jE X U U.heap ∧ jSZ X ≤ U.heap.size ∧ va_P (jD X) vwCl ws U.heap ∧ va_D (jA X) ws) ((.ref b :: As).map (em ad)).toArray U := fun U hU hW => ⟨rfl, hE.go hz hS hU hW, by rw [hU]; exact Nat.le_trans hz hS.1, by rw [hU]; exact hP, hD⟩
  have hl8 : 8 + (nL' + 11) + 40 * d' ≤ R.locals := by have := hw.2.2.1; omega
  refine jRun (ad := ad) (va_runIN (As := As.map (em ad)) (rest := st.map (em ad)) ⟨hx, hb, hml, hown, hts⟩ hM ⟨va_cnB n hts (goodTW (jCons hw.1.2.2.2)) rfl rfl rfl (hE.1 _ hw.1.1) (hts _ hw.1.2.2.1) hw.2.1 ⟨by show d' + 1 ≤ _; omega, hl8⟩, hw.2.2.2, hts _ hw.1.2.1⟩ ⟨jBlind, hpre⟩ rfl (by rw [List.length_map]; exact hlen) hl.1 (by simp [em]) (lv_room hcat1) hdg ⟨Nat.le_trans (Nat.le_of_ble_eq_true hf.1) hcr, Nat.le_trans (Nat.le_of_ble_eq_true hf.2) hsr⟩) hS (fun v ws' H1 locs1 hv hP1 hD1 hS1 => ?_)
  have h9 := kk v ws' hv p e R s m args below meth c H1 locs1 ls hC hP1 hD1 hS1 hl
  rw [List.map_append] at h9
  cases v <;> exact h9
theorem J_callStr {index : Nat} {y : MethodName} {cc' : ByteArray} {nL' : Nat} {ret' : Option FieldType} {b : Nat} {d' mc ms n : Nat} {As : List Value} {st0 : List Value} {fin : Option Value → va_W → Prop} (hw : jWV own index "java/lang/String" y cc' nL' ret' n) (hM : Ct X y cc' nL' ret' d' mc ms ad (.ref b :: As) ws fin) (hlen : As.length = n) (hst : st0 = As.reverse ++ .ref b :: st) (hdg : decode cc pc = .ok (.invokevirtual index, 3)) (i : Nat) (hi : i < 7) (ha : ad b = jx X (10 + i)) (hd : Nat.ble (d' + 1) d = true) (hf : Nat.ble (cells + mc) CR = true ∧ Nat.ble (slots + ms) SR = true) (hcat : Nat.ble (st.map fun v => v.category).sum 8 = true) (kk : ∀ (v : Option Value) (ws' : va_W), fin v ws' → Jg X own cc nL ret nm d CR SR (Q) ad (cells + mc) (slots + ms) (pc + 3) (lv) (v.toList ++ st) (ws')) : Jg X own cc nL ret nm d CR SR (Q) ad (cells) (slots) (pc) (lv) (st0) (ws) := by
  intro p e R s m args below meth c H locs ls hC hP hD hS hl
  obtain ⟨hx, hb, hml, hr, hnm, hown, hts, hlk, hfr, hlo, hcr, hsr, hE, hz⟩ := id hC
  have hK := hE.2.1
  subst hst
  have hdd := Nat.le_of_ble_eq_true hd
  have hcat1 := Nat.le_of_ble_eq_true hcat
  rw [← em_sum ad] at hcat1
  have hpre : ∀ U : State, U.heap = H → s.WarmedH U.vm → va_Pc ((.ref b :: As).map (em ad)) (fun U => jE X U U.heap ∧ jSZ X ≤ U.heap.size ∧ va_P (jD X) vwCl ws U.heap ∧ va_D (jA X) ws) ((.ref b :: As).map (em ad)).toArray U := fun U hU hW => ⟨rfl, hE.go hz hS hU hW, by rw [hU]; exact Nat.le_trans hz hS.1, by rw [hU]; exact hP, hD⟩
  have hl8 : 8 + (nL' + 11) + 40 * d' ≤ R.locals := by have := hw.2.2; omega
  refine jRun (ad := ad) (va_runV (As := As.map (em ad)) (rest := st.map (em ad)) ⟨hx, hb, hml, hown, hts⟩ hM (cwV n hts (goodTW (fun w hw1 => by rcases List.mem_append.mp hw1 with h | h; rotate_left; exact jCons hw.1.2.2.2.2 w h; simp only [List.mem_cons, List.not_mem_nil, or_false] at h; rcases h with rfl | rfl | rfl | rfl; exact hw.1.1; exact hw.1.2.1; exact hw.1.2.2.1; exact hw.1.2.2.2.1)) rfl rfl rfl hw.2.1 ⟨by show d' + 1 ≤ _; omega, hl8⟩) ⟨jBlind, (by have hv9 := vk_recv (i := i) hE.2.2.2.2.2.2.2.2.2.2.1 hi hS; rw [← ha] at hv9; exact hv9), hpre⟩ rfl (by rw [List.length_map]; exact hlen) hl.1 (by simp [em]) (lv_room hcat1) hdg ⟨Nat.le_trans (Nat.le_of_ble_eq_true hf.1) hcr, Nat.le_trans (Nat.le_of_ble_eq_true hf.2) hsr⟩) hS (fun v ws' H1 locs1 hv hP1 hD1 hS1 => ?_)
  have h9 := kk v ws' hv p e R s m args below meth c H1 locs1 ls hC hP1 hD1 hS1 hl
  rw [List.map_append] at h9
  cases v <;> exact h9
end CALLS
