/-- the pad's numbers and values beside the rest -/
def PM (m : Mem) (F W : Nat → Int32) : Mem := upC (upC m 190 F) 192 W
theorem PM_self {m : Mem} : PM m (m 190) (m 192) = m := by
  funext c
  unfold PM upC
  by_cases h : c = 192
  · subst h; simp
  · by_cases h2 : c = 190
    · subst h2; simp
    · simp [h, h2]
theorem PM_190 {m : Mem} {F W : Nat → Int32} : PM m F W 190 = F := by unfold PM upC; simp
theorem PM_ne {m : Mem} {F W : Nat → Int32} {c : Nat} (h : c ≠ 190) (h2 : c ≠ 192) : PM m F W c = m c := by unfold PM upC; rw [if_neg h2, if_neg h]
theorem PM_upF {m : Mem} {F W : Nat → Int32} {k : Nat} {v : Int32} : up (PM m F W) 190 k v = PM m (upd F k v) W := by
  funext c
  unfold PM up upC
  by_cases h : c = 190
  · subst h; simp
  · by_cases h2 : c = 192 <;> simp [h, h2]
theorem PM_upW {m : Mem} {F W : Nat → Int32} {k : Nat} {v : Int32} : up (PM m F W) 192 k v = PM m F (upd W k v) := by
  funext c
  unfold PM up upC
  by_cases h : c = 192
  · subst h; simp
  · simp [h]
section PRULES
variable {X : jX} {own : String} {cc : ByteArray} {nL : Nat} {ret : Option FieldType} {nm : String} {d CR SR : Nat} {Q : List Frame → Array Value → State → State → Prop} {ad : Nat → Nat} {cells slots pc : Nat} {lv : List (Nat × Value)} {st : List Value} {m : Mem} {F W : Nat → Int32}
theorem gP_length {index : Nat} (hw : Cond.fieldLink own index "PlugPins$Pad" "length" "I" ∈ TW) (hdg : decode cc pc = .ok (.getfield index, 3)) (kk : Jg X own cc nL ret nm d CR SR Q ad cells slots (pc + 3) (lv) (.int (F 1) :: st) (WS X ad (PM m (F) (W)))) : Jg X own cc nL ret nm d CR SR Q ad cells slots (pc) (lv) (.ref (190) :: st) (WS X ad (PM m (F) (W))) := by
  refine gX4_length hw hdg ?_
  rw [PM_190]
  exact kk
theorem pP_length {index : Nat} {x : Int32} (hw : Cond.fieldLink own index "PlugPins$Pad" "length" "I" ∈ TW) (hdg : decode cc pc = .ok (.putfield index, 3)) (kk : Jg X own cc nL ret nm d CR SR Q ad cells slots (pc + 3) (lv) (st) (WS X ad (PM m (upd F 1 x) (W)))) : Jg X own cc nL ret nm d CR SR Q ad cells slots (pc) (lv) (.int x :: .ref (190) :: st) (WS X ad (PM m (F) (W))) := by
  refine pX4_length hw hdg ?_
  rw [PM_upF]
  exact kk
theorem gP_place {index : Nat} (hw : Cond.fieldLink own index "PlugPins$Pad" "place" "I" ∈ TW) (hdg : decode cc pc = .ok (.getfield index, 3)) (kk : Jg X own cc nL ret nm d CR SR Q ad cells slots (pc + 3) (lv) (.int (F 2) :: st) (WS X ad (PM m (F) (W)))) : Jg X own cc nL ret nm d CR SR Q ad cells slots (pc) (lv) (.ref (190) :: st) (WS X ad (PM m (F) (W))) := by
  refine gX4_place hw hdg ?_
  rw [PM_190]
  exact kk
theorem pP_place {index : Nat} {x : Int32} (hw : Cond.fieldLink own index "PlugPins$Pad" "place" "I" ∈ TW) (hdg : decode cc pc = .ok (.putfield index, 3)) (kk : Jg X own cc nL ret nm d CR SR Q ad cells slots (pc + 3) (lv) (st) (WS X ad (PM m (upd F 2 x) (W)))) : Jg X own cc nL ret nm d CR SR Q ad cells slots (pc) (lv) (.int x :: .ref (190) :: st) (WS X ad (PM m (F) (W))) := by
  refine pX4_place hw hdg ?_
  rw [PM_upF]
  exact kk
theorem gP_kind {index : Nat} (hw : Cond.fieldLink own index "PlugPins$Pad" "kind" "I" ∈ TW) (hdg : decode cc pc = .ok (.getfield index, 3)) (kk : Jg X own cc nL ret nm d CR SR Q ad cells slots (pc + 3) (lv) (.int (F 3) :: st) (WS X ad (PM m (F) (W)))) : Jg X own cc nL ret nm d CR SR Q ad cells slots (pc) (lv) (.ref (190) :: st) (WS X ad (PM m (F) (W))) := by
  refine gX4_kind hw hdg ?_
  rw [PM_190]
  exact kk
theorem pP_kind {index : Nat} {x : Int32} (hw : Cond.fieldLink own index "PlugPins$Pad" "kind" "I" ∈ TW) (hdg : decode cc pc = .ok (.putfield index, 3)) (kk : Jg X own cc nL ret nm d CR SR Q ad cells slots (pc + 3) (lv) (st) (WS X ad (PM m (upd F 3 x) (W)))) : Jg X own cc nL ret nm d CR SR Q ad cells slots (pc) (lv) (.int x :: .ref (190) :: st) (WS X ad (PM m (F) (W))) := by
  refine pX4_kind hw hdg ?_
  rw [PM_upF]
  exact kk
theorem rP_signs (k : Nat) {i : Int32} (hk : k < 80) (hi : i = nI k) (hdg : decode cc pc = .ok (.iaload, 1)) (kk : Jg X own cc nL ret nm d CR SR Q ad cells slots (pc + 1) (lv) (.int (m 191 k) :: st) (WS X ad (PM m (F) (W)))) : Jg X own cc nL ret nm d CR SR Q ad cells slots (pc) (lv) (.int i :: .ref 191 :: st) (WS X ad (PM m (F) (W))) := by
  subst hi
  refine al_signs hdg (nIin hk (by decide)) ?_
  rw [nI_cl (by omega), PM_ne (by decide) (by decide)]
  exact kk
theorem wP_vals (k : Nat) {i x : Int32} (hk : k < 3) (hi : i = nI k) (hdg : decode cc pc = .ok (.iastore, 1)) (kk : Jg X own cc nL ret nm d CR SR Q ad cells slots (pc + 1) (lv) (st) (WS X ad (PM m (F) (upd W k x)))) : Jg X own cc nL ret nm d CR SR Q ad cells slots (pc) (lv) (.int x :: .int i :: .ref 192 :: st) (WS X ad (PM m (F) (W))) := by
  subst hi
  refine as_vals hdg (nIin hk (by decide)) ?_
  rw [nI_cl (by omega), PM_upW]
  exact kk
end PRULES
/-- the class's reader stands at a place -/
def RC (F : Nat → Int32) (L p : Nat) : Prop := F 1 = nI L ∧ F 2 = nI p ∧ p ≤ L ∧ L ≤ 80
/-- the signs are the reference's -/
def SgP (m : Mem) (P : Nat → Int32) (L : Nat) : Prop := ∀ j, j < L → m 191 j = P j
def sgn (P : Nat → Int32) (L p : Nat) : Int32 := if p < L then P p else -6
theorem RC_upd {F : Nat → Int32} {L p k : Nat} {v : Int32} (h : RC F L p) (hk : 3 ≤ k) : RC (upd F k v) L p := by
  obtain ⟨h1, h2, h3⟩ := h
  exact ⟨by rw [upd_at, if_neg (by omega)]; exact h1, by rw [upd_at, if_neg (by omega)]; exact h2, h3⟩
theorem RC_next {F : Nat → Int32} {L p : Nat} (h : RC F L p) (hp : p < L) : RC (upd F 2 (nI p + 1)) L (p + 1) := by
  obtain ⟨h1, h2, h3, h4⟩ := h
  exact ⟨by rw [upd_at, if_neg (by decide)]; exact h1, by rw [upd_same, nI_succ], hp, h4⟩
theorem jin_same {x c : Int32} : jin x c c = 0 ↔ ¬ x = c := by
  unfold jin
  constructor
  · intro h e
    have hc : ¬ c < c := by rw [Int32.lt_iff_toInt_lt]; omega
    rw [e, if_neg hc, if_neg hc] at h
    exact absurd h (by decide)
  · intro h
    by_cases h1 : x < c
    · rw [if_pos h1]
    · rw [if_neg h1, if_pos]
      rw [Int32.lt_iff_toInt_lt]
      rw [Int32.not_lt, Int32.le_iff_toInt_le] at h1
      have : ¬ x.toInt = c.toInt := fun g => h (Int32.toInt_inj.mp g)
      omega
theorem dS_bad {P : Nat → Int32} {L : Nat} {lo hi : Int32} {q : Nat × Bool} (h : q.2 = false) : dS P L lo hi q = q := by
  unfold dS
  rw [if_neg (by rw [h]; decide)]
  exact Prod.ext rfl h.symm
theorem nS_bad {P : Nat → Int32} {L : Nat} {q : Nat × Bool} (h : q.2 = false) : nS P L q = q := by
  unfold nS
  rw [if_neg (by rw [h]; decide)]
  exact Prod.ext rfl h.symm
set_option maxRecDepth 100000 in
set_option maxHeartbeats 4000000 in
theorem c_X4_signHere {X : jX} {ad : Nat → Nat} {m : Mem} {F W : Nat → Int32} {P : Nat → Int32} {L : Nat} {p : Nat} (hR : RC F L p) (hP : SgP m P L) : Cd X yX4_signHere cX4_signHere 1 (some .int) 0 ad [.ref 190] (PM m F W) (some (.int (sgn P L p))) ((PM m F W)) := by
  refine Cm.of (own := RX4) (nm := "signHere") (by decide +kernel) rfl rfl rfl rfl ?_
  obtain ⟨h1, h2, h3, h80⟩ := id hR
  refine J_aload_n dX4_signHere_0 rfl rfl ?_
  refine gP_place wf_X4_39 dX4_signHere_1 ?_
  refine J_topi (fun z9 hz9 => ?_)
  obtain rfl : z9 = (nI p) := hz9.trans (by exact h2)
  clear hz9
  refine J_if_lt (tgt := 30) dX4_signHere_4 (by decide) (fun h4 => absurd h4 (nI_lt0 (by omega))) (fun h4 => ?_)
  refine J_aload_n dX4_signHere_7 rfl rfl ?_
  refine gP_place wf_X4_39 dX4_signHere_8 ?_
  refine J_topi (fun z9 hz9 => ?_)
  obtain rfl : z9 = (nI p) := hz9.trans (by exact h2)
  clear hz9
  refine J_aload_n dX4_signHere_11 rfl rfl ?_
  refine gP_length wf_X4_22 dX4_signHere_12 ?_
  refine J_topi (fun z9 hz9 => ?_)
  obtain rfl : z9 = (nI L) := hz9.trans (by exact h1)
  clear hz9
  refine J_icmp_ge (tgt := 30) dX4_signHere_15 (by decide) (fun h15 => ?_) (fun h15 => ?_)
  · refine J_bipush (v := -6) dX4_signHere_30 (by decide) ?_
    refine r_int dX4_signHere_32 ?_
    exact ⟨by first | (rw [sgn, if_pos (lt_of h15 (by omega))]; done) | (rw [sgn, if_neg (fun g => nI_nle1 g (by omega) h15)]; done), rfl⟩
  · refine J_aload_n dX4_signHere_18 rfl rfl ?_
    refine gX4_signs wf_X4_9 dX4_signHere_19 ?_
    refine J_aload_n dX4_signHere_22 rfl rfl ?_
    refine gP_place wf_X4_39 dX4_signHere_23 ?_
    refine J_topi (fun z9 hz9 => ?_)
    obtain rfl : z9 = (nI p) := hz9.trans (by exact h2)
    clear hz9
    refine rP_signs p (by have := lt_of h15 (by omega); omega) rfl dX4_signHere_26 ?_
    refine J_topi (fun z9 hz9 => ?_)
    obtain rfl : z9 = (P p) := hz9.trans (by exact hP p (lt_of h15 (by omega)))
    clear hz9
    refine J_goto (tgt := 32) dX4_signHere_27 (by decide) ?_
    refine r_int dX4_signHere_32 ?_
    exact ⟨by first | (rw [sgn, if_pos (lt_of h15 (by omega))]; done) | (rw [sgn, if_neg (fun g => nI_nle1 g (by omega) h15)]; done), rfl⟩

section RS
variable {P F : Nat → Int32} {L : Nat} {p : Nat × Bool} {c : Int32}
theorem rs_a (hp : p.2 = true) (hc : ¬ c = -6) (h : ¬ sgn P L p.1 = c) : dS P L c c p = (p.1, false) := by
  unfold dS
  rw [if_pos hp, if_pos]
  unfold nx
  unfold sgn at h
  split at h
  · rw [jin_same.mpr h]; split <;> rfl
  · next g => rw [if_neg g]
theorem rs_b (hp : p.2 = true) (hc : ¬ c = -6) (h : sgn P L p.1 = c) : p.1 < L ∧ dS P L c c p = (p.1 + 1, true) := by
  unfold sgn at h
  split at h
  · next g =>
    refine ⟨g, ?_⟩
    unfold dS nx
    rw [if_pos hp, if_pos g, if_neg (fun q => (jin_same.mp q) h)]
  · exact absurd h.symm hc
theorem rd_a (hp : p.2 = true) (h : jin (sgn P L p.1) 48 57 = 0) : dS P L 48 57 p = (p.1, false) := by
  unfold dS
  rw [if_pos hp, if_pos]
  unfold nx
  unfold sgn at h
  split at h
  · next g => rw [if_pos g]; exact h
  · next g => rw [if_neg g]
theorem rd_b (hp : p.2 = true) (h : ¬ jin (sgn P L p.1) 48 57 = 0) : p.1 < L ∧ sgn P L p.1 = P p.1 ∧ dS P L 48 57 p = (p.1 + 1, true) := by
  unfold sgn at h ⊢
  split at h
  · next g =>
    refine ⟨g, if_pos g, ?_⟩
    unfold dS nx
    rw [if_pos hp, if_pos g, if_neg h]
  · exact absurd (by decide) h
end RS
set_option maxRecDepth 100000 in
set_option maxHeartbeats 4000000 in
theorem c_X4_readSign {X : jX} {ad : Nat → Nat} {m : Mem} {F W : Nat → Int32} {P : Nat → Int32} {L : Nat} {p : Nat × Bool} {c : Int32} (hR : RC F L p.1) (hP : SgP m P L) (hp : p.2 = true) (hc : ¬ c = -6) : Cm X yX4_readSign cX4_readSign 2 (some .boolean) 1 ad [.ref 190, .int c] (PM m F W) (fun v m9 => ∃ G, m9 = PM m G W ∧ v = some (.int (if (dS P L c c p).2 = true then 1 else 0)) ∧ RC G L (dS P L c c p).1 ∧ ∀ k, k ≠ 2 → G k = F k) := by
  refine Cm.of (own := RX4) (nm := "readSign") (by decide +kernel) rfl rfl rfl rfl ?_
  refine J_aload_n dX4_readSign_0 rfl rfl ?_
  refine cVi wv_X4_49 (c_X4_signHere hR hP) dX4_readSign_1 ob4 rfl rfl (kk := ?_)
  refine J_iload_n dX4_readSign_4 rfl rfl ?_
  refine J_icmp_eq (tgt := 10) dX4_readSign_5 (by decide) (fun h5 => ?_) (fun h5 => ?_)
  · refine J_aload_n dX4_readSign_10 rfl rfl ?_
    refine J_dup dX4_readSign_11 rfl ?_
    refine gP_place wf_X4_39 dX4_readSign_12 ?_
    refine J_topi (fun z9 hz9 => ?_)
    obtain rfl : z9 = (nI p.1) := hz9.trans (by exact hR.2.1)
    clear hz9
    refine J_iconst (v := 1) dX4_readSign_15 (by decide) ?_
    refine J_iadd dX4_readSign_16 ?_
    refine pP_place wf_X4_39 dX4_readSign_17 ?_
    refine J_iconst (v := 1) dX4_readSign_20 (by decide) ?_
    refine r_bool dX4_readSign_21 (by first | exact Or.inl rfl | exact Or.inr rfl | exact i01 | exact jin01) ?_
    obtain ⟨e1, e⟩ := rs_b hp hc h5
    exact ⟨_, rfl, by rw [e]; rfl, by rw [e]; exact RC_next hR e1, fun k hk => by rw [upd_at, if_neg hk]⟩
  · refine J_iconst (v := 0) dX4_readSign_8 (by decide) ?_
    refine r_bool dX4_readSign_9 (by first | exact Or.inl rfl | exact Or.inr rfl | exact i01 | exact jin01) ?_
    have e := rs_a hp hc h5
    exact ⟨F, rfl, by rw [e]; rfl, by rw [e]; exact hR, fun _ _ => rfl⟩

set_option maxRecDepth 100000 in
set_option maxHeartbeats 4000000 in
theorem c_X4_readDigit {X : jX} {ad : Nat → Nat} {m : Mem} {F W : Nat → Int32} {P : Nat → Int32} {L : Nat} {p : Nat × Bool} (hR : RC F L p.1) (hP : SgP m P L) (hp : p.2 = true) : Cm X yX4_readDigit cX4_readDigit 2 (some .int) 1 ad [.ref 190] (PM m F W) (fun v m9 => ∃ G, m9 = PM m G W ∧ v = some (.int (if (dS P L 48 57 p).2 = true then P p.1 - 48 else -6)) ∧ RC G L (dS P L 48 57 p).1 ∧ ∀ k, k ≠ 2 → G k = F k) := by
  refine Cm.of (own := RX4) (nm := "readDigit") (by decide +kernel) rfl rfl rfl rfl ?_
  refine J_aload_n dX4_readDigit_0 rfl rfl ?_
  refine cVi wv_X4_49 (c_X4_signHere hR hP) dX4_readDigit_1 ob4 rfl rfl (kk := ?_)
  refine J_istore_n dX4_readDigit_4 rfl rfl rfl ?_
  refine J_iload_n dX4_readDigit_5 rfl rfl ?_
  refine J_bipush (v := 48) dX4_readDigit_6 (by decide) ?_
  refine J_bipush (v := 57) dX4_readDigit_8 (by decide) ?_
  refine cSNi ws_X4_28 c_X5_isIn dX4_readDigit_10 (kk := ?_)
  refine J_if_ne (tgt := 19) dX4_readDigit_13 (by decide) (fun h13 => ?_) (fun h13 => ?_)
  · refine J_aload_n dX4_readDigit_19 rfl rfl ?_
    refine J_dup dX4_readDigit_20 rfl ?_
    refine gP_place wf_X4_39 dX4_readDigit_21 ?_
    refine J_topi (fun z9 hz9 => ?_)
    obtain rfl : z9 = (nI p.1) := hz9.trans (by exact hR.2.1)
    clear hz9
    refine J_iconst (v := 1) dX4_readDigit_24 (by decide) ?_
    refine J_iadd dX4_readDigit_25 ?_
    refine pP_place wf_X4_39 dX4_readDigit_26 ?_
    refine J_iload_n dX4_readDigit_29 rfl rfl ?_
    refine J_bipush (v := 48) dX4_readDigit_30 (by decide) ?_
    refine J_isub dX4_readDigit_32 ?_
    refine r_int dX4_readDigit_33 ?_
    obtain ⟨e1, e2, e⟩ := rd_b hp h13
    exact ⟨_, rfl, by rw [e, e2]; rfl, by rw [e]; exact RC_next hR e1, fun k hk => by rw [upd_at, if_neg hk]⟩
  · refine J_bipush (v := -6) dX4_readDigit_16 (by decide) ?_
    refine r_int dX4_readDigit_18 ?_
    have e := rd_a hp h13
    exact ⟨F, rfl, by rw [e]; rfl, by rw [e]; exact hR, fun _ _ => rfl⟩

theorem dg_nat : ∀ x, x < 58 → 48 ≤ x → ¬ nI x - 48 = -6 ∧ (nI x - 48 ≤ 0 ↔ nI x - 48 = 0) := by decide
theorem dg_of {x : Int32} (h : ¬ jin x 48 57 = 0) : ¬ x - 48 = -6 ∧ (x - 48 ≤ 0 ↔ x - 48 = 0) := by
  obtain ⟨k, hk, rfl⟩ := jin_nat (n := 57) (by decide) rfl h
  have : 48 ≤ k := by
    rcases Nat.lt_or_ge k 48 with g | g
    · exact absurd ((show ∀ k, k < 48 → jin (nI k) 48 57 = 0 by decide) k g) h
    · exact g
  exact dg_nat k (by omega) this
theorem dg_ok {P : Nat → Int32} {L : Nat} {p : Nat × Bool} (h : (dS P L 48 57 p).2 = true) : ¬ P p.1 - 48 = -6 ∧ (P p.1 - 48 ≤ 0 ↔ P p.1 - 48 = 0) := dg_of (dS_ok h).2.2.1
theorem dg_f {P : Nat → Int32} {L : Nat} {p : Nat × Bool} (h : (if (dS P L 48 57 p).2 = true then P p.1 - 48 else -6) = -6) : (dS P L 48 57 p).2 = false := by
  by_cases g : (dS P L 48 57 p).2 = true
  · rw [if_pos g] at h; exact absurd h (dg_ok g).1
  · exact Bool.eq_false_iff.mpr g
theorem dg_t {P : Nat → Int32} {L : Nat} {p : Nat × Bool} (h : ¬ (if (dS P L 48 57 p).2 = true then P p.1 - 48 else -6) = -6) : (dS P L 48 57 p).2 = true := Classical.byContradiction (fun g => h (if_neg g))
section RN
variable {P : Nat → Int32} {L : Nat} {p : Nat × Bool}
theorem rn_f (h : (dS P L 48 57 p).2 = false) : nS P L p = dS P L 48 57 p ∧ (nS P L p).2 = false := by
  have e := dS_no (P := P) (L := L) (lo := 48) (hi := 57) (p := p) (by rw [h]; decide)
  have e2 := nS_no e
  rw [e2, e]
  exact ⟨rfl, rfl⟩
theorem rn_0 (h : (dS P L 48 57 p).2 = true) (hz : P p.1 - 48 = 0) : nS P L p = dS P L 48 57 p ∧ nV P L p.1 = P p.1 - 48 := nS_1 h (Or.inl ((dg_ok h).2.mpr hz))
theorem rn_1 (h : (dS P L 48 57 p).2 = true) (h2 : (dS P L 48 57 (dS P L 48 57 p)).2 = false) : nS P L p = dS P L 48 57 p ∧ nV P L p.1 = P p.1 - 48 ∧ (dS P L 48 57 (dS P L 48 57 p)).1 = (dS P L 48 57 p).1 := by
  have e := dS_no (P := P) (L := L) (lo := 48) (hi := 57) (p := dS P L 48 57 p) (by rw [h2]; decide)
  have hz : isz P L (dS P L 48 57 p) 48 57 = 0 := by
    apply Classical.byContradiction
    intro g
    unfold isz at g
    rw [if_pos h] at g
    unfold dS at h2
    rw [show (if p.2 = true then if nx P L p.1 48 57 = 0 then (p.1, false) else (p.1 + 1, true) else (p.1, false)) = dS P L 48 57 p from rfl, if_pos h, if_neg g] at h2
    exact absurd (show true = false from h2) (by decide)
  obtain ⟨a, b⟩ := nS_1 h (Or.inr hz)
  exact ⟨a, b, by rw [e]⟩
theorem rn_2 (h : (dS P L 48 57 p).2 = true) (hz : ¬ P p.1 - 48 = 0) (h2 : (dS P L 48 57 (dS P L 48 57 p)).2 = true) : nS P L p = dS P L 48 57 (dS P L 48 57 p) ∧ (nS P L p).2 = true ∧ nV P L p.1 = 10 * (P p.1 - 48) + (P (dS P L 48 57 p).1 - 48) := by
  have hn : ¬ isz P L (dS P L 48 57 p) 48 57 = 0 := by
    intro g
    unfold isz at g
    rw [if_pos h] at g
    unfold dS at h2
    rw [show (if p.2 = true then if nx P L p.1 48 57 = 0 then (p.1, false) else (p.1 + 1, true) else (p.1, false)) = dS P L 48 57 p from rfl, if_pos h, if_pos g] at h2
    exact absurd (show false = true from h2) (by decide)
  obtain ⟨a, b, c⟩ := nS_2 h (fun g => hz ((dg_ok h).2.mp g)) hn
  exact ⟨a, by rw [a]; exact b, c⟩
end RN
def NFin (m : Mem) (F W P : Nat → Int32) (L : Nat) (p : Nat × Bool) (v : Option Value) (m9 : Mem) : Prop := ∃ G, m9 = PM m G W ∧ v = some (.int (if (nS P L p).2 = true then nV P L p.1 else -6)) ∧ RC G L (nS P L p).1 ∧ ∀ k, k ≠ 2 → G k = F k
section RNE
variable {m : Mem} {F G G2 W P : Nat → Int32} {L : Nat} {p : Nat × Bool}
theorem rnA (h : (if (dS P L 48 57 p).2 = true then P p.1 - 48 else -6) = -6) (hR : RC G L (dS P L 48 57 p).1) (hf : ∀ k, k ≠ 2 → G k = F k) : NFin m F W P L p (some (.int (if (dS P L 48 57 p).2 = true then P p.1 - 48 else -6))) (PM m G W) := by
  obtain ⟨a, b⟩ := rn_f (dg_f h)
  exact ⟨G, rfl, by rw [h, if_neg (by rw [b]; decide)], by rw [a]; exact hR, hf⟩
theorem rnB (h6 : ¬ (if (dS P L 48 57 p).2 = true then P p.1 - 48 else -6) = -6) (h : (if (dS P L 48 57 p).2 = true then P p.1 - 48 else -6) = 0) (hR : RC G L (dS P L 48 57 p).1) (hf : ∀ k, k ≠ 2 → G k = F k) : NFin m F W P L p (some (.int (if (dS P L 48 57 p).2 = true then P p.1 - 48 else -6))) (PM m G W) := by
  have ht := dg_t h6
  rw [if_pos ht] at h
  obtain ⟨a, b⟩ := rn_0 ht h
  exact ⟨G, rfl, by rw [if_pos ht, if_pos (by rw [a]; exact ht), b], by rw [a]; exact hR, hf⟩
theorem rnC (h6 : ¬ (if (dS P L 48 57 p).2 = true then P p.1 - 48 else -6) = -6) (h2 : (if (dS P L 48 57 (dS P L 48 57 p)).2 = true then P (dS P L 48 57 p).1 - 48 else -6) = -6) (hR : RC G2 L (dS P L 48 57 (dS P L 48 57 p)).1) (hf : ∀ k, k ≠ 2 → G k = F k) (hf2 : ∀ k, k ≠ 2 → G2 k = G k) : NFin m F W P L p (some (.int (if (dS P L 48 57 p).2 = true then P p.1 - 48 else -6))) (PM m G2 W) := by
  have ht := dg_t h6
  obtain ⟨a, b, c⟩ := rn_1 ht (dg_f h2)
  exact ⟨G2, rfl, by rw [if_pos ht, if_pos (by rw [a]; exact ht), b], by rw [a, ← c]; exact hR, fun k hk => (hf2 k hk).trans (hf k hk)⟩
theorem rnD (h6 : ¬ (if (dS P L 48 57 p).2 = true then P p.1 - 48 else -6) = -6) (h0 : ¬ (if (dS P L 48 57 p).2 = true then P p.1 - 48 else -6) = 0) (h2 : ¬ (if (dS P L 48 57 (dS P L 48 57 p)).2 = true then P (dS P L 48 57 p).1 - 48 else -6) = -6) (hR : RC G2 L (dS P L 48 57 (dS P L 48 57 p)).1) (hf : ∀ k, k ≠ 2 → G k = F k) (hf2 : ∀ k, k ≠ 2 → G2 k = G k) : NFin m F W P L p (some (.int (10 * (if (dS P L 48 57 p).2 = true then P p.1 - 48 else -6) + (if (dS P L 48 57 (dS P L 48 57 p)).2 = true then P (dS P L 48 57 p).1 - 48 else -6)))) (PM m G2 W) := by
  have ht := dg_t h6
  have ht2 := dg_t h2
  rw [if_pos ht] at h0
  obtain ⟨a, b, c⟩ := rn_2 ht h0 ht2
  exact ⟨G2, rfl, by rw [if_pos ht, if_pos ht2, if_pos b, c], by rw [a]; exact hR, fun k hk => (hf2 k hk).trans (hf k hk)⟩
end RNE
set_option maxRecDepth 100000 in
set_option maxHeartbeats 4000000 in
theorem c_X4_readNumber {X : jX} {ad : Nat → Nat} {m : Mem} {F W : Nat → Int32} {P : Nat → Int32} {L : Nat} {p : Nat × Bool} (hR : RC F L p.1) (hP : SgP m P L) (hp : p.2 = true) : Cm X yX4_readNumber cX4_readNumber 3 (some .int) 2 ad [.ref 190] (PM m F W) (NFin m F W P L p) := by
  refine Cm.of (own := RX4) (nm := "readNumber") (by decide +kernel) rfl rfl rfl rfl ?_
  refine J_aload_n dX4_readNumber_0 rfl rfl ?_
  refine cVg wv_X4_71 (c_X4_readDigit hR hP hp) dX4_readNumber_1 ob4 rfl rfl (kk := (fun v m9 hf => ?_))
  obtain ⟨G, rfl, rfl, hR2, hfr⟩ := hf
  refine J_istore_n dX4_readNumber_4 rfl rfl rfl ?_
  refine J_iload_n dX4_readNumber_5 rfl rfl ?_
  refine J_bipush (v := -6) dX4_readNumber_6 (by decide) ?_
  refine J_icmp_eq (tgt := 15) dX4_readNumber_8 (by decide) (fun h8 => ?_) (fun h8 => ?_)
  · refine J_iload_n dX4_readNumber_15 rfl rfl ?_
    refine r_int dX4_readNumber_16 ?_
    first | exact rnA h8 hR2 hfr | exact rnB h8 h12 hR2 hfr | exact rnC h8 h25 hR3 hfr hfr2 | exact rnD h8 h12 h25 hR3 hfr hfr2
  · refine J_iload_n dX4_readNumber_11 rfl rfl ?_
    refine J_if_ne (tgt := 17) dX4_readNumber_12 (by decide) (fun h12 => ?_) (fun h12 => ?_)
    · refine J_aload_n dX4_readNumber_17 rfl rfl ?_
      refine cVg wv_X4_71 (c_X4_readDigit hR2 hP (dg_t h8)) dX4_readNumber_18 ob4 rfl rfl (kk := (fun v m9 hf => ?_))
      obtain ⟨G2, rfl, rfl, hR3, hfr2⟩ := hf
      refine J_istore_n dX4_readNumber_21 rfl rfl rfl ?_
      refine J_iload_n dX4_readNumber_22 rfl rfl ?_
      refine J_bipush (v := -6) dX4_readNumber_23 (by decide) ?_
      refine J_icmp_ne (tgt := 32) dX4_readNumber_25 (by decide) (fun h25 => ?_) (fun h25 => ?_)
      · refine J_bipush (v := 10) dX4_readNumber_32 (by decide) ?_
        refine J_iload_n dX4_readNumber_34 rfl rfl ?_
        refine J_imul dX4_readNumber_35 ?_
        refine J_iload_n dX4_readNumber_36 rfl rfl ?_
        refine J_iadd dX4_readNumber_37 ?_
        refine r_int dX4_readNumber_38 ?_
        first | exact rnA h8 hR2 hfr | exact rnB h8 h12 hR2 hfr | exact rnC h8 h25 hR3 hfr hfr2 | exact rnD h8 h12 h25 hR3 hfr hfr2
      · refine J_iload_n dX4_readNumber_28 rfl rfl ?_
        refine J_goto (tgt := 38) dX4_readNumber_29 (by decide) ?_
        refine r_int dX4_readNumber_38 ?_
        first | exact rnA h8 hR2 hfr | exact rnB h8 h12 hR2 hfr | exact rnC h8 h25 hR3 hfr hfr2 | exact rnD h8 h12 h25 hR3 hfr hfr2
    · refine J_iload_n dX4_readNumber_15 rfl rfl ?_
      refine r_int dX4_readNumber_16 ?_
      first | exact rnA h8 hR2 hfr | exact rnB h8 h12 hR2 hfr | exact rnC h8 h25 hR3 hfr hfr2 | exact rnD h8 h12 h25 hR3 hfr hfr2

