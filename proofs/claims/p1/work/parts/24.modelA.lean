section DUP
variable {X : jX} {own : String} {cc : ByteArray} {nL : Nat} {ret : Option FieldType} {nm : String} {d CR SR : Nat} {Q : List Frame → Array Value → State → State → Prop} {ad : Nat → Nat} {cells slots pc : Nat} {lv : List (Nat × Value)} {st : List Value} {ws : va_W}
theorem J_dup2 {v u : Value} (hdg : decode cc pc = .ok (.dup2, 1)) (hv : v.category = 1) (hu : u.category = 1) (k : Jg X own cc nL ret nm d CR SR Q ad cells slots (pc + 1) (lv) (v :: u :: v :: u :: st) (ws)) : Jg X own cc nL ret nm d CR SR Q ad cells slots (pc) (lv) (v :: u :: st) (ws) := by
  intro p e R s m args below meth c H locs ls hC hP hD hS hl
  exact lv_dup2_11 hC.1 hC.2.1 hdg (by rw [em_cat]; exact hv) (by rw [em_cat]; exact hu) (k p e R s m args below meth c H locs ls hC hP hD hS hl)
end DUP
theorem jin_none {n : Int32} : jin n 0 (0 - 1) = 0 := by
  unfold jin
  split
  · rfl
  · next h =>
    split
    · rfl
    · next h2 =>
      exfalso
      apply h2
      have h3 := Int32.not_lt.mp h
      rw [Int32.le_iff_toInt_le] at h3
      rw [Int32.lt_iff_toInt_lt]
      have h0 : (0 : Int32).toInt = 0 := rfl
      have h1 : (0 - 1 : Int32).toInt = -1 := by decide
      omega
/-- all cells but one are as they were -/
def But (m m' : Mem) (c0 : Nat) : Prop := ∀ c, c ≠ c0 → m' c = m c
theorem But.rf {m : Mem} {c0 : Nat} : But m m c0 := fun _ _ => rfl
theorem But.up {m m' : Mem} {c0 k : Nat} {v : Int32} (h : But m m' c0) : But m (up m' c0 k v) c0 := fun c hc => by rw [up_ne hc, h c hc]
set_option maxRecDepth 100000 in
set_option maxHeartbeats 4000000 in
theorem c_X6_in {X : jX} {ad : Nat → Nat} {mem : Mem} {v lo hi : Int32}  : Cd X yX6_in cX6_in 3 (some .boolean) 0 ad [.int v, .int lo, .int hi] mem (some (.int (jin v lo hi))) (mem) := by
  refine Cm.of (own := RX6) (nm := "in") (by decide +kernel) rfl rfl rfl rfl ?_
  refine J_iload_n dX6_in_0 rfl rfl ?_
  refine J_iload_n dX6_in_1 rfl rfl ?_
  refine J_icmp_lt (tgt := 14) dX6_in_2 (by decide) (fun h2 => ?_) (fun h2 => ?_)
  · refine J_iconst (v := 0) dX6_in_14 (by decide) ?_
    refine r_bool dX6_in_15 (by first | exact Or.inl rfl | exact Or.inr rfl | exact i01 | exact jin01) ?_
    exact ⟨by simp only [jin, *, reduceIte], rfl⟩
  · refine J_iload_n dX6_in_5 rfl rfl ?_
    refine J_iload_n dX6_in_6 rfl rfl ?_
    refine J_icmp_gt (tgt := 14) dX6_in_7 (by decide) (fun h7 => ?_) (fun h7 => ?_)
    · refine J_iconst (v := 0) dX6_in_14 (by decide) ?_
      refine r_bool dX6_in_15 (by first | exact Or.inl rfl | exact Or.inr rfl | exact i01 | exact jin01) ?_
      exact ⟨by simp only [jin, *, reduceIte], rfl⟩
    · refine J_iconst (v := 1) dX6_in_10 (by decide) ?_
      refine J_goto (tgt := 15) dX6_in_11 (by decide) ?_
      refine r_bool dX6_in_15 (by first | exact Or.inl rfl | exact Or.inr rfl | exact i01 | exact jin01) ?_
      exact ⟨by simp only [jin, *, reduceIte], rfl⟩

set_option maxRecDepth 100000 in
set_option maxHeartbeats 4000000 in
theorem c_X6_isBoard {X : jX} {ad : Nat → Nat} {mem : Mem} {n : Int32} (hs5 : mem 196 5 = 0) : Cd X yX6_isBoard cX6_isBoard 2 (some .boolean) 1 ad [.ref 195, .int n] mem (some (.int 0)) (mem) := by
  refine Cm.of (own := RX6) (nm := "isBoard") (by decide +kernel) rfl rfl rfl rfl ?_
  refine J_iload_n dX6_isBoard_0 rfl rfl ?_
  refine J_iconst (v := 0) dX6_isBoard_1 (by decide) ?_
  refine J_aload_n dX6_isBoard_2 rfl rfl ?_
  refine gX6_s wf_X6_7 dX6_isBoard_3 ?_
  refine J_iconst (v := 5) dX6_isBoard_6 (by decide) ?_
  refine al_ms dX6_isBoard_7 (nIin (k := 5) (by decide) (by decide)) ?_
  refine J_topi (fun z9 hz9 => ?_)
  obtain rfl : z9 = 0 := hz9.trans (by exact hs5)
  refine J_iconst (v := 1) dX6_isBoard_8 (by decide) ?_
  refine J_isub dX6_isBoard_9 ?_
  refine cSi ws_X6_25 c_X6_in dX6_isBoard_10 (kk := ?_)
  rw [jin_none]
  refine r_bool dX6_isBoard_13 (by first | exact Or.inl rfl | exact Or.inr rfl | exact i01 | exact jin01) ?_
  exact ⟨rfl, rfl⟩

set_option maxRecDepth 100000 in
set_option maxHeartbeats 4000000 in
theorem c_X6_isSlot {X : jX} {ad : Nat → Nat} {mem : Mem} {n : Int32}  : Cd X yX6_isSlot cX6_isSlot 1 (some .boolean) 1 ad [.int n] mem (some (.int (jin n 0 4))) (mem) := by
  refine Cm.of (own := RX6) (nm := "isSlot") (by decide +kernel) rfl rfl rfl rfl ?_
  refine J_iload_n dX6_isSlot_0 rfl rfl ?_
  refine J_iconst (v := 0) dX6_isSlot_1 (by decide) ?_
  refine J_iconst (v := 4) dX6_isSlot_2 (by decide) ?_
  refine cSi ws_X6_25 c_X6_in dX6_isSlot_3 (kk := ?_)
  refine r_bool dX6_isSlot_6 (by first | exact Or.inl rfl | exact Or.inr rfl | exact i01 | exact jin01) ?_
  exact ⟨rfl, rfl⟩

set_option maxRecDepth 100000 in
set_option maxHeartbeats 4000000 in
theorem c_X6_ofBoard {X : jX} {ad : Nat → Nat} {mem : Mem} {n k : Int32}  : Cd X yX6_ofBoard cX6_ofBoard 2 (some .int) 0 ad [.int n, .int k] mem (some (.int (6 + 11 * n + k))) (mem) := by
  refine Cm.of (own := RX6) (nm := "ofBoard") (by decide +kernel) rfl rfl rfl rfl ?_
  refine J_bipush (v := 6) dX6_ofBoard_0 (by decide) ?_
  refine J_bipush (v := 11) dX6_ofBoard_2 (by decide) ?_
  refine J_iload_n dX6_ofBoard_4 rfl rfl ?_
  refine J_imul dX6_ofBoard_5 ?_
  refine J_iadd dX6_ofBoard_6 ?_
  refine J_iload_n dX6_ofBoard_7 rfl rfl ?_
  refine J_iadd dX6_ofBoard_8 ?_
  refine r_int dX6_ofBoard_9 ?_
  exact ⟨rfl, rfl⟩

set_option maxRecDepth 100000 in
set_option maxHeartbeats 4000000 in
theorem asideLoop {X : jX} {ad : Nat → Nat} {mem : Mem} : ∀ (n i : Nat) (m : Mem), i + n = 302 → But mem m 197 → Jg X RX6 cX6_putAside 2 (none) "putAside" 0 0 0 (QF X ad (fun v m => v = none ∧ But mem m 197)) ad 0 0 2 [(0, .ref 195), (1, .int (nI i))] [] (WS X ad m) := by
  intro n
  induction n with
  | zero =>
    intro i m hi hB
    obtain rfl : i = 302 := by omega
    refine J_iload_n dX6_putAside_2 rfl rfl ?_
    refine J_sipush (v := 302) dX6_putAside_3 (by decide) ?_
    refine J_icmp_ge (tgt := 27) dX6_putAside_6 (by decide) (fun h6 => ?_) (fun h6 => absurd (nI_le1 (a := 302) (b := 302) (Nat.le_refl _) (by omega)) h6)
    refine r_void dX6_putAside_27 ?_
    exact ⟨rfl, hB⟩
  | succ n ih =>
    intro i m hi hB
    refine J_iload_n dX6_putAside_2 rfl rfl ?_
    refine J_sipush (v := 302) dX6_putAside_3 (by decide) ?_
    refine J_icmp_ge (tgt := 27) dX6_putAside_6 (by decide) (fun h6 => absurd h6 (nI_nle1 (a := i) (b := 302) (by omega) (by omega))) (fun h6 => ?_)
    refine J_aload_n dX6_putAside_9 rfl rfl ?_
    refine gX6_aside wf_X6_13 dX6_putAside_10 ?_
    refine J_iload_n dX6_putAside_13 rfl rfl ?_
    refine J_aload_n dX6_putAside_14 rfl rfl ?_
    refine gX6_s wf_X6_7 dX6_putAside_15 ?_
    refine J_iload_n dX6_putAside_18 rfl rfl ?_
    refine al_ms dX6_putAside_19 (nIin (k := i) (by omega) (by decide)) ?_
    refine as_maside dX6_putAside_20 (nIin (k := i) (by omega) (by decide)) ?_
    refine J_iinc (v := _ + 1) dX6_putAside_21 rfl rfl rfl rfl ?_
    rw [show nI i + 1 = nI (i + 1) from (nI_succ i).symm]
    refine J_goto (tgt := 2) dX6_putAside_24 (by decide) ?_
    exact ih (i + 1) _ (by omega) hB.up

set_option maxRecDepth 100000 in
set_option maxHeartbeats 4000000 in
theorem c_X6_putAside {X : jX} {ad : Nat → Nat} {mem : Mem}   : Cm X yX6_putAside cX6_putAside 2 (none) 0 ad [.ref 195] mem (fun v m => v = none ∧ But mem m 197) := by
  refine Cm.of (own := RX6) (nm := "putAside") (by decide +kernel) rfl rfl rfl rfl ?_
  refine J_iconst (v := 0) dX6_putAside_0 (by decide) ?_
  refine J_istore_n dX6_putAside_1 rfl rfl rfl ?_
  exact asideLoop 302 0 mem rfl But.rf

set_option maxRecDepth 100000 in
set_option maxHeartbeats 4000000 in
theorem backLoop {X : jX} {ad : Nat → Nat} {mem : Mem} : ∀ (n i : Nat) (m : Mem), i + n = 302 → But mem m 196 → Jg X RX6 cX6_putBack 2 (none) "putBack" 0 0 0 (QF X ad (fun v m => v = none ∧ But mem m 196)) ad 0 0 2 [(0, .ref 195), (1, .int (nI i))] [] (WS X ad m) := by
  intro n
  induction n with
  | zero =>
    intro i m hi hB
    obtain rfl : i = 302 := by omega
    refine J_iload_n dX6_putBack_2 rfl rfl ?_
    refine J_sipush (v := 302) dX6_putBack_3 (by decide) ?_
    refine J_icmp_ge (tgt := 27) dX6_putBack_6 (by decide) (fun h6 => ?_) (fun h6 => absurd (nI_le1 (a := 302) (b := 302) (Nat.le_refl _) (by omega)) h6)
    refine r_void dX6_putBack_27 ?_
    exact ⟨rfl, hB⟩
  | succ n ih =>
    intro i m hi hB
    refine J_iload_n dX6_putBack_2 rfl rfl ?_
    refine J_sipush (v := 302) dX6_putBack_3 (by decide) ?_
    refine J_icmp_ge (tgt := 27) dX6_putBack_6 (by decide) (fun h6 => absurd h6 (nI_nle1 (a := i) (b := 302) (by omega) (by omega))) (fun h6 => ?_)
    refine J_aload_n dX6_putBack_9 rfl rfl ?_
    refine gX6_s wf_X6_7 dX6_putBack_10 ?_
    refine J_iload_n dX6_putBack_13 rfl rfl ?_
    refine J_aload_n dX6_putBack_14 rfl rfl ?_
    refine gX6_aside wf_X6_13 dX6_putBack_15 ?_
    refine J_iload_n dX6_putBack_18 rfl rfl ?_
    refine al_maside dX6_putBack_19 (nIin (k := i) (by omega) (by decide)) ?_
    refine as_ms dX6_putBack_20 (nIin (k := i) (by omega) (by decide)) ?_
    refine J_iinc (v := _ + 1) dX6_putBack_21 rfl rfl rfl rfl ?_
    rw [show nI i + 1 = nI (i + 1) from (nI_succ i).symm]
    refine J_goto (tgt := 2) dX6_putBack_24 (by decide) ?_
    exact ih (i + 1) _ (by omega) hB.up

set_option maxRecDepth 100000 in
set_option maxHeartbeats 4000000 in
theorem c_X6_putBack {X : jX} {ad : Nat → Nat} {mem : Mem}   : Cm X yX6_putBack cX6_putBack 2 (none) 0 ad [.ref 195] mem (fun v m => v = none ∧ But mem m 196) := by
  refine Cm.of (own := RX6) (nm := "putBack") (by decide +kernel) rfl rfl rfl rfl ?_
  refine J_iconst (v := 0) dX6_putBack_0 (by decide) ?_
  refine J_istore_n dX6_putBack_1 rfl rfl rfl ?_
  exact backLoop 302 0 mem rfl But.rf

set_option maxRecDepth 100000 in
set_option maxHeartbeats 4000000 in
theorem recLoop {X : jX} {ad : Nat → Nat} {mem : Mem} : ∀ (n i : Nat) (m : Mem), i + n = 302 → But mem m 198 → m 195 3 = 0 → Jg X RX6 cX6_record 2 (none) "record" 0 0 0 (QF X ad (fun v _ => v = none)) ad 0 0 52 [(0, .ref 195), (1, .int (nI i))] [] (WS X ad m) := by
  intro n
  induction n with
  | zero =>
    intro i m hi hB hq
    obtain rfl : i = 302 := by omega
    refine J_iload_n dX6_record_52 rfl rfl ?_
    refine J_sipush (v := 302) dX6_record_53 (by decide) ?_
    refine J_icmp_ge (tgt := 86) dX6_record_56 (by decide) (fun h56 => ?_) (fun h56 => absurd (nI_le1 (a := 302) (b := 302) (Nat.le_refl _) (by omega)) h56)
    refine J_aload_n dX6_record_86 rfl rfl ?_
    refine J_dup dX6_record_87 rfl ?_
    refine gX6_known wf_X6_51 dX6_record_88 ?_
    refine J_iconst (v := 1) dX6_record_91 (by decide) ?_
    refine J_iadd dX6_record_92 ?_
    refine pX6_known wf_X6_51 dX6_record_93 ?_
    refine r_void dX6_record_96 ?_
    exact rfl
  | succ n ih =>
    intro i m hi hB hq
    refine J_iload_n dX6_record_52 rfl rfl ?_
    refine J_sipush (v := 302) dX6_record_53 (by decide) ?_
    refine J_icmp_ge (tgt := 86) dX6_record_56 (by decide) (fun h56 => absurd h56 (nI_nle1 (a := i) (b := 302) (by omega) (by omega))) (fun h56 => ?_)
    refine J_aload_n dX6_record_59 rfl rfl ?_
    refine gX6_history wf_X6_16 dX6_record_60 ?_
    refine J_sipush (v := 302) dX6_record_63 (by decide) ?_
    refine J_aload_n dX6_record_66 rfl rfl ?_
    refine gX6_known wf_X6_51 dX6_record_67 ?_
    refine J_imul dX6_record_70 ?_
    refine J_iload_n dX6_record_71 rfl rfl ?_
    refine J_iadd dX6_record_72 ?_
    refine J_aload_n dX6_record_73 rfl rfl ?_
    refine gX6_aside wf_X6_13 dX6_record_74 ?_
    refine J_iload_n dX6_record_77 rfl rfl ?_
    refine al_maside dX6_record_78 (nIin (k := i) (by omega) (by decide)) ?_
    refine as_mhist dX6_record_79 (by rw [hq, show (302 : Int32) * 0 + nI i = nI i from by simp]; exact nIin (k := i) (by omega) (by decide)) ?_
    refine J_iinc (v := _ + 1) dX6_record_80 rfl rfl rfl rfl ?_
    rw [show nI i + 1 = nI (i + 1) from (nI_succ i).symm]
    refine J_goto (tgt := 52) dX6_record_83 (by decide) ?_
    exact ih (i + 1) _ (by omega) hB.up (by first | exact hq | simp [up_apply, hq])

set_option maxRecDepth 100000 in
set_option maxHeartbeats 4000000 in
theorem c_X6_record {X : jX} {ad : Nat → Nat} {mem : Mem}  (hq : mem 195 3 = 0) : Cm X yX6_record cX6_record 2 (none) 0 ad [.ref 195] mem (fun v _ => v = none) := by
  refine Cm.of (own := RX6) (nm := "record") (by decide +kernel) rfl rfl rfl rfl ?_
  refine J_aload_n dX6_record_0 rfl rfl ?_
  refine gX6_known wf_X6_51 dX6_record_1 ?_
  refine J_bipush (v := 6) dX6_record_4 (by decide) ?_
  refine J_icmp_ne (tgt := 50) dX6_record_6 (by decide) (fun h6 => ?_) (fun h6 => absurd (h6.symm.trans hq) (by decide))
  refine J_iconst (v := 0) dX6_record_50 (by decide) ?_
  refine J_istore_n dX6_record_51 rfl rfl rfl ?_
  exact recLoop 302 0 mem rfl But.rf hq

set_option maxRecDepth 100000 in
set_option maxHeartbeats 4000000 in
theorem c_X6_changed {X : jX} {ad : Nat → Nat} {mem : Mem} {a : Int32} (hq : mem 195 3 = 0) : Cm X yX6_changed cX6_changed 2 (some .int) 1 ad [.ref 195, .int a] mem (fun v _ => v = some (.int a)) := by
  refine Cm.of (own := RX6) (nm := "changed") (by decide +kernel) rfl rfl rfl rfl ?_
  refine J_iload_n dX6_changed_0 rfl rfl ?_
  refine J_if_lt (tgt := 8) dX6_changed_1 (by decide) (fun h1 => ?_) (fun h1 => ?_)
  · refine J_iload_n dX6_changed_8 rfl rfl ?_
    refine r_int dX6_changed_9 ?_
    exact rfl
  · refine J_aload_n dX6_changed_4 rfl rfl ?_
    refine cVg wv_X6_55 (c_X6_record hq) dX6_changed_5 ob6 rfl rfl (kk := (fun v m1 hf => ?_))
    subst hf
    refine J_iload_n dX6_changed_8 rfl rfl ?_
    refine r_int dX6_changed_9 ?_
    exact rfl

set_option maxRecDepth 100000 in
set_option maxHeartbeats 4000000 in
theorem c_X6_boardIn {X : jX} {ad : Nat → Nat} {mem : Mem} {n : Int32} (hs5 : mem 196 5 = 0) : Cd X yX6_boardIn cX6_boardIn 4 (some .int) 1 ad [.ref 195, .int n] mem (some (.int (-6))) (mem) := by
  refine Cm.of (own := RX6) (nm := "boardIn") (by decide +kernel) rfl rfl rfl rfl ?_
  refine J_bipush (v := -6) dX6_boardIn_0 (by decide) ?_
  refine J_istore_n dX6_boardIn_2 rfl rfl rfl ?_
  refine J_iconst (v := 0) dX6_boardIn_3 (by decide) ?_
  refine J_istore_n dX6_boardIn_4 rfl rfl rfl ?_
  refine J_iload_n dX6_boardIn_5 rfl rfl ?_
  refine J_aload_n dX6_boardIn_6 rfl rfl ?_
  refine gX6_s wf_X6_7 dX6_boardIn_7 ?_
  refine J_iconst (v := 5) dX6_boardIn_10 (by decide) ?_
  refine al_ms dX6_boardIn_11 (nIin (k := 5) (by decide) (by decide)) ?_
  refine J_icmp_ge (tgt := 41) dX6_boardIn_12 (by decide) (fun h12 => ?_) (fun h12 => absurd (le0 hs5) h12)
  refine J_iload_n dX6_boardIn_41 rfl rfl ?_
  refine r_int dX6_boardIn_42 ?_
  exact ⟨rfl, rfl⟩

set_option maxRecDepth 100000 in
set_option maxHeartbeats 4000000 in
theorem c_X6_draw {X : jX} {ad : Nat → Nat} {mem : Mem}  (hs5 : mem 196 5 = 0) : Cd X yX6_draw cX6_draw 3 (some .int) 1 ad [.ref 195] mem (some (.int 0)) (mem) := by
  refine Cm.of (own := RX6) (nm := "draw") (by decide +kernel) rfl rfl rfl rfl ?_
  refine J_iconst (v := 0) dX6_draw_0 (by decide) ?_
  refine J_istore_n dX6_draw_1 rfl rfl rfl ?_
  refine J_iconst (v := 0) dX6_draw_2 (by decide) ?_
  refine J_istore_n dX6_draw_3 rfl rfl rfl ?_
  refine J_iload_n dX6_draw_4 rfl rfl ?_
  refine J_aload_n dX6_draw_5 rfl rfl ?_
  refine gX6_s wf_X6_7 dX6_draw_6 ?_
  refine J_iconst (v := 5) dX6_draw_9 (by decide) ?_
  refine al_ms dX6_draw_10 (nIin (k := 5) (by decide) (by decide)) ?_
  refine J_icmp_ge (tgt := 47) dX6_draw_11 (by decide) (fun h11 => ?_) (fun h11 => absurd (le0 hs5) h11)
  refine J_iload_n dX6_draw_47 rfl rfl ?_
  refine r_int dX6_draw_48 ?_
  exact ⟨rfl, rfl⟩

set_option maxRecDepth 100000 in
set_option maxHeartbeats 4000000 in
theorem c_X6_tooSoon {X : jX} {ad : Nat → Nat} {mem : Mem}  (hs5 : mem 196 5 = 0) : Cd X yX6_tooSoon cX6_tooSoon 3 (some .int) 1 ad [.ref 195] mem (some (.int 0)) (mem) := by
  refine Cm.of (own := RX6) (nm := "tooSoon") (by decide +kernel) rfl rfl rfl rfl ?_
  refine J_iconst (v := 0) dX6_tooSoon_0 (by decide) ?_
  refine J_istore_n dX6_tooSoon_1 rfl rfl rfl ?_
  refine J_iconst (v := 0) dX6_tooSoon_2 (by decide) ?_
  refine J_istore_n dX6_tooSoon_3 rfl rfl rfl ?_
  refine J_iload_n dX6_tooSoon_4 rfl rfl ?_
  refine J_aload_n dX6_tooSoon_5 rfl rfl ?_
  refine gX6_s wf_X6_7 dX6_tooSoon_6 ?_
  refine J_iconst (v := 5) dX6_tooSoon_9 (by decide) ?_
  refine al_ms dX6_tooSoon_10 (nIin (k := 5) (by decide) (by decide)) ?_
  refine J_icmp_ge (tgt := 34) dX6_tooSoon_11 (by decide) (fun h11 => ?_) (fun h11 => absurd (le0 hs5) h11)
  refine J_iload_n dX6_tooSoon_34 rfl rfl ?_
  refine r_int dX6_tooSoon_35 ?_
  exact ⟨rfl, rfl⟩

set_option maxRecDepth 100000 in
set_option maxHeartbeats 4000000 in
theorem c_X6_boards {X : jX} {ad : Nat → Nat} {mem : Mem} {n : Int32} (hs5 : mem 196 5 = 0) : Cd X yX6_boards cX6_boards 5 (some .int) 1 ad [.ref 195, .int n] mem (some (.int 0)) (mem) := by
  refine Cm.of (own := RX6) (nm := "boards") (by decide +kernel) rfl rfl rfl rfl ?_
  refine J_iconst (v := 0) dX6_boards_0 (by decide) ?_
  refine J_istore_n dX6_boards_1 rfl rfl rfl ?_
  refine J_iconst (v := 0) dX6_boards_2 (by decide) ?_
  refine J_istore_n dX6_boards_3 rfl rfl rfl ?_
  refine J_iload_n dX6_boards_4 rfl rfl ?_
  refine J_aload_n dX6_boards_5 rfl rfl ?_
  refine gX6_s wf_X6_7 dX6_boards_6 ?_
  refine J_iconst (v := 5) dX6_boards_9 (by decide) ?_
  refine al_ms dX6_boards_10 (nIin (k := 5) (by decide) (by decide)) ?_
  refine J_icmp_ge (tgt := 84) dX6_boards_11 (by decide) (fun h11 => ?_) (fun h11 => absurd (le0 hs5) h11)
  refine J_iload_n dX6_boards_84 rfl rfl ?_
  refine r_int dX6_boards_85 ?_
  exact ⟨rfl, rfl⟩

set_option maxRecDepth 100000 in
set_option maxHeartbeats 4000000 in
theorem c_X6_isHeld {X : jX} {ad : Nat → Nat} {mem : Mem}  (hs5 : mem 196 5 = 0) : Cd X yX6_isHeld cX6_isHeld 5 (some .boolean) 1 ad [.ref 195] mem (some (.int 0)) (mem) := by
  refine Cm.of (own := RX6) (nm := "isHeld") (by decide +kernel) rfl rfl rfl rfl ?_
  refine J_iconst (v := 0) dX6_isHeld_0 (by decide) ?_
  refine J_istore_n dX6_isHeld_1 rfl rfl rfl ?_
  refine J_iconst (v := 0) dX6_isHeld_2 (by decide) ?_
  refine J_istore_n dX6_isHeld_3 rfl rfl rfl ?_
  refine J_iload_n dX6_isHeld_4 rfl rfl ?_
  refine J_aload_n dX6_isHeld_5 rfl rfl ?_
  refine gX6_s wf_X6_7 dX6_isHeld_6 ?_
  refine J_iconst (v := 5) dX6_isHeld_9 (by decide) ?_
  refine al_ms dX6_isHeld_10 (nIin (k := 5) (by decide) (by decide)) ?_
  refine J_icmp_ge (tgt := 80) dX6_isHeld_11 (by decide) (fun h11 => ?_) (fun h11 => absurd (le0 hs5) h11)
  refine J_iload_n dX6_isHeld_80 rfl rfl ?_
  refine J_if_eq (tgt := 98) dX6_isHeld_81 (by decide) (fun h81 => ?_) (fun h81 => absurd (by decide) h81)
  refine J_iconst (v := 0) dX6_isHeld_98 (by decide) ?_
  refine r_bool dX6_isHeld_99 (by first | exact Or.inl rfl | exact Or.inr rfl | exact i01 | exact jin01) ?_
  exact ⟨rfl, rfl⟩

set_option maxRecDepth 100000 in
set_option maxHeartbeats 4000000 in
theorem c_X6_going {X : jX} {ad : Nat → Nat} {mem : Mem} {n : Int32} (hs94 : mem 196 94 = 0) : Cd X yX6_going cX6_going 4 (some .int) 2 ad [.ref 195, .int n] mem (some (.int 0)) (mem) := by
  refine Cm.of (own := RX6) (nm := "going") (by decide +kernel) rfl rfl rfl rfl ?_
  refine J_iconst (v := 0) dX6_going_0 (by decide) ?_
  refine J_istore_n dX6_going_1 rfl rfl rfl ?_
  refine J_iconst (v := 0) dX6_going_2 (by decide) ?_
  refine J_istore_n dX6_going_3 rfl rfl rfl ?_
  refine J_iload_n dX6_going_4 rfl rfl ?_
  refine J_aload_n dX6_going_5 rfl rfl ?_
  refine gX6_s wf_X6_7 dX6_going_6 ?_
  refine J_bipush (v := 94) dX6_going_9 (by decide) ?_
  refine al_ms dX6_going_11 (nIin (k := 94) (by decide) (by decide)) ?_
  refine J_icmp_ge (tgt := 52) dX6_going_12 (by decide) (fun h12 => ?_) (fun h12 => absurd (le0 hs94) h12)
  refine J_iload_n dX6_going_52 rfl rfl ?_
  refine r_int dX6_going_53 ?_
  exact ⟨rfl, rfl⟩

set_option maxRecDepth 100000 in
set_option maxHeartbeats 4000000 in
theorem c_X6_getsOn {X : jX} {ad : Nat → Nat} {mem : Mem}  (hs94 : mem 196 94 = 0) : Cd X yX6_getsOn cX6_getsOn 3 (none) 2 ad [.ref 195] mem none (mem) := by
  refine Cm.of (own := RX6) (nm := "getsOn") (by decide +kernel) rfl rfl rfl rfl ?_
  refine J_bipush (v := -6) dX6_getsOn_0 (by decide) ?_
  refine J_istore_n dX6_getsOn_2 rfl rfl rfl ?_
  refine J_aload_n dX6_getsOn_3 rfl rfl ?_
  refine gX6_s wf_X6_7 dX6_getsOn_4 ?_
  refine J_bipush (v := 94) dX6_getsOn_7 (by decide) ?_
  refine al_ms dX6_getsOn_9 (nIin (k := 94) (by decide) (by decide)) ?_
  refine J_topi (fun z9 hz9 => ?_)
  obtain rfl : z9 = 0 := hz9.trans (by exact hs94)
  refine J_iconst (v := 1) dX6_getsOn_10 (by decide) ?_
  refine J_isub dX6_getsOn_11 ?_
  refine J_istore_n dX6_getsOn_12 rfl rfl rfl ?_
  refine J_iload_n dX6_getsOn_13 rfl rfl ?_
  refine J_if_lt (tgt := 37) dX6_getsOn_14 (by decide) (fun h14 => ?_) (fun h14 => absurd (by decide) h14)
  refine J_iload_n dX6_getsOn_37 rfl rfl ?_
  refine J_bipush (v := -6) dX6_getsOn_38 (by decide) ?_
  refine J_icmp_eq (tgt := 72) dX6_getsOn_40 (by decide) (fun h40 => ?_) (fun h40 => absurd (by decide) h40)
  refine r_void dX6_getsOn_72 ?_
  exact ⟨rfl, rfl⟩

set_option maxRecDepth 100000 in
set_option maxHeartbeats 4000000 in
theorem c_X6_serves {X : jX} {ad : Nat → Nat} {mem : Mem} {n : Int32} (hb : mem 196 295 = -6) : Cd X yX6_serves cX6_serves 3 (none) 3 ad [.ref 195, .int n] mem none (mem) := by
  refine Cm.of (own := RX6) (nm := "serves") (by decide +kernel) rfl rfl rfl rfl ?_
  refine J_aload_n dX6_serves_0 rfl rfl ?_
  refine gX6_s wf_X6_7 dX6_serves_1 ?_
  refine J_sipush (v := 295) dX6_serves_4 (by decide) ?_
  refine al_ms dX6_serves_7 (nIin (k := 295) (by decide) (by decide)) ?_
  refine J_topi (fun z9 hz9 => ?_)
  obtain rfl : z9 = -6 := hz9.trans (by exact hb)
  refine J_istore_n dX6_serves_8 rfl rfl rfl ?_
  refine J_iload_n dX6_serves_9 rfl rfl ?_
  refine J_bipush (v := -6) dX6_serves_10 (by decide) ?_
  refine J_icmp_ne (tgt := 16) dX6_serves_12 (by decide) (fun h12 => absurd (by decide) h12) (fun h12 => ?_)
  refine r_void dX6_serves_15 ?_
  exact ⟨rfl, rfl⟩

def Fm (m : Mem) : Prop := m 196 5 = 0 ∧ m 196 94 = 0 ∧ m 196 295 = -6
theorem Fm.up {m : Mem} {k : Nat} {v : Int32} (h : Fm m) (hs5 : k ≠ 5) (hs94 : k ≠ 94) (hb : k ≠ 295) : Fm (up m 196 k v) := by
  obtain ⟨a, b, c⟩ := h
  exact ⟨by rw [up_apply, if_neg (by omega)]; exact a, by rw [up_apply, if_neg (by omega)]; exact b, by rw [up_apply, if_neg (by omega)]; exact c⟩
set_option maxRecDepth 100000 in
set_option maxHeartbeats 4000000 in
theorem c_X6_tick {X : jX} {ad : Nat → Nat} {mem : Mem}  (hz : Fm mem) : Cm X yX6_tick cX6_tick 5 (none) 5 ad [.ref 195] mem (fun v m => v = none ∧ Fm m ∧ But mem m 196 ∧ m 196 300 = mem 196 300) := by
  refine Cm.of (own := RX6) (nm := "tick") (by decide +kernel) rfl rfl rfl rfl ?_
  obtain ⟨hs5, hs94, hb⟩ := hz
  refine J_iconst (v := 0) dX6_tick_0 (by decide) ?_
  refine J_istore_n dX6_tick_1 rfl rfl rfl ?_
  refine J_iconst (v := 0) dX6_tick_2 (by decide) ?_
  refine J_istore_n dX6_tick_3 rfl rfl rfl ?_
  refine J_iload_n dX6_tick_4 rfl rfl ?_
  refine J_iconst (v := 5) dX6_tick_5 (by decide) ?_
  refine J_icmp_ge (tgt := 70) dX6_tick_6 (by decide) (fun h6 => absurd h6 (by decide)) (fun h6 => ?_)
  refine J_aload_n dX6_tick_9 rfl rfl ?_
  refine J_iload_n dX6_tick_10 rfl rfl ?_
  refine cVi wv_X6_76 (c_X6_boardIn hs5) dX6_tick_11 ob6 rfl rfl (kk := ?_)
  refine J_istore_n dX6_tick_14 rfl rfl rfl ?_
  refine J_iload_n dX6_tick_15 rfl rfl ?_
  refine J_bipush (v := -6) dX6_tick_16 (by decide) ?_
  refine J_icmp_eq (tgt := 46) dX6_tick_18 (by decide) (fun h18 => ?_) (fun h18 => absurd (by decide) h18)
  refine J_iconst (v := 0) dX6_tick_46 (by decide) ?_
  refine J_istore dX6_tick_47 rfl rfl ?_
  refine J_iload_n dX6_tick_49 rfl rfl ?_
  refine J_if_ne (tgt := 58) dX6_tick_50 (by decide) (fun h50 => absurd (by decide) h50) (fun h50 => ?_)
  refine J_iload dX6_tick_53 rfl ?_
  refine J_if_eq (tgt := 62) dX6_tick_55 (by decide) (fun h55 => ?_) (fun h55 => absurd (by decide) h55)
  refine J_iconst (v := 0) dX6_tick_62 (by decide) ?_
  refine J_istore_n dX6_tick_63 rfl rfl rfl ?_
  refine J_iinc (v := 1) dX6_tick_64 rfl (by decide) rfl rfl ?_
  refine J_goto (tgt := 4) dX6_tick_67 (by decide) ?_
  refine J_iload_n dX6_tick_4 rfl rfl ?_
  refine J_iconst (v := 5) dX6_tick_5 (by decide) ?_
  refine J_icmp_ge (tgt := 70) dX6_tick_6 (by decide) (fun h6 => absurd h6 (by decide)) (fun h6 => ?_)
  refine J_aload_n dX6_tick_9 rfl rfl ?_
  refine J_iload_n dX6_tick_10 rfl rfl ?_
  refine cVi wv_X6_76 (c_X6_boardIn hs5) dX6_tick_11 ob6 rfl rfl (kk := ?_)
  refine J_istore_n dX6_tick_14 rfl rfl rfl ?_
  refine J_iload_n dX6_tick_15 rfl rfl ?_
  refine J_bipush (v := -6) dX6_tick_16 (by decide) ?_
  refine J_icmp_eq (tgt := 46) dX6_tick_18 (by decide) (fun h18 => ?_) (fun h18 => absurd (by decide) h18)
  refine J_iconst (v := 0) dX6_tick_46 (by decide) ?_
  refine J_istore dX6_tick_47 rfl rfl ?_
  refine J_iload_n dX6_tick_49 rfl rfl ?_
  refine J_if_ne (tgt := 58) dX6_tick_50 (by decide) (fun h50 => absurd (by decide) h50) (fun h50 => ?_)
  refine J_iload dX6_tick_53 rfl ?_
  refine J_if_eq (tgt := 62) dX6_tick_55 (by decide) (fun h55 => ?_) (fun h55 => absurd (by decide) h55)
  refine J_iconst (v := 0) dX6_tick_62 (by decide) ?_
  refine J_istore_n dX6_tick_63 rfl rfl rfl ?_
  refine J_iinc (v := 2) dX6_tick_64 rfl (by decide) rfl rfl ?_
  refine J_goto (tgt := 4) dX6_tick_67 (by decide) ?_
  refine J_iload_n dX6_tick_4 rfl rfl ?_
  refine J_iconst (v := 5) dX6_tick_5 (by decide) ?_
  refine J_icmp_ge (tgt := 70) dX6_tick_6 (by decide) (fun h6 => absurd h6 (by decide)) (fun h6 => ?_)
  refine J_aload_n dX6_tick_9 rfl rfl ?_
  refine J_iload_n dX6_tick_10 rfl rfl ?_
  refine cVi wv_X6_76 (c_X6_boardIn hs5) dX6_tick_11 ob6 rfl rfl (kk := ?_)
  refine J_istore_n dX6_tick_14 rfl rfl rfl ?_
  refine J_iload_n dX6_tick_15 rfl rfl ?_
  refine J_bipush (v := -6) dX6_tick_16 (by decide) ?_
  refine J_icmp_eq (tgt := 46) dX6_tick_18 (by decide) (fun h18 => ?_) (fun h18 => absurd (by decide) h18)
  refine J_iconst (v := 0) dX6_tick_46 (by decide) ?_
  refine J_istore dX6_tick_47 rfl rfl ?_
  refine J_iload_n dX6_tick_49 rfl rfl ?_
  refine J_if_ne (tgt := 58) dX6_tick_50 (by decide) (fun h50 => absurd (by decide) h50) (fun h50 => ?_)
  refine J_iload dX6_tick_53 rfl ?_
  refine J_if_eq (tgt := 62) dX6_tick_55 (by decide) (fun h55 => ?_) (fun h55 => absurd (by decide) h55)
  refine J_iconst (v := 0) dX6_tick_62 (by decide) ?_
  refine J_istore_n dX6_tick_63 rfl rfl rfl ?_
  refine J_iinc (v := 3) dX6_tick_64 rfl (by decide) rfl rfl ?_
  refine J_goto (tgt := 4) dX6_tick_67 (by decide) ?_
  refine J_iload_n dX6_tick_4 rfl rfl ?_
  refine J_iconst (v := 5) dX6_tick_5 (by decide) ?_
  refine J_icmp_ge (tgt := 70) dX6_tick_6 (by decide) (fun h6 => absurd h6 (by decide)) (fun h6 => ?_)
  refine J_aload_n dX6_tick_9 rfl rfl ?_
  refine J_iload_n dX6_tick_10 rfl rfl ?_
  refine cVi wv_X6_76 (c_X6_boardIn hs5) dX6_tick_11 ob6 rfl rfl (kk := ?_)
  refine J_istore_n dX6_tick_14 rfl rfl rfl ?_
  refine J_iload_n dX6_tick_15 rfl rfl ?_
  refine J_bipush (v := -6) dX6_tick_16 (by decide) ?_
  refine J_icmp_eq (tgt := 46) dX6_tick_18 (by decide) (fun h18 => ?_) (fun h18 => absurd (by decide) h18)
  refine J_iconst (v := 0) dX6_tick_46 (by decide) ?_
  refine J_istore dX6_tick_47 rfl rfl ?_
  refine J_iload_n dX6_tick_49 rfl rfl ?_
  refine J_if_ne (tgt := 58) dX6_tick_50 (by decide) (fun h50 => absurd (by decide) h50) (fun h50 => ?_)
  refine J_iload dX6_tick_53 rfl ?_
  refine J_if_eq (tgt := 62) dX6_tick_55 (by decide) (fun h55 => ?_) (fun h55 => absurd (by decide) h55)
  refine J_iconst (v := 0) dX6_tick_62 (by decide) ?_
  refine J_istore_n dX6_tick_63 rfl rfl rfl ?_
  refine J_iinc (v := 4) dX6_tick_64 rfl (by decide) rfl rfl ?_
  refine J_goto (tgt := 4) dX6_tick_67 (by decide) ?_
  refine J_iload_n dX6_tick_4 rfl rfl ?_
  refine J_iconst (v := 5) dX6_tick_5 (by decide) ?_
  refine J_icmp_ge (tgt := 70) dX6_tick_6 (by decide) (fun h6 => absurd h6 (by decide)) (fun h6 => ?_)
  refine J_aload_n dX6_tick_9 rfl rfl ?_
  refine J_iload_n dX6_tick_10 rfl rfl ?_
  refine cVi wv_X6_76 (c_X6_boardIn hs5) dX6_tick_11 ob6 rfl rfl (kk := ?_)
  refine J_istore_n dX6_tick_14 rfl rfl rfl ?_
  refine J_iload_n dX6_tick_15 rfl rfl ?_
  refine J_bipush (v := -6) dX6_tick_16 (by decide) ?_
  refine J_icmp_eq (tgt := 46) dX6_tick_18 (by decide) (fun h18 => ?_) (fun h18 => absurd (by decide) h18)
  refine J_iconst (v := 0) dX6_tick_46 (by decide) ?_
  refine J_istore dX6_tick_47 rfl rfl ?_
  refine J_iload_n dX6_tick_49 rfl rfl ?_
  refine J_if_ne (tgt := 58) dX6_tick_50 (by decide) (fun h50 => absurd (by decide) h50) (fun h50 => ?_)
  refine J_iload dX6_tick_53 rfl ?_
  refine J_if_eq (tgt := 62) dX6_tick_55 (by decide) (fun h55 => ?_) (fun h55 => absurd (by decide) h55)
  refine J_iconst (v := 0) dX6_tick_62 (by decide) ?_
  refine J_istore_n dX6_tick_63 rfl rfl rfl ?_
  refine J_iinc (v := 5) dX6_tick_64 rfl (by decide) rfl rfl ?_
  refine J_goto (tgt := 4) dX6_tick_67 (by decide) ?_
  refine J_iload_n dX6_tick_4 rfl rfl ?_
  refine J_iconst (v := 5) dX6_tick_5 (by decide) ?_
  refine J_icmp_ge (tgt := 70) dX6_tick_6 (by decide) (fun h6 => ?_) (fun h6 => absurd (by decide) h6)
  refine J_aload_n dX6_tick_70 rfl rfl ?_
  refine gX6_s wf_X6_7 dX6_tick_71 ?_
  refine J_sipush (v := 298) dX6_tick_74 (by decide) ?_
  refine J_dup2 dX6_tick_77 rfl rfl ?_
  refine al_ms dX6_tick_78 (nIin (k := 298) (by decide) (by decide)) ?_
  refine J_iload_n dX6_tick_79 rfl rfl ?_
  refine J_if_eq (tgt := 87) dX6_tick_80 (by decide) (fun h80 => ?_) (fun h80 => absurd (by decide) h80)
  refine J_iconst (v := 0) dX6_tick_87 (by decide) ?_
  refine J_iadd dX6_tick_88 ?_
  refine as_ms dX6_tick_89 (nIin (k := 298) (by decide) (by decide)) ?_
  refine J_iconst (v := 0) dX6_tick_90 (by decide) ?_
  refine J_istore_n dX6_tick_91 rfl rfl rfl ?_
  refine J_iload_n dX6_tick_92 rfl rfl ?_
  refine J_iconst (v := 5) dX6_tick_93 (by decide) ?_
  refine J_icmp_ge (tgt := 122) dX6_tick_94 (by decide) (fun h94 => absurd h94 (by decide)) (fun h94 => ?_)
  refine J_aload_n dX6_tick_97 rfl rfl ?_
  refine J_iload_n dX6_tick_98 rfl rfl ?_
  refine cVi wv_X6_76 (c_X6_boardIn hs5) dX6_tick_99 ob6 rfl rfl (kk := ?_)
  refine J_bipush (v := -6) dX6_tick_102 (by decide) ?_
  refine J_icmp_eq (tgt := 116) dX6_tick_104 (by decide) (fun h104 => ?_) (fun h104 => absurd (by decide) h104)
  refine J_iinc (v := 1) dX6_tick_116 rfl (by decide) rfl rfl ?_
  refine J_goto (tgt := 92) dX6_tick_119 (by decide) ?_
  refine J_iload_n dX6_tick_92 rfl rfl ?_
  refine J_iconst (v := 5) dX6_tick_93 (by decide) ?_
  refine J_icmp_ge (tgt := 122) dX6_tick_94 (by decide) (fun h94 => absurd h94 (by decide)) (fun h94 => ?_)
  refine J_aload_n dX6_tick_97 rfl rfl ?_
  refine J_iload_n dX6_tick_98 rfl rfl ?_
  refine cVi wv_X6_76 (c_X6_boardIn hs5) dX6_tick_99 ob6 rfl rfl (kk := ?_)
  refine J_bipush (v := -6) dX6_tick_102 (by decide) ?_
  refine J_icmp_eq (tgt := 116) dX6_tick_104 (by decide) (fun h104 => ?_) (fun h104 => absurd (by decide) h104)
  refine J_iinc (v := 2) dX6_tick_116 rfl (by decide) rfl rfl ?_
  refine J_goto (tgt := 92) dX6_tick_119 (by decide) ?_
  refine J_iload_n dX6_tick_92 rfl rfl ?_
  refine J_iconst (v := 5) dX6_tick_93 (by decide) ?_
  refine J_icmp_ge (tgt := 122) dX6_tick_94 (by decide) (fun h94 => absurd h94 (by decide)) (fun h94 => ?_)
  refine J_aload_n dX6_tick_97 rfl rfl ?_
  refine J_iload_n dX6_tick_98 rfl rfl ?_
  refine cVi wv_X6_76 (c_X6_boardIn hs5) dX6_tick_99 ob6 rfl rfl (kk := ?_)
  refine J_bipush (v := -6) dX6_tick_102 (by decide) ?_
  refine J_icmp_eq (tgt := 116) dX6_tick_104 (by decide) (fun h104 => ?_) (fun h104 => absurd (by decide) h104)
  refine J_iinc (v := 3) dX6_tick_116 rfl (by decide) rfl rfl ?_
  refine J_goto (tgt := 92) dX6_tick_119 (by decide) ?_
  refine J_iload_n dX6_tick_92 rfl rfl ?_
  refine J_iconst (v := 5) dX6_tick_93 (by decide) ?_
  refine J_icmp_ge (tgt := 122) dX6_tick_94 (by decide) (fun h94 => absurd h94 (by decide)) (fun h94 => ?_)
  refine J_aload_n dX6_tick_97 rfl rfl ?_
  refine J_iload_n dX6_tick_98 rfl rfl ?_
  refine cVi wv_X6_76 (c_X6_boardIn hs5) dX6_tick_99 ob6 rfl rfl (kk := ?_)
  refine J_bipush (v := -6) dX6_tick_102 (by decide) ?_
  refine J_icmp_eq (tgt := 116) dX6_tick_104 (by decide) (fun h104 => ?_) (fun h104 => absurd (by decide) h104)
  refine J_iinc (v := 4) dX6_tick_116 rfl (by decide) rfl rfl ?_
  refine J_goto (tgt := 92) dX6_tick_119 (by decide) ?_
  refine J_iload_n dX6_tick_92 rfl rfl ?_
  refine J_iconst (v := 5) dX6_tick_93 (by decide) ?_
  refine J_icmp_ge (tgt := 122) dX6_tick_94 (by decide) (fun h94 => absurd h94 (by decide)) (fun h94 => ?_)
  refine J_aload_n dX6_tick_97 rfl rfl ?_
  refine J_iload_n dX6_tick_98 rfl rfl ?_
  refine cVi wv_X6_76 (c_X6_boardIn hs5) dX6_tick_99 ob6 rfl rfl (kk := ?_)
  refine J_bipush (v := -6) dX6_tick_102 (by decide) ?_
  refine J_icmp_eq (tgt := 116) dX6_tick_104 (by decide) (fun h104 => ?_) (fun h104 => absurd (by decide) h104)
  refine J_iinc (v := 5) dX6_tick_116 rfl (by decide) rfl rfl ?_
  refine J_goto (tgt := 92) dX6_tick_119 (by decide) ?_
  refine J_iload_n dX6_tick_92 rfl rfl ?_
  refine J_iconst (v := 5) dX6_tick_93 (by decide) ?_
  refine J_icmp_ge (tgt := 122) dX6_tick_94 (by decide) (fun h94 => ?_) (fun h94 => absurd (by decide) h94)
  refine J_iconst (v := 0) dX6_tick_122 (by decide) ?_
  refine J_istore_n dX6_tick_123 rfl rfl rfl ?_
  refine J_iload_n dX6_tick_124 rfl rfl ?_
  refine J_aload_n dX6_tick_125 rfl rfl ?_
  refine gX6_s wf_X6_7 dX6_tick_126 ?_
  refine J_iconst (v := 5) dX6_tick_129 (by decide) ?_
  refine al_ms dX6_tick_130 (nIin (k := 5) (by decide) (by decide)) ?_
  refine J_icmp_ge (tgt := 145) dX6_tick_131 (by decide) (fun h131 => ?_) (fun h131 => absurd (le0 (by rw [up_apply]; exact hs5)) h131)
  refine J_aload_n dX6_tick_145 rfl rfl ?_
  refine J_iload_n dX6_tick_146 rfl rfl ?_
  refine cVv wv_X6_88 (c_X6_serves (by rw [up_apply]; exact hb)) dX6_tick_147 ob6 rfl rfl (kk := ?_)
  refine J_aload_n dX6_tick_150 rfl rfl ?_
  refine gX6_s wf_X6_7 dX6_tick_151 ?_
  refine J_sipush (v := 295) dX6_tick_154 (by decide) ?_
  refine al_ms dX6_tick_157 (nIin (k := 295) (by decide) (by decide)) ?_
  refine J_topi (fun z9 hz9 => ?_)
  obtain rfl : z9 = -6 := hz9.trans (by rw [up_apply]; exact hb)
  refine J_bipush (v := -6) dX6_tick_158 (by decide) ?_
  refine J_icmp_ne (tgt := 174) dX6_tick_160 (by decide) (fun h160 => absurd (by decide) h160) (fun h160 => ?_)
  refine J_aload_n dX6_tick_163 rfl rfl ?_
  refine cVi wv_X6_92 (c_X6_isHeld (by rw [up_apply]; exact hs5)) dX6_tick_164 ob6 rfl rfl (kk := ?_)
  refine J_if_ne (tgt := 174) dX6_tick_167 (by decide) (fun h167 => absurd rfl h167) (fun h167 => ?_)
  refine J_aload_n dX6_tick_170 rfl rfl ?_
  refine cVv wv_X6_96 (c_X6_getsOn (by rw [up_apply]; exact hs94)) dX6_tick_171 ob6 rfl rfl (kk := ?_)
  refine J_aload_n dX6_tick_174 rfl rfl ?_
  refine gX6_s wf_X6_7 dX6_tick_175 ?_
  refine J_sipush (v := 297) dX6_tick_178 (by decide) ?_
  refine J_dup2 dX6_tick_181 rfl rfl ?_
  refine al_ms dX6_tick_182 (nIin (k := 297) (by decide) (by decide)) ?_
  refine J_iconst (v := 1) dX6_tick_183 (by decide) ?_
  refine J_iadd dX6_tick_184 ?_
  refine as_ms dX6_tick_185 (nIin (k := 297) (by decide) (by decide)) ?_
  refine r_void dX6_tick_186 ?_
  refine ⟨rfl, (Fm.up (Fm.up ⟨hs5, hs94, hb⟩ (by decide) (by decide) (by decide)) (by decide) (by decide) (by decide)), But.up (But.up But.rf), ?_⟩
  rw [up_apply, if_neg (by decide), up_apply, if_neg (by decide)]

set_option maxRecDepth 100000 in
set_option maxHeartbeats 4000000 in
theorem passM {X : jX} {ad : Nat → Nat} {mem : Mem} {T : Nat} {D : Int32} (hT : T ≤ 99) : ∀ (n i : Nat) (m : Mem), i + n = T → Fm m → m 196 300 = D → But mem m 196 → Jg X RX6 cX6_passes 4 (some .int) "passes" 6 0 0 (QF X ad (fun v m => v = some (.int 0) ∧ But mem m 196)) ad 0 0 43 [(0, .ref 195), (1, .int (nI T)), (2, .int D), (3, .int (nI i))] [] (WS X ad m) := by
  intro n
  induction n with
  | zero =>
    intro i m hi hz hD hO
    obtain rfl : i = T := by omega
    refine J_iload_n dX6_passes_43 rfl rfl ?_
    refine J_iload_n dX6_passes_44 rfl rfl ?_
    refine J_icmp_ge (tgt := 58) dX6_passes_45 (by decide) (fun h45 => ?_) (fun h45 => absurd (nI_le1 (Nat.le_refl _) (by omega)) h45)
    refine J_aload_n dX6_passes_58 rfl rfl ?_
    refine gX6_s wf_X6_7 dX6_passes_59 ?_
    refine J_sipush (v := 300) dX6_passes_62 (by decide) ?_
    refine al_ms dX6_passes_65 (nIin (k := 300) (by decide) (by decide)) ?_
    refine J_iload_n dX6_passes_66 rfl rfl ?_
    refine J_isub dX6_passes_67 ?_
    refine r_int dX6_passes_68 ?_
    exact ⟨by rw [show m 196 (Int32.toNatClampNeg 300) = D from hD, Int32.sub_self], hO⟩
  | succ n ih =>
    intro i m hi hz hD hO
    refine J_iload_n dX6_passes_43 rfl rfl ?_
    refine J_iload_n dX6_passes_44 rfl rfl ?_
    refine J_icmp_ge (tgt := 58) dX6_passes_45 (by decide) (fun h45 => absurd h45 (nI_nle1 (by omega) (by omega))) (fun h45 => ?_)
    refine J_aload_n dX6_passes_48 rfl rfl ?_
    refine cVg wv_X6_99 (c_X6_tick hz) dX6_passes_49 ob6 rfl rfl (kk := (fun v m1 hf => ?_))
    obtain ⟨rfl, hz1, hB1, hD1⟩ := hf
    refine J_iinc (v := _ + 1) dX6_passes_52 rfl rfl rfl rfl ?_
    rw [show nI i + 1 = nI (i + 1) from (nI_succ i).symm]
    refine J_goto (tgt := 43) dX6_passes_55 (by decide) ?_
    exact ih (i + 1) _ (by omega) hz1 (hD1.trans hD) (fun c hc => by rw [hB1 c hc, hO c hc])

set_option maxRecDepth 100000 in
set_option maxHeartbeats 4000000 in
theorem c_X6_passes {X : jX} {ad : Nat → Nat} {mem : Mem} {t : Int32} (hz : Fm mem) (ht : mem 196 297 = 0) : Cm X yX6_passes cX6_passes 4 (some .int) 6 ad [.ref 195, .int t] mem (fun v m => v = some (.int (pas t)) ∧ But mem m 196) := by
  refine Cm.of (own := RX6) (nm := "passes") (by decide +kernel) rfl rfl rfl rfl ?_
  refine J_iload_n dX6_passes_0 rfl rfl ?_
  refine J_iconst (v := 1) dX6_passes_1 (by decide) ?_
  refine J_bipush (v := 99) dX6_passes_2 (by decide) ?_
  refine cSi ws_X6_25 c_X6_in dX6_passes_4 (kk := ?_)
  refine J_if_ne (tgt := 13) dX6_passes_7 (by decide) (fun h7 => ?_) (fun h7 => ?_)
  · refine J_aload_n dX6_passes_13 rfl rfl ?_
    refine gX6_s wf_X6_7 dX6_passes_14 ?_
    refine J_sipush (v := 297) dX6_passes_17 (by decide) ?_
    refine al_ms dX6_passes_20 (nIin (k := 297) (by decide) (by decide)) ?_
    refine J_topi (fun z9 hz9 => ?_)
    obtain rfl : z9 = 0 := hz9.trans (by exact ht)
    refine J_iload_n dX6_passes_21 rfl rfl ?_
    refine J_iadd dX6_passes_22 ?_
    refine J_sipush (v := 9999) dX6_passes_23 (by decide) ?_
    refine J_icmp_le (tgt := 32) dX6_passes_26 (by decide) (fun h26 => ?_) (fun h26 => absurd (by obtain ⟨k, hk, rfl⟩ := jin_nat (n := 99) (by decide) rfl h7; exact (show ∀ k, k < 100 → (0 : Int32) + nI k ≤ 9999 by decide) k (by omega)) h26)
    refine J_aload_n dX6_passes_32 rfl rfl ?_
    refine gX6_s wf_X6_7 dX6_passes_33 ?_
    refine J_sipush (v := 300) dX6_passes_36 (by decide) ?_
    refine al_ms dX6_passes_39 (nIin (k := 300) (by decide) (by decide)) ?_
    refine J_istore_n dX6_passes_40 rfl rfl rfl ?_
    refine J_iconst (v := 0) dX6_passes_41 (by decide) ?_
    refine J_istore_n dX6_passes_42 rfl rfl rfl ?_
    obtain ⟨k, hk, rfl⟩ := jin_nat (n := 99) (by decide) rfl h7
    have e : pas (nI k) = 0 := by simp only [pas, if_neg h7]
    rw [e]
    exact passM hk k 0 mem (by omega) hz rfl But.rf
  · refine J_bipush (v := -2) dX6_passes_10 (by decide) ?_
    refine r_int dX6_passes_12 ?_
    exact ⟨by simp only [pas, *, reduceIte], But.rf⟩

def lst (s : Int32) : Int32 := if s = 0 then 0 else if s = 4 then 10 else 1
def mst (s : Int32) : Int32 := if s = 0 then 1 else if s = 1 then 50 else if s = 4 then 300 else 9
def chgM (m : Mem) (s v : Int32) : Int32 := if jin s 0 4 = 0 then -2 else if jin v (lst s) (mst s) = 0 then -2 else m 196 s.toNatClampNeg
set_option maxRecDepth 100000 in
set_option maxHeartbeats 4000000 in
theorem c_X6_least {X : jX} {ad : Nat → Nat} {mem : Mem} {s : Int32}  : Cd X yX6_least cX6_least 1 (some .int) 0 ad [.int s] mem (some (.int (lst s))) (mem) := by
  refine Cm.of (own := RX6) (nm := "least") (by decide +kernel) rfl rfl rfl rfl ?_
  refine J_iload_n dX6_least_0 rfl rfl ?_
  refine J_if_ne (tgt := 8) dX6_least_1 (by decide) (fun h1 => ?_) (fun h1 => ?_)
  · refine J_iload_n dX6_least_8 rfl rfl ?_
    refine J_iconst (v := 4) dX6_least_9 (by decide) ?_
    refine J_icmp_ne (tgt := 18) dX6_least_10 (by decide) (fun h10 => ?_) (fun h10 => ?_)
    · refine J_iconst (v := 1) dX6_least_18 (by decide) ?_
      refine r_int dX6_least_19 ?_
      exact ⟨by unfold lst; (repeat' split) <;> first | rfl | contradiction, rfl⟩
    · refine J_bipush (v := 10) dX6_least_13 (by decide) ?_
      refine J_goto (tgt := 19) dX6_least_15 (by decide) ?_
      refine r_int dX6_least_19 ?_
      exact ⟨by unfold lst; (repeat' split) <;> first | rfl | contradiction, rfl⟩
  · refine J_iconst (v := 0) dX6_least_4 (by decide) ?_
    refine J_goto (tgt := 19) dX6_least_5 (by decide) ?_
    refine r_int dX6_least_19 ?_
    exact ⟨by unfold lst; (repeat' split) <;> first | rfl | contradiction, rfl⟩

set_option maxRecDepth 100000 in
set_option maxHeartbeats 4000000 in
theorem c_X6_most {X : jX} {ad : Nat → Nat} {mem : Mem} {s : Int32}  : Cd X yX6_most cX6_most 1 (some .int) 0 ad [.int s] mem (some (.int (mst s))) (mem) := by
  refine Cm.of (own := RX6) (nm := "most") (by decide +kernel) rfl rfl rfl rfl ?_
  refine J_iload_n dX6_most_0 rfl rfl ?_
  refine J_if_ne (tgt := 8) dX6_most_1 (by decide) (fun h1 => ?_) (fun h1 => ?_)
  · refine J_iload_n dX6_most_8 rfl rfl ?_
    refine J_iconst (v := 1) dX6_most_9 (by decide) ?_
    refine J_icmp_ne (tgt := 18) dX6_most_10 (by decide) (fun h10 => ?_) (fun h10 => ?_)
    · refine J_iload_n dX6_most_18 rfl rfl ?_
      refine J_iconst (v := 4) dX6_most_19 (by decide) ?_
      refine J_icmp_ne (tgt := 29) dX6_most_20 (by decide) (fun h20 => ?_) (fun h20 => ?_)
      · refine J_bipush (v := 9) dX6_most_29 (by decide) ?_
        refine r_int dX6_most_31 ?_
        exact ⟨by unfold mst; (repeat' split) <;> first | rfl | contradiction, rfl⟩
      · refine J_sipush (v := 300) dX6_most_23 (by decide) ?_
        refine J_goto (tgt := 31) dX6_most_26 (by decide) ?_
        refine r_int dX6_most_31 ?_
        exact ⟨by unfold mst; (repeat' split) <;> first | rfl | contradiction, rfl⟩
    · refine J_bipush (v := 50) dX6_most_13 (by decide) ?_
      refine J_goto (tgt := 31) dX6_most_15 (by decide) ?_
      refine r_int dX6_most_31 ?_
      exact ⟨by unfold mst; (repeat' split) <;> first | rfl | contradiction, rfl⟩
  · refine J_iconst (v := 1) dX6_most_4 (by decide) ?_
    refine J_goto (tgt := 31) dX6_most_5 (by decide) ?_
    refine r_int dX6_most_31 ?_
    exact ⟨by unfold mst; (repeat' split) <;> first | rfl | contradiction, rfl⟩

theorem jin_in302 {s : Int32} (h : ¬ jin s 0 4 = 0) : vp_in s 302 := by
  obtain ⟨k, hk, rfl⟩ := jin_nat (n := 4) (by decide) rfl h
  exact nIin (by omega) (by decide)
set_option maxRecDepth 100000 in
set_option maxHeartbeats 4000000 in
theorem c_X6_comes {X : jX} {ad : Nat → Nat} {mem : Mem} {x y : Int32} (hs5 : mem 196 5 = 0) : Cm X yX6_comes cX6_comes 4 (some .int) 1 ad [.ref 195, .int x, .int y] mem (fun v m => v = some (.int (addr x y)) ∧ But mem m 196) := by
  refine Cm.of (own := RX6) (nm := "comes") (by decide +kernel) rfl rfl rfl rfl ?_
  refine J_iload_n dX6_comes_0 rfl rfl ?_
  refine J_iconst (v := 0) dX6_comes_1 (by decide) ?_
  refine J_bipush (v := 99) dX6_comes_2 (by decide) ?_
  refine cSi ws_X6_25 c_X6_in dX6_comes_4 (kk := ?_)
  refine J_if_eq (tgt := 20) dX6_comes_7 (by decide) (fun h7 => ?_) (fun h7 => ?_)
  · refine J_bipush (v := -2) dX6_comes_20 (by decide) ?_
    refine r_int dX6_comes_22 ?_
    exact ⟨by simp only [addr, *, reduceIte], But.rf⟩
  · refine J_iload_n dX6_comes_10 rfl rfl ?_
    refine J_iconst (v := 1) dX6_comes_11 (by decide) ?_
    refine J_bipush (v := 60) dX6_comes_12 (by decide) ?_
    refine cSi ws_X6_25 c_X6_in dX6_comes_14 (kk := ?_)
    refine J_if_ne (tgt := 23) dX6_comes_17 (by decide) (fun h17 => ?_) (fun h17 => ?_)
    · refine J_aload_n dX6_comes_23 rfl rfl ?_
      refine gX6_s wf_X6_7 dX6_comes_24 ?_
      refine J_iconst (v := 5) dX6_comes_27 (by decide) ?_
      refine al_ms dX6_comes_28 (nIin (k := 5) (by decide) (by decide)) ?_
      refine J_topi (fun z9 hz9 => ?_)
      obtain rfl : z9 = 0 := hz9.trans (by exact hs5)
      refine J_bipush (v := 8) dX6_comes_29 (by decide) ?_
      refine J_icmp_ne (tgt := 37) dX6_comes_31 (by decide) (fun h31 => ?_) (fun h31 => absurd h31 (by decide))
      refine J_aload_n dX6_comes_37 rfl rfl ?_
      refine gX6_s wf_X6_7 dX6_comes_38 ?_
      refine J_iconst (v := 5) dX6_comes_41 (by decide) ?_
      refine al_ms dX6_comes_42 (nIin (k := 5) (by decide) (by decide)) ?_
      refine J_topi (fun z9 hz9 => ?_)
      obtain rfl : z9 = 0 := hz9.trans (by exact hs5)
      refine J_istore_n dX6_comes_43 rfl rfl rfl ?_
      refine J_aload_n dX6_comes_44 rfl rfl ?_
      refine gX6_s wf_X6_7 dX6_comes_45 ?_
      refine J_iconst (v := 5) dX6_comes_48 (by decide) ?_
      refine J_dup2 dX6_comes_49 rfl rfl ?_
      refine al_ms dX6_comes_50 (nIin (k := 5) (by decide) (by decide)) ?_
      refine J_iconst (v := 1) dX6_comes_51 (by decide) ?_
      refine J_iadd dX6_comes_52 ?_
      refine as_ms dX6_comes_53 (nIin (k := 5) (by decide) (by decide)) ?_
      refine J_aload_n dX6_comes_54 rfl rfl ?_
      refine gX6_s wf_X6_7 dX6_comes_55 ?_
      refine J_iload_n dX6_comes_58 rfl rfl ?_
      refine J_iconst (v := 0) dX6_comes_59 (by decide) ?_
      refine cSi ws_X6_58 c_X6_ofBoard dX6_comes_60 (kk := ?_)
      refine J_iload_n dX6_comes_63 rfl rfl ?_
      refine as_ms dX6_comes_64 (nIin (k := 6) (by decide) (by decide)) ?_
      refine J_aload_n dX6_comes_65 rfl rfl ?_
      refine gX6_s wf_X6_7 dX6_comes_66 ?_
      refine J_iload_n dX6_comes_69 rfl rfl ?_
      refine J_iconst (v := 1) dX6_comes_70 (by decide) ?_
      refine cSi ws_X6_58 c_X6_ofBoard dX6_comes_71 (kk := ?_)
      refine J_iload_n dX6_comes_74 rfl rfl ?_
      refine as_ms dX6_comes_75 (nIin (k := 7) (by decide) (by decide)) ?_
      refine J_aload_n dX6_comes_76 rfl rfl ?_
      refine gX6_s wf_X6_7 dX6_comes_77 ?_
      refine J_iload_n dX6_comes_80 rfl rfl ?_
      refine J_iconst (v := 2) dX6_comes_81 (by decide) ?_
      refine cSi ws_X6_58 c_X6_ofBoard dX6_comes_82 (kk := ?_)
      refine J_bipush (v := -6) dX6_comes_85 (by decide) ?_
      refine as_ms dX6_comes_87 (nIin (k := 8) (by decide) (by decide)) ?_
      refine J_iload_n dX6_comes_88 rfl rfl ?_
      refine r_int dX6_comes_89 ?_
      exact ⟨by simp only [addr, if_neg h7, if_neg h17], But.up (But.up (But.up (But.up But.rf)))⟩
    · refine J_bipush (v := -2) dX6_comes_20 (by decide) ?_
      refine r_int dX6_comes_22 ?_
      exact ⟨by simp only [addr, *, reduceIte], But.rf⟩

set_option maxRecDepth 100000 in
set_option maxHeartbeats 4000000 in
theorem c_X6_plugs {X : jX} {ad : Nat → Nat} {mem : Mem} {n s v : Int32} (hs5 : mem 196 5 = 0) : Cd X yX6_plugs cX6_plugs 7 (some .int) 2 ad [.ref 195, .int n, .int s, .int v] mem (some (.int (-1))) (mem) := by
  refine Cm.of (own := RX6) (nm := "plugs") (by decide +kernel) rfl rfl rfl rfl ?_
  refine J_aload_n dX6_plugs_0 rfl rfl ?_
  refine J_iload_n dX6_plugs_1 rfl rfl ?_
  refine cVi wv_X6_117 (c_X6_isBoard hs5) dX6_plugs_2 ob6 rfl rfl (kk := ?_)
  refine J_if_eq (tgt := 15) dX6_plugs_5 (by decide) (fun h5 => ?_) (fun h5 => absurd rfl h5)
  refine J_iconst (v := -1) dX6_plugs_15 (by decide) ?_
  refine r_int dX6_plugs_16 ?_
  exact ⟨rfl, rfl⟩

set_option maxRecDepth 100000 in
set_option maxHeartbeats 4000000 in
theorem c_X6_pulls {X : jX} {ad : Nat → Nat} {mem : Mem} {n v : Int32} (hs5 : mem 196 5 = 0) : Cd X yX6_pulls cX6_pulls 3 (some .int) 2 ad [.ref 195, .int n, .int v] mem (some (.int (-1))) (mem) := by
  refine Cm.of (own := RX6) (nm := "pulls") (by decide +kernel) rfl rfl rfl rfl ?_
  refine J_aload_n dX6_pulls_0 rfl rfl ?_
  refine J_iload_n dX6_pulls_1 rfl rfl ?_
  refine cVi wv_X6_117 (c_X6_isBoard hs5) dX6_pulls_2 ob6 rfl rfl (kk := ?_)
  refine J_if_ne (tgt := 10) dX6_pulls_5 (by decide) (fun h5 => absurd rfl h5) (fun h5 => ?_)
  refine J_iconst (v := -1) dX6_pulls_8 (by decide) ?_
  refine r_int dX6_pulls_9 ?_
  exact ⟨rfl, rfl⟩

set_option maxRecDepth 100000 in
set_option maxHeartbeats 4000000 in
theorem c_X6_asks {X : jX} {ad : Nat → Nat} {mem : Mem} {n : Int32} (hs5 : mem 196 5 = 0) : Cd X yX6_asks cX6_asks 2 (some .int) 3 ad [.ref 195, .int n] mem (some (.int (-1))) (mem) := by
  refine Cm.of (own := RX6) (nm := "asks") (by decide +kernel) rfl rfl rfl rfl ?_
  refine J_aload_n dX6_asks_0 rfl rfl ?_
  refine J_iload_n dX6_asks_1 rfl rfl ?_
  refine cVi wv_X6_117 (c_X6_isBoard hs5) dX6_asks_2 ob6 rfl rfl (kk := ?_)
  refine J_if_ne (tgt := 10) dX6_asks_5 (by decide) (fun h5 => absurd rfl h5) (fun h5 => ?_)
  refine J_iconst (v := -1) dX6_asks_8 (by decide) ?_
  refine r_int dX6_asks_9 ?_
  exact ⟨rfl, rfl⟩

set_option maxRecDepth 100000 in
set_option maxHeartbeats 4000000 in
theorem c_X6_sends {X : jX} {ad : Nat → Nat} {mem : Mem} {n k : Int32} (hs5 : mem 196 5 = 0) : Cd X yX6_sends cX6_sends 4 (some .int) 3 ad [.ref 195, .int n, .int k] mem (some (.int (-1))) (mem) := by
  refine Cm.of (own := RX6) (nm := "sends") (by decide +kernel) rfl rfl rfl rfl ?_
  refine J_aload_n dX6_sends_0 rfl rfl ?_
  refine J_iload_n dX6_sends_1 rfl rfl ?_
  refine cVi wv_X6_117 (c_X6_isBoard hs5) dX6_sends_2 ob6 rfl rfl (kk := ?_)
  refine J_if_eq (tgt := 16) dX6_sends_5 (by decide) (fun h5 => ?_) (fun h5 => absurd rfl h5)
  refine J_iconst (v := -1) dX6_sends_16 (by decide) ?_
  refine r_int dX6_sends_17 ?_
  exact ⟨rfl, rfl⟩

