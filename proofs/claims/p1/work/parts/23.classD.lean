/-- the reference's cells are as they were -/
def Hi (m : Mem) : Prop := ∀ c, 195 ≤ c → m c = mem0 c
theorem fz0 : Fz mem0 1 := ⟨rfl, rfl, rfl, rfl⟩
theorem fzO {m : Mem} {k : Nat} (h : Out mem0 m (35 + 17 * k)) : Fz m 1 := ⟨by rw [h 1 (by omega)]; rfl, by rw [h 12 (by omega)]; rfl, by rw [h 12 (by omega)]; rfl, by rw [h 12 (by omega)]; rfl⟩
theorem h188 {m m2 : Mem} {k : Nat} (hk : k < 7) (h : Out mem0 m (35 + 17 * k)) (h2 : Out m m2 1) : m2 188 2 = 0 := by
  rw [h2 188 (by omega), h 188 (by omega)]
  rfl
theorem h188' {m : Mem} {k : Nat} (hk : k < 7) (h : Out mem0 m (35 + 17 * k)) : m 188 2 = 0 := by
  rw [h 188 (by omega)]
  rfl
theorem chg0 {m : Mem} {k : Nat} {s v : Int32} (h : Out mem0 m (35 + 17 * k)) : chg m 1 s v = chg mem0 1 s v := by
  unfold chg
  rw [h (1 + 1) (by omega)]
set_option maxRecDepth 100000 in
set_option maxHeartbeats 4000000 in
theorem c_X5_set {X : jX} {ad : Nat → Nat} {s v : Int32} (had : ∀ k, ad (1000 + k) = jx X k) : Cm X yX5_set cX5_set 3 (some .int) 4 ad [.ref 0, .int s, .int v] mem0 (fun r9 m9 => r9 = some (.int (chg mem0 1 s v)) ∧ Hi m9) := by
  refine Cm.of (own := RX5) (nm := "set") (by decide +kernel) rfl rfl rfl rfl ?_
  refine J_aload_n dX5_set_0 rfl rfl ?_
  refine gX5_history wf_X5_22 dX5_set_1 ?_
  refine J_aload_n dX5_set_4 rfl rfl ?_
  refine gX5_backplane wf_X5_10 dX5_set_5 ?_
  refine cVg wv_X5_41 (c_X3_prepare (k := 0) isB1 (by decide) rfl (by decide) fz0) dX5_set_8 ob3 rfl rfl (kk := (fun v m1 hf => ?_))
  obtain ⟨rfl, hO⟩ := hf
  refine J_aload_n dX5_set_11 rfl rfl ?_
  refine gX5_history wf_X5_22 dX5_set_12 ?_
  refine J_aload_n dX5_set_15 rfl rfl ?_
  refine gX5_backplane wf_X5_10 dX5_set_16 ?_
  refine J_iload_n dX5_set_19 rfl rfl ?_
  refine J_iload_n dX5_set_20 rfl rfl ?_
  refine cVg wv_X5_45 (c_X0_changeSetting isB1 had) dX5_set_21 (ob0 (by first | assumption | exact isB1 | exact isB18)) rfl rfl (kk := (fun v m2 hf => ?_))
  obtain ⟨rfl, hO2⟩ := hf
  refine cVg wv_X5_49 (c_X3_settle (h188 (Nat.mod_lt _ (by decide)) hO hO2)) dX5_set_24 ob3 rfl rfl (kk := (fun v m3 hf => ?_))
  obtain ⟨rfl, h3⟩ := hf
  refine r_int dX5_set_27 ?_
  exact ⟨by rw [chg0 hO], fun c hc => by rw [h3 c (by omega), hO2 c (by omega), hO c (by omega)]⟩

set_option maxRecDepth 100000 in
set_option maxHeartbeats 4000000 in
theorem c_X5_board {X : jX} {ad : Nat → Nat} {x y : Int32} (had : ∀ k, ad (1000 + k) = jx X k) : Cm X yX5_board cX5_board 3 (some .int) 4 ad [.ref 0, .int x, .int y] mem0 (fun r9 m9 => r9 = some (.int (addr x y)) ∧ Hi m9) := by
  refine Cm.of (own := RX5) (nm := "board") (by decide +kernel) rfl rfl rfl rfl ?_
  refine J_aload_n dX5_board_0 rfl rfl ?_
  refine gX5_history wf_X5_22 dX5_board_1 ?_
  refine J_aload_n dX5_board_4 rfl rfl ?_
  refine gX5_backplane wf_X5_10 dX5_board_5 ?_
  refine cVg wv_X5_41 (c_X3_prepare (k := 0) isB1 (by decide) rfl (by decide) fz0) dX5_board_8 ob3 rfl rfl (kk := (fun v m1 hf => ?_))
  obtain ⟨rfl, hO⟩ := hf
  refine J_aload_n dX5_board_11 rfl rfl ?_
  refine gX5_history wf_X5_22 dX5_board_12 ?_
  refine J_aload_n dX5_board_15 rfl rfl ?_
  refine gX5_backplane wf_X5_10 dX5_board_16 ?_
  refine J_iload_n dX5_board_19 rfl rfl ?_
  refine J_iload_n dX5_board_20 rfl rfl ?_
  refine cVg wv_X5_53 (c_X0_addBoard isB1 (fzO hO).1) dX5_board_21 (ob0 (by first | assumption | exact isB1 | exact isB18)) rfl rfl (kk := (fun v m2 hf => ?_))
  obtain ⟨rfl, hO2⟩ := hf
  refine cVg wv_X5_49 (c_X3_settle (h188 (Nat.mod_lt _ (by decide)) hO hO2)) dX5_board_24 ob3 rfl rfl (kk := (fun v m3 hf => ?_))
  obtain ⟨rfl, h3⟩ := hf
  refine r_int dX5_board_27 ?_
  exact ⟨rfl, fun c hc => by rw [h3 c (by omega), hO2 c (by omega), hO c (by omega)]⟩

set_option maxRecDepth 100000 in
set_option maxHeartbeats 4000000 in
theorem c_X5_pass {X : jX} {ad : Nat → Nat} {t : Int32} (had : ∀ k, ad (1000 + k) = jx X k) : Cm X yX5_pass cX5_pass 2 (some .int) 5 ad [.ref 0, .int t] mem0 (fun r9 m9 => r9 = some (.int (pas t)) ∧ Hi m9) := by
  refine Cm.of (own := RX5) (nm := "pass") (by decide +kernel) rfl rfl rfl rfl ?_
  refine J_aload_n dX5_pass_0 rfl rfl ?_
  refine gX5_history wf_X5_22 dX5_pass_1 ?_
  refine J_aload_n dX5_pass_4 rfl rfl ?_
  refine gX5_backplane wf_X5_10 dX5_pass_5 ?_
  refine cVg wv_X5_41 (c_X3_prepare (k := 0) isB1 (by decide) rfl (by decide) fz0) dX5_pass_8 ob3 rfl rfl (kk := (fun v m1 hf => ?_))
  obtain ⟨rfl, hO⟩ := hf
  refine J_aload_n dX5_pass_11 rfl rfl ?_
  refine gX5_history wf_X5_22 dX5_pass_12 ?_
  refine J_aload_n dX5_pass_15 rfl rfl ?_
  refine gX5_backplane wf_X5_10 dX5_pass_16 ?_
  refine J_iload_n dX5_pass_19 rfl rfl ?_
  refine cVg wv_X5_69 (c_X0_passTicks isB1 (fzO hO) (by rw [hO 1 (by omega)]; rfl)) dX5_pass_20 (ob0 (by first | assumption | exact isB1 | exact isB18)) rfl rfl (kk := (fun v m2 hf => ?_))
  obtain ⟨rfl, hO2⟩ := hf
  refine cVg wv_X5_49 (c_X3_settle (h188 (Nat.mod_lt _ (by decide)) hO hO2)) dX5_pass_23 ob3 rfl rfl (kk := (fun v m3 hf => ?_))
  obtain ⟨rfl, h3⟩ := hf
  refine r_int dX5_pass_26 ?_
  exact ⟨rfl, fun c hc => by rw [h3 c (by omega), hO2 c (by omega), hO c (by omega)]⟩

set_option maxRecDepth 100000 in
set_option maxHeartbeats 4000000 in
theorem c_X5_plug {X : jX} {ad : Nat → Nat} {n s v : Int32}  : Cm X yX5_plug cX5_plug 4 (some .int) 4 ad [.ref 0, .int n, .int s, .int v] mem0 (fun r9 m9 => r9 = some (.int (-1)) ∧ Hi m9) := by
  refine Cm.of (own := RX5) (nm := "plug") (by decide +kernel) rfl rfl rfl rfl ?_
  refine J_aload_n dX5_plug_0 rfl rfl ?_
  refine gX5_history wf_X5_22 dX5_plug_1 ?_
  refine J_aload_n dX5_plug_4 rfl rfl ?_
  refine gX5_backplane wf_X5_10 dX5_plug_5 ?_
  refine cVg wv_X5_41 (c_X3_prepare (k := 0) isB1 (by decide) rfl (by decide) fz0) dX5_plug_8 ob3 rfl rfl (kk := (fun v m1 hf => ?_))
  obtain ⟨rfl, hO⟩ := hf
  refine J_aload_n dX5_plug_11 rfl rfl ?_
  refine gX5_history wf_X5_22 dX5_plug_12 ?_
  refine J_aload_n dX5_plug_15 rfl rfl ?_
  refine gX5_backplane wf_X5_10 dX5_plug_16 ?_
  refine J_iload_n dX5_plug_19 rfl rfl ?_
  refine J_iload_n dX5_plug_20 rfl rfl ?_
  refine J_iload_n dX5_plug_21 rfl rfl ?_
  refine cVi wv_X5_56 (c_X0_moveInward isB1 (fzO hO).1) dX5_plug_22 (ob0 (by first | assumption | exact isB1 | exact isB18)) rfl rfl (kk := ?_)
  refine cVg wv_X5_49 (c_X3_settle (h188' (Nat.mod_lt _ (by decide)) hO)) dX5_plug_25 ob3 rfl rfl (kk := (fun v m3 hf => ?_))
  obtain ⟨rfl, h3⟩ := hf
  refine r_int dX5_plug_28 ?_
  exact ⟨rfl, fun c hc => by rw [h3 c (by omega), hO c (by omega)]⟩

set_option maxRecDepth 100000 in
set_option maxHeartbeats 4000000 in
theorem c_X5_pull {X : jX} {ad : Nat → Nat} {n v : Int32}  : Cm X yX5_pull cX5_pull 3 (some .int) 4 ad [.ref 0, .int n, .int v] mem0 (fun r9 m9 => r9 = some (.int (-1)) ∧ Hi m9) := by
  refine Cm.of (own := RX5) (nm := "pull") (by decide +kernel) rfl rfl rfl rfl ?_
  refine J_aload_n dX5_pull_0 rfl rfl ?_
  refine gX5_history wf_X5_22 dX5_pull_1 ?_
  refine J_aload_n dX5_pull_4 rfl rfl ?_
  refine gX5_backplane wf_X5_10 dX5_pull_5 ?_
  refine cVg wv_X5_41 (c_X3_prepare (k := 0) isB1 (by decide) rfl (by decide) fz0) dX5_pull_8 ob3 rfl rfl (kk := (fun v m1 hf => ?_))
  obtain ⟨rfl, hO⟩ := hf
  refine J_aload_n dX5_pull_11 rfl rfl ?_
  refine gX5_history wf_X5_22 dX5_pull_12 ?_
  refine J_aload_n dX5_pull_15 rfl rfl ?_
  refine gX5_backplane wf_X5_10 dX5_pull_16 ?_
  refine J_iload_n dX5_pull_19 rfl rfl ?_
  refine J_iload_n dX5_pull_20 rfl rfl ?_
  refine cVi wv_X5_60 (c_X0_moveOutward isB1 (fzO hO).1) dX5_pull_21 (ob0 (by first | assumption | exact isB1 | exact isB18)) rfl rfl (kk := ?_)
  refine cVg wv_X5_49 (c_X3_settle (h188' (Nat.mod_lt _ (by decide)) hO)) dX5_pull_24 ob3 rfl rfl (kk := (fun v m3 hf => ?_))
  obtain ⟨rfl, h3⟩ := hf
  refine r_int dX5_pull_27 ?_
  exact ⟨rfl, fun c hc => by rw [h3 c (by omega), hO c (by omega)]⟩

set_option maxRecDepth 100000 in
set_option maxHeartbeats 4000000 in
theorem c_X5_ask {X : jX} {ad : Nat → Nat} {n : Int32}  : Cm X yX5_ask cX5_ask 2 (some .int) 4 ad [.ref 0, .int n] mem0 (fun r9 m9 => r9 = some (.int (-1)) ∧ Hi m9) := by
  refine Cm.of (own := RX5) (nm := "ask") (by decide +kernel) rfl rfl rfl rfl ?_
  refine J_aload_n dX5_ask_0 rfl rfl ?_
  refine gX5_history wf_X5_22 dX5_ask_1 ?_
  refine J_aload_n dX5_ask_4 rfl rfl ?_
  refine gX5_backplane wf_X5_10 dX5_ask_5 ?_
  refine cVg wv_X5_41 (c_X3_prepare (k := 0) isB1 (by decide) rfl (by decide) fz0) dX5_ask_8 ob3 rfl rfl (kk := (fun v m1 hf => ?_))
  obtain ⟨rfl, hO⟩ := hf
  refine J_aload_n dX5_ask_11 rfl rfl ?_
  refine gX5_history wf_X5_22 dX5_ask_12 ?_
  refine J_aload_n dX5_ask_15 rfl rfl ?_
  refine gX5_backplane wf_X5_10 dX5_ask_16 ?_
  refine J_iload_n dX5_ask_19 rfl rfl ?_
  refine cVi wv_X5_63 (c_X0_askToLeave isB1 (fzO hO).1) dX5_ask_20 (ob0 (by first | assumption | exact isB1 | exact isB18)) rfl rfl (kk := ?_)
  refine cVg wv_X5_49 (c_X3_settle (h188' (Nat.mod_lt _ (by decide)) hO)) dX5_ask_23 ob3 rfl rfl (kk := (fun v m3 hf => ?_))
  obtain ⟨rfl, h3⟩ := hf
  refine r_int dX5_ask_26 ?_
  exact ⟨rfl, fun c hc => by rw [h3 c (by omega), hO c (by omega)]⟩

set_option maxRecDepth 100000 in
set_option maxHeartbeats 4000000 in
theorem c_X5_send {X : jX} {ad : Nat → Nat} {n k : Int32}  : Cm X yX5_send cX5_send 3 (some .int) 4 ad [.ref 0, .int n, .int k] mem0 (fun r9 m9 => r9 = some (.int (-1)) ∧ Hi m9) := by
  refine Cm.of (own := RX5) (nm := "send") (by decide +kernel) rfl rfl rfl rfl ?_
  refine J_aload_n dX5_send_0 rfl rfl ?_
  refine gX5_history wf_X5_22 dX5_send_1 ?_
  refine J_aload_n dX5_send_4 rfl rfl ?_
  refine gX5_backplane wf_X5_10 dX5_send_5 ?_
  refine cVg wv_X5_41 (c_X3_prepare (k := 0) isB1 (by decide) rfl (by decide) fz0) dX5_send_8 ob3 rfl rfl (kk := (fun v m1 hf => ?_))
  obtain ⟨rfl, hO⟩ := hf
  refine J_aload_n dX5_send_11 rfl rfl ?_
  refine gX5_history wf_X5_22 dX5_send_12 ?_
  refine J_aload_n dX5_send_15 rfl rfl ?_
  refine gX5_backplane wf_X5_10 dX5_send_16 ?_
  refine J_iload_n dX5_send_19 rfl rfl ?_
  refine J_iload_n dX5_send_20 rfl rfl ?_
  refine cVi wv_X5_66 (c_X0_sendWord isB1 (fzO hO).1) dX5_send_21 (ob0 (by first | assumption | exact isB1 | exact isB18)) rfl rfl (kk := ?_)
  refine cVg wv_X5_49 (c_X3_settle (h188' (Nat.mod_lt _ (by decide)) hO)) dX5_send_24 ob3 rfl rfl (kk := (fun v m3 hf => ?_))
  obtain ⟨rfl, h3⟩ := hf
  refine r_int dX5_send_27 ?_
  exact ⟨rfl, fun c hc => by rw [h3 c (by omega), hO c (by omega)]⟩

set_option maxRecDepth 100000 in
set_option maxHeartbeats 4000000 in
theorem c_X5_of {X : jX} {ad : Nat → Nat} {n k : Int32}  : Cm X yX5_of cX5_of 3 (some .int) 2 ad [.ref 0, .int n, .int k] mem0 (fun r9 m9 => r9 = some (.int (-1)) ∧ Hi m9) := by
  refine Cm.of (own := RX5) (nm := "of") (by decide +kernel) rfl rfl rfl rfl ?_
  refine J_aload_n dX5_of_0 rfl rfl ?_
  refine gX5_backplane wf_X5_10 dX5_of_1 ?_
  refine J_iload_n dX5_of_4 rfl rfl ?_
  refine J_iload_n dX5_of_5 rfl rfl ?_
  refine cVi wv_X5_72 (c_X0_aboutBoard isB1 (fz0).1) dX5_of_6 (ob0 (by first | assumption | exact isB1 | exact isB18)) rfl rfl (kk := ?_)
  refine r_int dX5_of_9 ?_
  exact ⟨rfl, fun _ _ => rfl⟩

def slr (s : Int32) : Int32 := if jin s 0 4 = 0 then -1 else -6
set_option maxRecDepth 100000 in
set_option maxHeartbeats 4000000 in
theorem c_X5_slot {X : jX} {ad : Nat → Nat} {s : Int32}  : Cm X yX5_slot cX5_slot 2 (some .int) 2 ad [.ref 0, .int s] mem0 (fun r9 m9 => r9 = some (.int (slr s)) ∧ Hi m9) := by
  refine Cm.of (own := RX5) (nm := "slot") (by decide +kernel) rfl rfl rfl rfl ?_
  refine J_iload_n dX5_slot_0 rfl rfl ?_
  refine cSi ws_X5_75 c_X5_isSlot dX5_slot_1 (kk := ?_)
  refine J_if_eq (tgt := 18) dX5_slot_4 (by decide) (fun h4 => ?_) (fun h4 => ?_)
  · refine J_iconst (v := -1) dX5_slot_18 (by decide) ?_
    refine r_int dX5_slot_19 ?_
    exact ⟨by simp only [slr, *, reduceIte], fun _ _ => rfl⟩
  · refine J_aload_n dX5_slot_7 rfl rfl ?_
    refine gX5_backplane wf_X5_10 dX5_slot_8 ?_
    refine J_iload_n dX5_slot_11 rfl rfl ?_
    refine cVi wv_X5_79 (c_X0_boardIn isB1 (fz0).1) dX5_slot_12 (ob0 (by first | assumption | exact isB1 | exact isB18)) rfl rfl (kk := ?_)
    refine J_goto (tgt := 19) dX5_slot_15 (by decide) ?_
    refine r_int dX5_slot_19 ?_
    exact ⟨by simp only [slr, *, reduceIte], fun _ _ => rfl⟩

set_option maxRecDepth 100000 in
set_option maxHeartbeats 4000000 in
theorem c_X5_word {X : jX} {ad : Nat → Nat} {n k : Int32}  : Cm X yX5_word cX5_word 3 (some .int) 2 ad [.ref 0, .int n, .int k] mem0 (fun r9 m9 => r9 = some (.int (-1)) ∧ Hi m9) := by
  refine Cm.of (own := RX5) (nm := "word") (by decide +kernel) rfl rfl rfl rfl ?_
  refine J_aload_n dX5_word_0 rfl rfl ?_
  refine gX5_backplane wf_X5_10 dX5_word_1 ?_
  refine gX0_bus (by first | assumption | exact isB1 | exact isB18) wf_X5_82 dX5_word_4 ?_
  refine J_iload_n dX5_word_7 rfl rfl ?_
  refine J_iload_n dX5_word_8 rfl rfl ?_
  refine cVi wv_X5_86 (c_X2_aboutWord isB1 rfl) dX5_word_9 (ob2 (by first | assumption | exact isB1 | exact isB18)) rfl rfl (kk := ?_)
  refine r_int dX5_word_12 ?_
  exact ⟨rfl, fun _ _ => rfl⟩

set_option maxRecDepth 100000 in
set_option maxHeartbeats 4000000 in
theorem c_X5_waiting {X : jX} {ad : Nat → Nat} {n : Int32}  : Cm X yX5_waiting cX5_waiting 3 (some .int) 1 ad [.ref 0, .int n] mem0 (fun r9 m9 => r9 = some (.int (-1)) ∧ Hi m9) := by
  refine Cm.of (own := RX5) (nm := "waiting") (by decide +kernel) rfl rfl rfl rfl ?_
  refine J_aload_n dX5_waiting_0 rfl rfl ?_
  refine gX5_backplane wf_X5_10 dX5_waiting_1 ?_
  refine gX0_bus (by first | assumption | exact isB1 | exact isB18) wf_X5_82 dX5_waiting_4 ?_
  refine J_iload_n dX5_waiting_7 rfl rfl ?_
  refine cVi wv_X5_91 (c_X2_wordAtRank isB1 rfl) dX5_waiting_8 (ob2 (by first | assumption | exact isB1 | exact isB18)) rfl rfl (kk := ?_)
  refine J_istore_n dX5_waiting_11 rfl rfl rfl ?_
  refine J_iload_n dX5_waiting_12 rfl rfl ?_
  refine J_bipush (v := -6) dX5_waiting_13 (by decide) ?_
  refine J_icmp_ne (tgt := 22) dX5_waiting_15 (by decide) (fun h15 => absurd rfl h15) (fun h15 => ?_)
  refine J_iconst (v := -1) dX5_waiting_18 (by decide) ?_
  refine J_goto (tgt := 23) dX5_waiting_19 (by decide) ?_
  refine r_int dX5_waiting_23 ?_
  exact ⟨rfl, fun _ _ => rfl⟩

def knr (x : Int32) : Int32 := if jin x 0 99 = 0 then -2 else -6
set_option maxRecDepth 100000 in
set_option maxHeartbeats 4000000 in
theorem c_X5_known {X : jX} {ad : Nat → Nat} {x : Int32}  : Cm X yX5_known cX5_known 2 (some .int) 1 ad [.ref 0, .int x] mem0 (fun r9 m9 => r9 = some (.int (knr x)) ∧ Hi m9) := by
  refine Cm.of (own := RX5) (nm := "known") (by decide +kernel) rfl rfl rfl rfl ?_
  refine J_iload_n dX5_known_0 rfl rfl ?_
  refine J_iconst (v := 0) dX5_known_1 (by decide) ?_
  refine J_bipush (v := 99) dX5_known_2 (by decide) ?_
  refine cSi ws_X5_146 c_X5_isIn dX5_known_4 (kk := ?_)
  refine J_if_eq (tgt := 21) dX5_known_7 (by decide) (fun h7 => ?_) (fun h7 => ?_)
  · refine J_bipush (v := -2) dX5_known_21 (by decide) ?_
    refine r_int dX5_known_23 ?_
    exact ⟨by simp only [knr, *, reduceIte], fun _ _ => rfl⟩
  · refine J_aload_n dX5_known_10 rfl rfl ?_
    refine gX5_backplane wf_X5_10 dX5_known_11 ?_
    refine J_iload_n dX5_known_14 rfl rfl ?_
    refine cVi wv_X5_150 (c_X0_knownWithCode isB1 (fz0).1) dX5_known_15 (ob0 (by first | assumption | exact isB1 | exact isB18)) rfl rfl (kk := ?_)
    refine J_goto (tgt := 23) dX5_known_18 (by decide) ?_
    refine r_int dX5_known_23 ?_
    exact ⟨by simp only [knr, *, reduceIte], fun _ _ => rfl⟩

set_option maxRecDepth 100000 in
set_option maxHeartbeats 4000000 in
theorem c_X5_why {X : jX} {ad : Nat → Nat} {n k : Int32}  : Cm X yX5_why cX5_why 3 (some .int) 2 ad [.ref 0, .int n, .int k] mem0 (fun r9 m9 => r9 = some (.int (-1)) ∧ Hi m9) := by
  refine Cm.of (own := RX5) (nm := "why") (by decide +kernel) rfl rfl rfl rfl ?_
  refine J_aload_n dX5_why_0 rfl rfl ?_
  refine gX5_backplane wf_X5_10 dX5_why_1 ?_
  refine J_iload_n dX5_why_4 rfl rfl ?_
  refine J_iload_n dX5_why_5 rfl rfl ?_
  refine cVi wv_X5_153 (c_X0_whyNot isB1 (fz0).1) dX5_why_6 (ob0 (by first | assumption | exact isB1 | exact isB18)) rfl rfl (kk := ?_)
  refine r_int dX5_why_9 ?_
  exact ⟨rfl, fun _ _ => rfl⟩

set_option maxRecDepth 100000 in
set_option maxHeartbeats 4000000 in
theorem c_X5_knownIn {X : jX} {ad : Nat → Nat} {n : Int32}  : Cm X yX5_knownIn cX5_knownIn 3 (some .int) 5 ad [.ref 0, .int n] mem0 (fun r9 m9 => r9 = some (.int (-1)) ∧ Hi m9) := by
  refine Cm.of (own := RX5) (nm := "knownIn") (by decide +kernel) rfl rfl rfl rfl ?_
  refine J_aload_n dX5_knownIn_0 rfl rfl ?_
  refine gX5_backplane wf_X5_10 dX5_knownIn_1 ?_
  refine J_iload_n dX5_knownIn_4 rfl rfl ?_
  refine cVn wv_X5_156 (c_boardAtN isB1 (fz0).1) dX5_knownIn_5 (ob0 (by first | assumption | exact isB1 | exact isB18)) rfl rfl (kk := ?_)
  refine J_astore_nN dX5_knownIn_8 rfl rfl rfl ?_
  refine J_aload_nN dX5_knownIn_9 rfl rfl ?_
  refine J_ifnonnullN dX5_knownIn_10 ?_
  refine J_iconst (v := -1) dX5_knownIn_13 (by decide) ?_
  refine r_int dX5_knownIn_14 ?_
  exact ⟨rfl, fun _ _ => rfl⟩

set_option maxRecDepth 100000 in
set_option maxHeartbeats 4000000 in
theorem c_X5_wouldHurt {X : jX} {ad : Nat → Nat} {n s v : Int32}  : Cm X yX5_wouldHurt cX5_wouldHurt 5 (some .int) 6 ad [.ref 0, .int n, .int s, .int v] mem0 (fun r9 m9 => r9 = some (.int (-1)) ∧ Hi m9) := by
  refine Cm.of (own := RX5) (nm := "wouldHurt") (by decide +kernel) rfl rfl rfl rfl ?_
  refine J_aload_n dX5_wouldHurt_0 rfl rfl ?_
  refine gX5_backplane wf_X5_10 dX5_wouldHurt_1 ?_
  refine J_iload_n dX5_wouldHurt_4 rfl rfl ?_
  refine J_iload_n dX5_wouldHurt_5 rfl rfl ?_
  refine J_iload_n dX5_wouldHurt_6 rfl rfl ?_
  refine cVi wv_X5_171 (c_X0_inwardError isB1 (fz0).1) dX5_wouldHurt_7 (ob0 (by first | assumption | exact isB1 | exact isB18)) rfl rfl (kk := ?_)
  refine J_istore dX5_wouldHurt_10 rfl rfl ?_
  refine J_iload dX5_wouldHurt_12 rfl ?_
  refine J_if_ge (tgt := 22) dX5_wouldHurt_14 (by decide) (fun h14 => absurd h14 (by decide)) (fun h14 => ?_)
  refine J_iload dX5_wouldHurt_17 rfl ?_
  refine J_goto (tgt := 29) dX5_wouldHurt_19 (by decide) ?_
  refine r_int dX5_wouldHurt_29 ?_
  exact ⟨rfl, fun _ _ => rfl⟩

set_option maxRecDepth 100000 in
set_option maxHeartbeats 4000000 in
theorem c_X5_safeSpeed {X : jX} {ad : Nat → Nat} {n s : Int32}  : Cm X yX5_safeSpeed cX5_safeSpeed 5 (some .int) 6 ad [.ref 0, .int n, .int s] mem0 (fun r9 m9 => r9 = some (.int (-1)) ∧ Hi m9) := by
  refine Cm.of (own := RX5) (nm := "safeSpeed") (by decide +kernel) rfl rfl rfl rfl ?_
  refine J_aload_n dX5_safeSpeed_0 rfl rfl ?_
  refine gX5_backplane wf_X5_10 dX5_safeSpeed_1 ?_
  refine J_iload_n dX5_safeSpeed_4 rfl rfl ?_
  refine J_iload_n dX5_safeSpeed_5 rfl rfl ?_
  refine J_bipush (v := 24) dX5_safeSpeed_6 (by decide) ?_
  refine cVi wv_X5_171 (c_X0_inwardError isB1 (fz0).1) dX5_safeSpeed_8 (ob0 (by first | assumption | exact isB1 | exact isB18)) rfl rfl (kk := ?_)
  refine J_istore_n dX5_safeSpeed_11 rfl rfl rfl ?_
  refine J_iload_n dX5_safeSpeed_12 rfl rfl ?_
  refine J_if_ge (tgt := 18) dX5_safeSpeed_13 (by decide) (fun h13 => absurd h13 (by decide)) (fun h13 => ?_)
  refine J_iload_n dX5_safeSpeed_16 rfl rfl ?_
  refine r_int dX5_safeSpeed_17 ?_
  exact ⟨rfl, fun _ _ => rfl⟩

set_option maxRecDepth 100000 in
set_option maxHeartbeats 4000000 in
theorem c_X5_quietIn {X : jX} {ad : Nat → Nat}   : Cm X yX5_quietIn cX5_quietIn 1 (some .int) 5 ad [.ref 0] mem0 (fun r9 m9 => r9 = some (.int 0) ∧ Hi m9) := by
  refine Cm.of (own := RX5) (nm := "quietIn") (by decide +kernel) rfl rfl rfl rfl ?_
  refine J_aload_n dX5_quietIn_0 rfl rfl ?_
  refine gX5_trial wf_X5_16 dX5_quietIn_1 ?_
  refine J_aload_n dX5_quietIn_4 rfl rfl ?_
  refine gX5_backplane wf_X5_10 dX5_quietIn_5 ?_
  refine cVg wv_X5_165 (c_X0_copyFrom isB18 isB1 (by decide) fz0) dX5_quietIn_8 (ob0 (by first | assumption | exact isB1 | exact isB18)) rfl rfl (kk := (fun v m1 hf => ?_))
  obtain ⟨rfl, hO, hz⟩ := hf
  refine J_aload_n dX5_quietIn_11 rfl rfl ?_
  refine gX5_trial wf_X5_16 dX5_quietIn_12 ?_
  refine cVi wv_X5_177 (c_X0_ticksUntilQuiet isB18 hz.2.1 hz.2.2.1) dX5_quietIn_15 (ob0 (by first | assumption | exact isB1 | exact isB18)) rfl rfl (kk := ?_)
  refine r_int dX5_quietIn_18 ?_
  exact ⟨rfl, fun c hc => hO c (by omega)⟩

set_option maxRecDepth 100000 in
set_option maxHeartbeats 4000000 in
theorem c_X5_put {X : jX} {ad : Nat → Nat} {c : Int64}  : Cm X yX5_put cX5_put 3 (some .int) 3 ad [.ref 0, .long c] mem0 (fun r9 m9 => r9 = some (.int (ptr c)) ∧ Hi m9) := by
  refine Cm.of (own := RX5) (nm := "put") (by decide +kernel) rfl rfl rfl rfl ?_
  refine J_aload_n dX5_put_0 rfl rfl ?_
  refine gX5_pad wf_X5_29 dX5_put_1 ?_
  refine J_lload_n dX5_put_4 rfl rfl ?_
  refine cVg wv_X5_180 (c_X4_append rfl) dX5_put_5 ob4 rfl rfl (kk := (fun v m1 hf => ?_))
  obtain ⟨rfl, h3⟩ := hf
  refine r_int dX5_put_8 ?_
  exact ⟨rfl, fun c hc => h3 c (by omega) (by omega)⟩

set_option maxRecDepth 100000 in
set_option maxHeartbeats 4000000 in
theorem c_X5_wipe {X : jX} {ad : Nat → Nat}   : Cm X yX5_wipe cX5_wipe 1 (some .int) 1 ad [.ref 0] mem0 (fun r9 m9 => r9 = some (.int 0) ∧ Hi m9) := by
  refine Cm.of (own := RX5) (nm := "wipe") (by decide +kernel) rfl rfl rfl rfl ?_
  refine J_aload_n dX5_wipe_0 rfl rfl ?_
  refine gX5_pad wf_X5_29 dX5_wipe_1 ?_
  refine cVg wv_X5_184 c_X4_clear dX5_wipe_4 ob4 rfl rfl (kk := (fun v m1 hf => ?_))
  obtain ⟨rfl, h3⟩ := hf
  refine r_int dX5_wipe_7 ?_
  exact ⟨rfl, fun c hc => h3 c (by omega)⟩

set_option maxRecDepth 100000 in
set_option maxHeartbeats 4000000 in
theorem c_X5_fault {X : jX} {ad : Nat → Nat}  (had : ∀ k, ad (1000 + k) = jx X k) : Cm X yX5_fault cX5_fault 1 (some .int) 7 ad [.ref 0] mem0 (fun r9 m9 => r9 = some (.int 0) ∧ Hi m9) := by
  refine Cm.of (own := RX5) (nm := "fault") (by decide +kernel) rfl rfl rfl rfl ?_
  refine J_aload_n dX5_fault_0 rfl rfl ?_
  refine gX5_pad wf_X5_29 dX5_fault_1 ?_
  refine cVg wv_X5_187 (c_X4_faultPlace had rfl) dX5_fault_4 ob4 rfl rfl (kk := (fun v m1 hf => ?_))
  obtain ⟨rfl, h3⟩ := hf
  refine r_int dX5_fault_7 ?_
  exact ⟨rfl, fun c hc => h3 c (by omega)⟩

set_option maxRecDepth 100000 in
set_option maxHeartbeats 4000000 in
theorem c_X5_carryOut {X : jX} {ad : Nat → Nat}  (had : ∀ k, ad (1000 + k) = jx X k) : Cm X yX5_carryOut cX5_carryOut 2 (some .int) 7 ad [.ref 0] mem0 (fun r9 m9 => r9 = some (.int (-3)) ∧ Hi m9) := by
  refine Cm.of (own := RX5) (nm := "carryOut") (by decide +kernel) rfl rfl rfl rfl ?_
  refine J_aload_n dX5_carryOut_0 rfl rfl ?_
  refine gX5_pad wf_X5_29 dX5_carryOut_1 ?_
  refine cVg wv_X5_187 (c_X4_faultPlace had rfl) dX5_carryOut_4 ob4 rfl rfl (kk := (fun v m1 hf => ?_))
  obtain ⟨rfl, h3⟩ := hf
  refine J_bipush (v := -6) dX5_carryOut_7 (by decide) ?_
  refine J_icmp_eq (tgt := 15) dX5_carryOut_9 (by decide) (fun h9 => absurd h9 (by decide)) (fun h9 => ?_)
  refine J_bipush (v := -3) dX5_carryOut_12 (by decide) ?_
  refine r_int dX5_carryOut_14 ?_
  exact ⟨rfl, fun c hc => h3 c (by omega)⟩

set_option maxRecDepth 100000 in
set_option maxHeartbeats 4000000 in
theorem c_X5_undo {X : jX} {ad : Nat → Nat}   : Cm X yX5_undo cX5_undo 1 (some .int) 4 ad [.ref 0] mem0 (fun r9 m9 => r9 = some (.int (-5)) ∧ Hi m9) := by
  refine Cm.of (own := RX5) (nm := "undo") (by decide +kernel) rfl rfl rfl rfl ?_
  refine J_aload_n dX5_undo_0 rfl rfl ?_
  refine gX5_history wf_X5_22 dX5_undo_1 ?_
  refine J_aload_n dX5_undo_4 rfl rfl ?_
  refine gX5_backplane wf_X5_10 dX5_undo_5 ?_
  refine cVi wv_X5_202 (c_X3_takeBack rfl) dX5_undo_8 ob3 rfl rfl (kk := ?_)
  refine r_int dX5_undo_11 ?_
  exact ⟨rfl, fun _ _ => rfl⟩

def svr (s : Int32) : Int32 := if jin s 0 1 = 0 then -2 else 0
def rsr (s : Int32) : Int32 := if jin s 0 1 = 0 then -2 else -5
theorem jin1 {s : Int32} (h : ¬ jin s 0 1 = 0) : ∃ k, k < 2 ∧ s = nI k := by
  obtain ⟨k, hk, e⟩ := jin_nat (n := 1) (by decide) rfl h
  exact ⟨k, by omega, e⟩
theorem isBs0 {k : Nat} (h : k < 2) : isB (154 + 17 * k) := isBs h
set_option maxRecDepth 100000 in
set_option maxHeartbeats 4000000 in
theorem c_X5_save {X : jX} {ad : Nat → Nat} {s : Int32}  : Cm X yX5_save cX5_save 2 (some .int) 3 ad [.ref 0, .int s] mem0 (fun r9 m9 => r9 = some (.int (svr s)) ∧ Hi m9) := by
  refine Cm.of (own := RX5) (nm := "save") (by decide +kernel) rfl rfl rfl rfl ?_
  refine J_iload_n dX5_save_0 rfl rfl ?_
  refine J_iconst (v := 0) dX5_save_1 (by decide) ?_
  refine J_iconst (v := 1) dX5_save_2 (by decide) ?_
  refine cSi ws_X5_146 c_X5_isIn dX5_save_3 (kk := ?_)
  refine J_if_ne (tgt := 12) dX5_save_6 (by decide) (fun h6 => ?_) (fun h6 => ?_)
  · have h6c := h6
    obtain ⟨k, hk, rfl⟩ := jin1 h6
    refine J_aload_n dX5_save_12 rfl rfl ?_
    refine gX5_saved wf_X5_33 dX5_save_13 ?_
    refine J_iload_n dX5_save_16 rfl rfl ?_
    refine al_savedB (nI_clamp (by omega)) dX5_save_17 (nIin hk (by decide)) ?_
    refine J_aload_n dX5_save_18 rfl rfl ?_
    refine gX5_backplane wf_X5_10 dX5_save_19 ?_
    refine cVg wv_X5_165 (c_X0_copyFrom (isBs hk) isB1 (by omega) fz0) dX5_save_22 (ob0 (by first | assumption | exact isB1 | exact isBs hk)) rfl rfl (kk := (fun v m1 hf => ?_))
    obtain ⟨rfl, hO, hz⟩ := hf
    refine J_aload_n dX5_save_25 rfl rfl ?_
    refine gX5_isSaved wf_X5_37 dX5_save_26 ?_
    refine J_iload_n dX5_save_29 rfl rfl ?_
    refine J_iconst (v := 1) dX5_save_30 (by decide) ?_
    refine as_saved dX5_save_31 (nIin hk (by decide)) ?_
    refine J_aload_n dX5_save_32 rfl rfl ?_
    refine gX5_backplane wf_X5_10 dX5_save_33 ?_
    refine gX0_boardCount (by first | assumption | exact isB1 | exact isBs hk) wf_X5_206 dX5_save_36 ?_
    refine r_int dX5_save_39 ?_
    have e : svr (nI k) = 0 := by simp only [svr, if_neg h6c]
    refine ⟨?_, fun c hc => by rw [up_ne (by omega), hO c (by omega)]⟩
    rw [e, up_ne (by decide), hO 1 (by omega)]
    exact rfl
  · refine J_bipush (v := -2) dX5_save_9 (by decide) ?_
    refine r_int dX5_save_11 ?_
    exact ⟨by simp only [svr, *, reduceIte], fun _ _ => rfl⟩

set_option maxRecDepth 100000 in
set_option maxHeartbeats 4000000 in
theorem c_X5_restore {X : jX} {ad : Nat → Nat} {s : Int32}  : Cm X yX5_restore cX5_restore 2 (some .int) 4 ad [.ref 0, .int s] mem0 (fun r9 m9 => r9 = some (.int (rsr s)) ∧ Hi m9) := by
  refine Cm.of (own := RX5) (nm := "restore") (by decide +kernel) rfl rfl rfl rfl ?_
  refine J_iload_n dX5_restore_0 rfl rfl ?_
  refine J_iconst (v := 0) dX5_restore_1 (by decide) ?_
  refine J_iconst (v := 1) dX5_restore_2 (by decide) ?_
  refine cSi ws_X5_146 c_X5_isIn dX5_restore_3 (kk := ?_)
  refine J_if_ne (tgt := 12) dX5_restore_6 (by decide) (fun h6 => ?_) (fun h6 => ?_)
  · have h6c := h6
    obtain ⟨k, hk, rfl⟩ := jin1 h6
    refine J_aload_n dX5_restore_12 rfl rfl ?_
    refine gX5_isSaved wf_X5_37 dX5_restore_13 ?_
    refine J_iload_n dX5_restore_16 rfl rfl ?_
    refine al_saved dX5_restore_17 (nIin hk (by decide)) ?_
    refine J_if_ne (tgt := 24) dX5_restore_18 (by decide) (fun h18 => absurd rfl h18) (fun h18 => ?_)
    refine J_bipush (v := -5) dX5_restore_21 (by decide) ?_
    refine r_int dX5_restore_23 ?_
    exact ⟨by simp only [rsr, if_neg h6c], fun _ _ => rfl⟩
  · refine J_bipush (v := -2) dX5_restore_9 (by decide) ?_
    refine r_int dX5_restore_11 ?_
    exact ⟨by simp only [rsr, *, reduceIte], fun _ _ => rfl⟩

def cnr (w : Int32) : Int32 := if w.toInt < 0 ∨ 19 < w.toInt then -2 else [0, 0, 0, 0, 0, 0, 0, -6, 0, 0, 0, 0, 0, 1, 20, 3, 2, 120, 0, 0].getD w.toNatClampNeg 0
set_option maxRecDepth 100000 in
set_option maxHeartbeats 4000000 in
theorem c_X5_count {X : jX} {ad : Nat → Nat} {w : Int32}  : Cm X yX5_count cX5_count 2 (some .int) 3 ad [.ref 0, .int w] mem0 (fun r9 m9 => r9 = some (.int (cnr w)) ∧ Hi m9) := by
  refine Cm.of (own := RX5) (nm := "count") (by decide +kernel) rfl rfl rfl rfl ?_
  refine J_iload_n dX5_count_0 rfl rfl ?_
  by_cases hts : w.toInt < 0 ∨ 19 < w.toInt
  · refine J_tableOut (tgt := 289) dX5_count_1 hts (by decide) ?_
    refine J_bipush (v := -2) dX5_count_289 (by decide) ?_
    refine r_int dX5_count_291 ?_
    exact ⟨by rw [cnr, if_pos hts], fun _ _ => rfl⟩
  · obtain ⟨k, hk, rfl⟩ := tin (n := 20) (m := 19) rfl hts
    match k, hk with
    | 0, _ =>
      refine J_tableIn (off := 95) (tgt := 96) dX5_count_1 (by decide) (by decide) (by decide) (by decide) ?_
      refine J_aload_n dX5_count_96 rfl rfl ?_
      refine gX5_backplane wf_X5_10 dX5_count_97 ?_
      refine gX0_time (by first | assumption | exact isB1 | exact isB18) wf_X5_94 dX5_count_100 ?_
      refine r_int dX5_count_103 ?_
      exact ⟨rfl, fun _ _ => rfl⟩
    | 1, _ =>
      refine J_tableIn (off := 103) (tgt := 104) dX5_count_1 (by decide) (by decide) (by decide) (by decide) ?_
      refine J_aload_n dX5_count_104 rfl rfl ?_
      refine gX5_backplane wf_X5_10 dX5_count_105 ?_
      refine cVi wv_X5_98 (c_X0_boardSet isB1 (fz0).1) dX5_count_108 (ob0 (by first | assumption | exact isB1 | exact isB18)) rfl rfl (kk := ?_)
      refine r_int dX5_count_111 ?_
      exact ⟨rfl, fun _ _ => rfl⟩
    | 2, _ =>
      refine J_tableIn (off := 111) (tgt := 112) dX5_count_1 (by decide) (by decide) (by decide) (by decide) ?_
      refine J_aload_n dX5_count_112 rfl rfl ?_
      refine gX5_backplane wf_X5_10 dX5_count_113 ?_
      refine cVi wv_X5_102 (c_X0_pluggedSet isB1 (fz0).1) dX5_count_116 (ob0 (by first | assumption | exact isB1 | exact isB18)) rfl rfl (kk := ?_)
      refine r_int dX5_count_119 ?_
      exact ⟨rfl, fun _ _ => rfl⟩
    | 3, _ =>
      refine J_tableIn (off := 119) (tgt := 120) dX5_count_1 (by decide) (by decide) (by decide) (by decide) ?_
      refine J_aload_n dX5_count_120 rfl rfl ?_
      refine gX5_backplane wf_X5_10 dX5_count_121 ?_
      refine cVi wv_X5_105 (c_X0_knownSet isB1 (fz0).1) dX5_count_124 (ob0 (by first | assumption | exact isB1 | exact isB18)) rfl rfl (kk := ?_)
      refine r_int dX5_count_127 ?_
      exact ⟨rfl, fun _ _ => rfl⟩
    | 4, _ =>
      refine J_tableIn (off := 127) (tgt := 128) dX5_count_1 (by decide) (by decide) (by decide) (by decide) ?_
      refine J_aload_n dX5_count_128 rfl rfl ?_
      refine gX5_backplane wf_X5_10 dX5_count_129 ?_
      refine gX0_bus (by first | assumption | exact isB1 | exact isB18) wf_X5_82 dX5_count_132 ?_
      refine gX2_sent (by first | assumption | exact isB1 | exact isB18) wf_X5_108 dX5_count_135 ?_
      refine r_int dX5_count_138 ?_
      exact ⟨rfl, fun _ _ => rfl⟩
    | 5, _ =>
      refine J_tableIn (off := 138) (tgt := 139) dX5_count_1 (by decide) (by decide) (by decide) (by decide) ?_
      refine J_aload_n dX5_count_139 rfl rfl ?_
      refine gX5_backplane wf_X5_10 dX5_count_140 ?_
      refine gX0_bus (by first | assumption | exact isB1 | exact isB18) wf_X5_82 dX5_count_143 ?_
      refine gX2_delivered (by first | assumption | exact isB1 | exact isB18) wf_X5_111 dX5_count_146 ?_
      refine r_int dX5_count_149 ?_
      exact ⟨rfl, fun _ _ => rfl⟩
    | 6, _ =>
      refine J_tableIn (off := 149) (tgt := 150) dX5_count_1 (by decide) (by decide) (by decide) (by decide) ?_
      refine J_aload_n dX5_count_150 rfl rfl ?_
      refine gX5_backplane wf_X5_10 dX5_count_151 ?_
      refine gX0_bus (by first | assumption | exact isB1 | exact isB18) wf_X5_82 dX5_count_154 ?_
      refine gX2_lost (by first | assumption | exact isB1 | exact isB18) wf_X5_114 dX5_count_157 ?_
      refine r_int dX5_count_160 ?_
      exact ⟨rfl, fun _ _ => rfl⟩
    | 7, _ =>
      refine J_tableIn (off := 160) (tgt := 161) dX5_count_1 (by decide) (by decide) (by decide) (by decide) ?_
      refine J_aload_n dX5_count_161 rfl rfl ?_
      refine gX5_backplane wf_X5_10 dX5_count_162 ?_
      refine gX0_bus (by first | assumption | exact isB1 | exact isB18) wf_X5_82 dX5_count_165 ?_
      refine gX2_onBus (by first | assumption | exact isB1 | exact isB18) wf_X5_117 dX5_count_168 ?_
      refine r_int dX5_count_171 ?_
      exact ⟨rfl, fun _ _ => rfl⟩
    | 8, _ =>
      refine J_tableIn (off := 171) (tgt := 172) dX5_count_1 (by decide) (by decide) (by decide) (by decide) ?_
      refine J_aload_n dX5_count_172 rfl rfl ?_
      refine gX5_backplane wf_X5_10 dX5_count_173 ?_
      refine cVi wv_X5_120 (c_X0_isHeld isB1 (fz0).1) dX5_count_176 (ob0 (by first | assumption | exact isB1 | exact isB18)) rfl rfl (kk := ?_)
      refine J_if_eq (tgt := 186) dX5_count_179 (by decide) (fun h179 => ?_) (fun h179 => absurd rfl h179)
      refine J_iconst (v := 0) dX5_count_186 (by decide) ?_
      refine r_int dX5_count_187 ?_
      exact ⟨rfl, fun _ _ => rfl⟩
    | 9, _ =>
      refine J_tableIn (off := 187) (tgt := 188) dX5_count_1 (by decide) (by decide) (by decide) (by decide) ?_
      refine J_aload_n dX5_count_188 rfl rfl ?_
      refine gX5_backplane wf_X5_10 dX5_count_189 ?_
      refine cVi wv_X5_124 (c_X0_drawn isB1 (fz0).1) dX5_count_192 (ob0 (by first | assumption | exact isB1 | exact isB18)) rfl rfl (kk := ?_)
      refine r_int dX5_count_195 ?_
      exact ⟨rfl, fun _ _ => rfl⟩
    | 10, _ =>
      refine J_tableIn (off := 195) (tgt := 196) dX5_count_1 (by decide) (by decide) (by decide) (by decide) ?_
      refine J_aload_n dX5_count_196 rfl rfl ?_
      refine gX5_backplane wf_X5_10 dX5_count_197 ?_
      refine gX0_plugs (by first | assumption | exact isB1 | exact isB18) wf_X5_127 dX5_count_200 ?_
      refine r_int dX5_count_203 ?_
      exact ⟨rfl, fun _ _ => rfl⟩
    | 11, _ =>
      refine J_tableIn (off := 203) (tgt := 204) dX5_count_1 (by decide) (by decide) (by decide) (by decide) ?_
      refine J_aload_n dX5_count_204 rfl rfl ?_
      refine gX5_backplane wf_X5_10 dX5_count_205 ?_
      refine gX0_bus (by first | assumption | exact isB1 | exact isB18) wf_X5_82 dX5_count_208 ?_
      refine gX2_hurtSoFar (by first | assumption | exact isB1 | exact isB18) wf_X5_130 dX5_count_211 ?_
      refine r_int dX5_count_214 ?_
      exact ⟨rfl, fun _ _ => rfl⟩
    | 12, _ =>
      refine J_tableIn (off := 214) (tgt := 215) dX5_count_1 (by decide) (by decide) (by decide) (by decide) ?_
      refine J_aload_n dX5_count_215 rfl rfl ?_
      refine gX5_backplane wf_X5_10 dX5_count_216 ?_
      refine cVi wv_X5_133 (c_X0_pulledTooSoon isB1 (fz0).1) dX5_count_219 (ob0 (by first | assumption | exact isB1 | exact isB18)) rfl rfl (kk := ?_)
      refine r_int dX5_count_222 ?_
      exact ⟨rfl, fun _ _ => rfl⟩
    | 13, _ =>
      refine J_tableIn (off := 222) (tgt := 223) dX5_count_1 (by decide) (by decide) (by decide) (by decide) ?_
      refine J_aload_n dX5_count_223 rfl rfl ?_
      refine gX5_backplane wf_X5_10 dX5_count_224 ?_
      refine gX0_settings (by first | assumption | exact isB1 | exact isB18) wf_X5_136 dX5_count_227 ?_
      refine J_iconst (v := 0) dX5_count_230 (by decide) ?_
      refine al_set isB1 dX5_count_231 (nIin (k := 0) (by decide) (by decide)) ?_
      refine r_int dX5_count_232 ?_
      exact ⟨rfl, fun _ _ => rfl⟩
    | 14, _ =>
      refine J_tableIn (off := 232) (tgt := 233) dX5_count_1 (by decide) (by decide) (by decide) (by decide) ?_
      refine J_aload_n dX5_count_233 rfl rfl ?_
      refine gX5_backplane wf_X5_10 dX5_count_234 ?_
      refine gX0_settings (by first | assumption | exact isB1 | exact isB18) wf_X5_136 dX5_count_237 ?_
      refine J_iconst (v := 1) dX5_count_240 (by decide) ?_
      refine al_set isB1 dX5_count_241 (nIin (k := 1) (by decide) (by decide)) ?_
      refine r_int dX5_count_242 ?_
      exact ⟨rfl, fun _ _ => rfl⟩
    | 15, _ =>
      refine J_tableIn (off := 242) (tgt := 243) dX5_count_1 (by decide) (by decide) (by decide) (by decide) ?_
      refine J_aload_n dX5_count_243 rfl rfl ?_
      refine gX5_backplane wf_X5_10 dX5_count_244 ?_
      refine gX0_settings (by first | assumption | exact isB1 | exact isB18) wf_X5_136 dX5_count_247 ?_
      refine J_iconst (v := 2) dX5_count_250 (by decide) ?_
      refine al_set isB1 dX5_count_251 (nIin (k := 2) (by decide) (by decide)) ?_
      refine r_int dX5_count_252 ?_
      exact ⟨rfl, fun _ _ => rfl⟩
    | 16, _ =>
      refine J_tableIn (off := 252) (tgt := 253) dX5_count_1 (by decide) (by decide) (by decide) (by decide) ?_
      refine J_aload_n dX5_count_253 rfl rfl ?_
      refine gX5_backplane wf_X5_10 dX5_count_254 ?_
      refine gX0_settings (by first | assumption | exact isB1 | exact isB18) wf_X5_136 dX5_count_257 ?_
      refine J_iconst (v := 3) dX5_count_260 (by decide) ?_
      refine al_set isB1 dX5_count_261 (nIin (k := 3) (by decide) (by decide)) ?_
      refine r_int dX5_count_262 ?_
      exact ⟨rfl, fun _ _ => rfl⟩
    | 17, _ =>
      refine J_tableIn (off := 262) (tgt := 263) dX5_count_1 (by decide) (by decide) (by decide) (by decide) ?_
      refine J_aload_n dX5_count_263 rfl rfl ?_
      refine gX5_backplane wf_X5_10 dX5_count_264 ?_
      refine gX0_settings (by first | assumption | exact isB1 | exact isB18) wf_X5_136 dX5_count_267 ?_
      refine J_iconst (v := 4) dX5_count_270 (by decide) ?_
      refine al_set isB1 dX5_count_271 (nIin (k := 4) (by decide) (by decide)) ?_
      refine r_int dX5_count_272 ?_
      exact ⟨rfl, fun _ _ => rfl⟩
    | 18, _ =>
      refine J_tableIn (off := 272) (tgt := 273) dX5_count_1 (by decide) (by decide) (by decide) (by decide) ?_
      refine J_aload_n dX5_count_273 rfl rfl ?_
      refine gX5_pad wf_X5_29 dX5_count_274 ?_
      refine gX4_length wf_X5_140 dX5_count_277 ?_
      refine r_int dX5_count_280 ?_
      exact ⟨rfl, fun _ _ => rfl⟩
    | 19, _ =>
      refine J_tableIn (off := 280) (tgt := 281) dX5_count_1 (by decide) (by decide) (by decide) (by decide) ?_
      refine J_aload_n dX5_count_281 rfl rfl ?_
      refine gX5_history wf_X5_22 dX5_count_282 ?_
      refine gX3_size wf_X5_143 dX5_count_285 ?_
      refine r_int dX5_count_288 ?_
      exact ⟨rfl, fun _ _ => rfl⟩
    | k + 20, hk => exact absurd hk (by omega)

