theorem chgM0 {m : Mem} (h : m 196 = mem0 196) {s v : Int32} : chgM m s v = chgM mem0 s v := by
  unfold chgM
  rw [h]
set_option maxRecDepth 100000 in
set_option maxHeartbeats 4000000 in
theorem c_X6_set {X : jX} {ad : Nat → Nat} {mem : Mem} {s v : Int32} (e5 : mem 195 = mem0 195) (e6 : mem 196 = mem0 196) : Cm X yX6_set cX6_set 4 (some .int) 2 ad [.ref 195, .int s, .int v] mem (fun r9 _ => r9 = some (.int (chgM mem0 s v))) := by
  refine Cm.of (own := RX6) (nm := "set") (by decide +kernel) rfl rfl rfl rfl ?_
  refine J_aload_n dX6_set_0 rfl rfl ?_
  refine cVg wv_X6_102 c_X6_putAside dX6_set_1 ob6 rfl rfl (kk := (fun v m1 hf => ?_))
  obtain ⟨rfl, hO⟩ := hf
  refine J_iload_n dX6_set_4 rfl rfl ?_
  refine J_iconst (v := 0) dX6_set_5 (by decide) ?_
  refine J_iconst (v := 4) dX6_set_6 (by decide) ?_
  refine cSi ws_X6_25 c_X6_in dX6_set_7 (kk := ?_)
  refine J_if_eq (tgt := 28) dX6_set_10 (by decide) (fun h10 => ?_) (fun h10 => ?_)
  · refine J_bipush (v := -2) dX6_set_28 (by decide) ?_
    refine r_int dX6_set_30 ?_
    exact (by rw [← chgM0 ((hO 196 (by decide)).trans e6)]; simp only [chgM, *, reduceIte])
  · refine J_iload_n dX6_set_13 rfl rfl ?_
    refine J_iload_n dX6_set_14 rfl rfl ?_
    refine cSi ws_X6_105 c_X6_least dX6_set_15 (kk := ?_)
    refine J_iload_n dX6_set_18 rfl rfl ?_
    refine cSi ws_X6_108 c_X6_most dX6_set_19 (kk := ?_)
    refine cSi ws_X6_25 c_X6_in dX6_set_22 (kk := ?_)
    refine J_if_ne (tgt := 31) dX6_set_25 (by decide) (fun h25 => ?_) (fun h25 => ?_)
    · refine J_aload_n dX6_set_31 rfl rfl ?_
      refine gX6_s wf_X6_7 dX6_set_32 ?_
      refine J_iload_n dX6_set_35 rfl rfl ?_
      refine al_ms dX6_set_36 (jin_in302 h10) ?_
      refine J_istore_n dX6_set_37 rfl rfl rfl ?_
      refine J_aload_n dX6_set_38 rfl rfl ?_
      refine gX6_s wf_X6_7 dX6_set_39 ?_
      refine J_iload_n dX6_set_42 rfl rfl ?_
      refine J_iload_n dX6_set_43 rfl rfl ?_
      refine as_ms dX6_set_44 (jin_in302 h10) ?_
      refine J_aload_n dX6_set_45 rfl rfl ?_
      refine J_iload_n dX6_set_46 rfl rfl ?_
      refine cVg wv_X6_111 (c_X6_changed (by rw [up_ne (by decide), hO 195 (by decide), e5]; rfl)) dX6_set_47 ob6 rfl rfl (kk := (fun v m3 hf => ?_))
      subst hf
      refine r_int dX6_set_50 ?_
      exact (by rw [← chgM0 ((hO 196 (by decide)).trans e6)]; simp only [chgM, if_neg h10, if_neg h25])
    · refine J_bipush (v := -2) dX6_set_28 (by decide) ?_
      refine r_int dX6_set_30 ?_
      exact (by rw [← chgM0 ((hO 196 (by decide)).trans e6)]; simp only [chgM, *, reduceIte])

set_option maxRecDepth 100000 in
set_option maxHeartbeats 4000000 in
theorem c_X6_board {X : jX} {ad : Nat → Nat} {mem : Mem} {x y : Int32} (e5 : mem 195 = mem0 195) (e6 : mem 196 = mem0 196) : Cm X yX6_board cX6_board 3 (some .int) 2 ad [.ref 195, .int x, .int y] mem (fun r9 _ => r9 = some (.int (addr x y))) := by
  refine Cm.of (own := RX6) (nm := "board") (by decide +kernel) rfl rfl rfl rfl ?_
  refine J_aload_n dX6_board_0 rfl rfl ?_
  refine cVg wv_X6_102 c_X6_putAside dX6_board_1 ob6 rfl rfl (kk := (fun v m1 hf => ?_))
  obtain ⟨rfl, hO⟩ := hf
  refine J_aload_n dX6_board_4 rfl rfl ?_
  refine J_aload_n dX6_board_5 rfl rfl ?_
  refine J_iload_n dX6_board_6 rfl rfl ?_
  refine J_iload_n dX6_board_7 rfl rfl ?_
  refine cVg wv_X6_114 (c_X6_comes (by rw [hO 196 (by decide), e6]; rfl)) dX6_board_8 ob6 rfl rfl (kk := (fun v m2 hf => ?_))
  obtain ⟨rfl, hO2⟩ := hf
  refine cVg wv_X6_111 (c_X6_changed (by rw [hO2 195 (by decide), hO 195 (by decide), e5]; rfl)) dX6_board_11 ob6 rfl rfl (kk := (fun v m3 hf => ?_))
  subst hf
  refine r_int dX6_board_14 ?_
  exact rfl

set_option maxRecDepth 100000 in
set_option maxHeartbeats 4000000 in
theorem c_X6_pass {X : jX} {ad : Nat → Nat} {mem : Mem} {t : Int32} (e5 : mem 195 = mem0 195) (e6 : mem 196 = mem0 196) : Cm X yX6_pass cX6_pass 2 (some .int) 7 ad [.ref 195, .int t] mem (fun r9 _ => r9 = some (.int (pas t))) := by
  refine Cm.of (own := RX6) (nm := "pass") (by decide +kernel) rfl rfl rfl rfl ?_
  refine J_aload_n dX6_pass_0 rfl rfl ?_
  refine cVg wv_X6_102 c_X6_putAside dX6_pass_1 ob6 rfl rfl (kk := (fun v m1 hf => ?_))
  obtain ⟨rfl, hO⟩ := hf
  refine J_aload_n dX6_pass_4 rfl rfl ?_
  refine J_aload_n dX6_pass_5 rfl rfl ?_
  refine J_iload_n dX6_pass_6 rfl rfl ?_
  refine cVg wv_X6_142 (c_X6_passes (show Fm m1 from ⟨by rw [hO 196 (by decide), e6]; rfl, by rw [hO 196 (by decide), e6]; rfl, by rw [hO 196 (by decide), e6]; rfl⟩) (by rw [hO 196 (by decide), e6]; rfl)) dX6_pass_7 ob6 rfl rfl (kk := (fun v m2 hf => ?_))
  obtain ⟨rfl, hO2⟩ := hf
  refine cVg wv_X6_111 (c_X6_changed (by rw [hO2 195 (by decide), hO 195 (by decide), e5]; rfl)) dX6_pass_10 ob6 rfl rfl (kk := (fun v m3 hf => ?_))
  subst hf
  refine r_int dX6_pass_13 ?_
  exact rfl

set_option maxRecDepth 100000 in
set_option maxHeartbeats 4000000 in
theorem c_X6_plug {X : jX} {ad : Nat → Nat} {mem : Mem} {n s v : Int32} (e5 : mem 195 = mem0 195) (e6 : mem 196 = mem0 196) : Cm X yX6_plug cX6_plug 4 (some .int) 3 ad [.ref 195, .int n, .int s, .int v] mem (fun r9 _ => r9 = some (.int (-1))) := by
  refine Cm.of (own := RX6) (nm := "plug") (by decide +kernel) rfl rfl rfl rfl ?_
  refine J_aload_n dX6_plug_0 rfl rfl ?_
  refine cVg wv_X6_102 c_X6_putAside dX6_plug_1 ob6 rfl rfl (kk := (fun v m1 hf => ?_))
  obtain ⟨rfl, hO⟩ := hf
  refine J_aload_n dX6_plug_4 rfl rfl ?_
  refine J_aload_n dX6_plug_5 rfl rfl ?_
  refine J_iload_n dX6_plug_6 rfl rfl ?_
  refine J_iload_n dX6_plug_7 rfl rfl ?_
  refine J_iload_n dX6_plug_8 rfl rfl ?_
  refine cVi wv_X6_123 (c_X6_plugs (by rw [hO 196 (by decide), e6]; rfl)) dX6_plug_9 ob6 rfl rfl (kk := ?_)
  refine cVg wv_X6_111 (c_X6_changed (by rw [hO 195 (by decide), e5]; rfl)) dX6_plug_12 ob6 rfl rfl (kk := (fun v m3 hf => ?_))
  subst hf
  refine r_int dX6_plug_15 ?_
  exact rfl

set_option maxRecDepth 100000 in
set_option maxHeartbeats 4000000 in
theorem c_X6_pull {X : jX} {ad : Nat → Nat} {mem : Mem} {n v : Int32} (e5 : mem 195 = mem0 195) (e6 : mem 196 = mem0 196) : Cm X yX6_pull cX6_pull 3 (some .int) 3 ad [.ref 195, .int n, .int v] mem (fun r9 _ => r9 = some (.int (-1))) := by
  refine Cm.of (own := RX6) (nm := "pull") (by decide +kernel) rfl rfl rfl rfl ?_
  refine J_aload_n dX6_pull_0 rfl rfl ?_
  refine cVg wv_X6_102 c_X6_putAside dX6_pull_1 ob6 rfl rfl (kk := (fun v m1 hf => ?_))
  obtain ⟨rfl, hO⟩ := hf
  refine J_aload_n dX6_pull_4 rfl rfl ?_
  refine J_aload_n dX6_pull_5 rfl rfl ?_
  refine J_iload_n dX6_pull_6 rfl rfl ?_
  refine J_iload_n dX6_pull_7 rfl rfl ?_
  refine cVi wv_X6_127 (c_X6_pulls (by rw [hO 196 (by decide), e6]; rfl)) dX6_pull_8 ob6 rfl rfl (kk := ?_)
  refine cVg wv_X6_111 (c_X6_changed (by rw [hO 195 (by decide), e5]; rfl)) dX6_pull_11 ob6 rfl rfl (kk := (fun v m3 hf => ?_))
  subst hf
  refine r_int dX6_pull_14 ?_
  exact rfl

set_option maxRecDepth 100000 in
set_option maxHeartbeats 4000000 in
theorem c_X6_ask {X : jX} {ad : Nat → Nat} {mem : Mem} {n : Int32} (e5 : mem 195 = mem0 195) (e6 : mem 196 = mem0 196) : Cm X yX6_ask cX6_ask 2 (some .int) 4 ad [.ref 195, .int n] mem (fun r9 _ => r9 = some (.int (-1))) := by
  refine Cm.of (own := RX6) (nm := "ask") (by decide +kernel) rfl rfl rfl rfl ?_
  refine J_aload_n dX6_ask_0 rfl rfl ?_
  refine cVg wv_X6_102 c_X6_putAside dX6_ask_1 ob6 rfl rfl (kk := (fun v m1 hf => ?_))
  obtain ⟨rfl, hO⟩ := hf
  refine J_aload_n dX6_ask_4 rfl rfl ?_
  refine J_aload_n dX6_ask_5 rfl rfl ?_
  refine J_iload_n dX6_ask_6 rfl rfl ?_
  refine cVi wv_X6_133 (c_X6_asks (by rw [hO 196 (by decide), e6]; rfl)) dX6_ask_7 ob6 rfl rfl (kk := ?_)
  refine cVg wv_X6_111 (c_X6_changed (by rw [hO 195 (by decide), e5]; rfl)) dX6_ask_10 ob6 rfl rfl (kk := (fun v m3 hf => ?_))
  subst hf
  refine r_int dX6_ask_13 ?_
  exact rfl

set_option maxRecDepth 100000 in
set_option maxHeartbeats 4000000 in
theorem c_X6_send {X : jX} {ad : Nat → Nat} {mem : Mem} {n k : Int32} (e5 : mem 195 = mem0 195) (e6 : mem 196 = mem0 196) : Cm X yX6_send cX6_send 3 (some .int) 4 ad [.ref 195, .int n, .int k] mem (fun r9 _ => r9 = some (.int (-1))) := by
  refine Cm.of (own := RX6) (nm := "send") (by decide +kernel) rfl rfl rfl rfl ?_
  refine J_aload_n dX6_send_0 rfl rfl ?_
  refine cVg wv_X6_102 c_X6_putAside dX6_send_1 ob6 rfl rfl (kk := (fun v m1 hf => ?_))
  obtain ⟨rfl, hO⟩ := hf
  refine J_aload_n dX6_send_4 rfl rfl ?_
  refine J_aload_n dX6_send_5 rfl rfl ?_
  refine J_iload_n dX6_send_6 rfl rfl ?_
  refine J_iload_n dX6_send_7 rfl rfl ?_
  refine cVi wv_X6_139 (c_X6_sends (by rw [hO 196 (by decide), e6]; rfl)) dX6_send_8 ob6 rfl rfl (kk := ?_)
  refine cVg wv_X6_111 (c_X6_changed (by rw [hO 195 (by decide), e5]; rfl)) dX6_send_11 ob6 rfl rfl (kk := (fun v m3 hf => ?_))
  subst hf
  refine r_int dX6_send_14 ?_
  exact rfl

set_option maxRecDepth 100000 in
set_option maxHeartbeats 4000000 in
theorem c_X6_of {X : jX} {ad : Nat → Nat} {mem : Mem} {n k : Int32} (e5 : mem 195 = mem0 195) (e6 : mem 196 = mem0 196) : Cm X yX6_of cX6_of 3 (some .int) 2 ad [.ref 195, .int n, .int k] mem (fun r9 _ => r9 = some (.int (-1))) := by
  refine Cm.of (own := RX6) (nm := "of") (by decide +kernel) rfl rfl rfl rfl ?_
  refine J_aload_n dX6_of_0 rfl rfl ?_
  refine J_iload_n dX6_of_1 rfl rfl ?_
  refine cVi wv_X6_117 (c_X6_isBoard (by rw [e6]; rfl)) dX6_of_2 ob6 rfl rfl (kk := ?_)
  refine J_if_ne (tgt := 10) dX6_of_5 (by decide) (fun h5 => absurd rfl h5) (fun h5 => ?_)
  refine J_iconst (v := -1) dX6_of_8 (by decide) ?_
  refine r_int dX6_of_9 ?_
  exact rfl

set_option maxRecDepth 100000 in
set_option maxHeartbeats 4000000 in
theorem c_X6_slot {X : jX} {ad : Nat → Nat} {mem : Mem} {s : Int32} (e5 : mem 195 = mem0 195) (e6 : mem 196 = mem0 196) : Cm X yX6_slot cX6_slot 2 (some .int) 2 ad [.ref 195, .int s] mem (fun r9 _ => r9 = some (.int (slr s))) := by
  refine Cm.of (own := RX6) (nm := "slot") (by decide +kernel) rfl rfl rfl rfl ?_
  refine J_iload_n dX6_slot_0 rfl rfl ?_
  refine cSi ws_X6_120 c_X6_isSlot dX6_slot_1 (kk := ?_)
  refine J_if_eq (tgt := 15) dX6_slot_4 (by decide) (fun h4 => ?_) (fun h4 => ?_)
  · refine J_iconst (v := -1) dX6_slot_15 (by decide) ?_
    refine r_int dX6_slot_16 ?_
    exact (by simp only [slr, *, reduceIte])
  · refine J_aload_n dX6_slot_7 rfl rfl ?_
    refine J_iload_n dX6_slot_8 rfl rfl ?_
    refine cVi wv_X6_76 (c_X6_boardIn (by rw [e6]; rfl)) dX6_slot_9 ob6 rfl rfl (kk := ?_)
    refine J_goto (tgt := 16) dX6_slot_12 (by decide) ?_
    refine r_int dX6_slot_16 ?_
    exact (by simp only [slr, *, reduceIte])

set_option maxRecDepth 100000 in
set_option maxHeartbeats 4000000 in
theorem c_X6_word {X : jX} {ad : Nat → Nat} {mem : Mem} {n k : Int32} (e5 : mem 195 = mem0 195) (e6 : mem 196 = mem0 196) : Cm X yX6_word cX6_word 3 (some .int) 1 ad [.ref 195, .int n, .int k] mem (fun r9 _ => r9 = some (.int (-1))) := by
  refine Cm.of (own := RX6) (nm := "word") (by decide +kernel) rfl rfl rfl rfl ?_
  refine J_iload_n dX6_word_0 rfl rfl ?_
  refine J_iconst (v := 0) dX6_word_1 (by decide) ?_
  refine J_aload_n dX6_word_2 rfl rfl ?_
  refine gX6_s wf_X6_7 dX6_word_3 ?_
  refine J_bipush (v := 94) dX6_word_6 (by decide) ?_
  refine al_ms dX6_word_8 (nIin (k := 94) (by decide) (by decide)) ?_
  refine J_topi (fun z9 hz9 => ?_)
  obtain rfl : z9 = 0 := hz9.trans (by rw [e6]; rfl)
  refine J_iconst (v := 1) dX6_word_9 (by decide) ?_
  refine J_isub dX6_word_10 ?_
  refine cSi ws_X6_25 c_X6_in dX6_word_11 (kk := ?_)
  refine J_topi (fun z9 hz9 => ?_)
  obtain rfl : z9 = 0 := hz9.trans (by exact jin_none)
  refine J_if_ne (tgt := 19) dX6_word_14 (by decide) (fun h14 => absurd (by decide) h14) (fun h14 => ?_)
  refine J_iconst (v := -1) dX6_word_17 (by decide) ?_
  refine r_int dX6_word_18 ?_
  exact rfl

set_option maxRecDepth 100000 in
set_option maxHeartbeats 4000000 in
theorem c_X6_waiting {X : jX} {ad : Nat → Nat} {mem : Mem} {n : Int32} (e5 : mem 195 = mem0 195) (e6 : mem 196 = mem0 196) : Cm X yX6_waiting cX6_waiting 6 (some .int) 1 ad [.ref 195, .int n] mem (fun r9 _ => r9 = some (.int (-1))) := by
  refine Cm.of (own := RX6) (nm := "waiting") (by decide +kernel) rfl rfl rfl rfl ?_
  refine J_iconst (v := -1) dX6_waiting_0 (by decide) ?_
  refine J_istore_n dX6_waiting_1 rfl rfl rfl ?_
  refine J_iconst (v := 0) dX6_waiting_2 (by decide) ?_
  refine J_istore_n dX6_waiting_3 rfl rfl rfl ?_
  refine J_iconst (v := 0) dX6_waiting_4 (by decide) ?_
  refine J_istore dX6_waiting_5 rfl rfl ?_
  refine J_iload dX6_waiting_7 rfl ?_
  refine J_aload_n dX6_waiting_9 rfl rfl ?_
  refine gX6_s wf_X6_7 dX6_waiting_10 ?_
  refine J_bipush (v := 94) dX6_waiting_13 (by decide) ?_
  refine al_ms dX6_waiting_15 (nIin (k := 94) (by decide) (by decide)) ?_
  refine J_topi (fun z9 hz9 => ?_)
  obtain rfl : z9 = 0 := hz9.trans (by rw [e6]; rfl)
  refine J_icmp_ge (tgt := 71) dX6_waiting_16 (by decide) (fun h16 => ?_) (fun h16 => absurd (by decide) h16)
  refine J_iload_n dX6_waiting_71 rfl rfl ?_
  refine r_int dX6_waiting_72 ?_
  exact rfl

set_option maxRecDepth 100000 in
set_option maxHeartbeats 4000000 in
theorem c_X6_known {X : jX} {ad : Nat → Nat} {mem : Mem} {x : Int32} (e5 : mem 195 = mem0 195) (e6 : mem 196 = mem0 196) : Cm X yX6_known cX6_known 4 (some .int) 1 ad [.ref 195, .int x] mem (fun r9 _ => r9 = some (.int (knr x))) := by
  refine Cm.of (own := RX6) (nm := "known") (by decide +kernel) rfl rfl rfl rfl ?_
  refine J_iload_n dX6_known_0 rfl rfl ?_
  refine J_iconst (v := 0) dX6_known_1 (by decide) ?_
  refine J_bipush (v := 99) dX6_known_2 (by decide) ?_
  refine cSi ws_X6_25 c_X6_in dX6_known_4 (kk := ?_)
  refine J_if_ne (tgt := 13) dX6_known_7 (by decide) (fun h7 => ?_) (fun h7 => ?_)
  · refine J_bipush (v := -6) dX6_known_13 (by decide) ?_
    refine J_istore_n dX6_known_15 rfl rfl rfl ?_
    refine J_aload_n dX6_known_16 rfl rfl ?_
    refine gX6_s wf_X6_7 dX6_known_17 ?_
    refine J_iconst (v := 5) dX6_known_20 (by decide) ?_
    refine al_ms dX6_known_21 (nIin (k := 5) (by decide) (by decide)) ?_
    refine J_topi (fun z9 hz9 => ?_)
    obtain rfl : z9 = 0 := hz9.trans (by rw [e6]; rfl)
    refine J_iconst (v := 1) dX6_known_22 (by decide) ?_
    refine J_isub dX6_known_23 ?_
    refine J_istore_n dX6_known_24 rfl rfl rfl ?_
    refine J_iload_n dX6_known_25 rfl rfl ?_
    refine J_if_lt (tgt := 70) dX6_known_26 (by decide) (fun h26 => ?_) (fun h26 => absurd (by decide) h26)
    refine J_iload_n dX6_known_70 rfl rfl ?_
    refine r_int dX6_known_71 ?_
    exact (by simp only [knr, if_neg h7])
  · refine J_bipush (v := -2) dX6_known_10 (by decide) ?_
    refine r_int dX6_known_12 ?_
    exact (by simp only [knr, *, reduceIte])

set_option maxRecDepth 100000 in
set_option maxHeartbeats 4000000 in
theorem c_X6_why {X : jX} {ad : Nat → Nat} {mem : Mem} {n k : Int32} (e5 : mem 195 = mem0 195) (e6 : mem 196 = mem0 196) : Cm X yX6_why cX6_why 3 (some .int) 2 ad [.ref 195, .int n, .int k] mem (fun r9 _ => r9 = some (.int (-1))) := by
  refine Cm.of (own := RX6) (nm := "why") (by decide +kernel) rfl rfl rfl rfl ?_
  refine J_aload_n dX6_why_0 rfl rfl ?_
  refine J_iload_n dX6_why_1 rfl rfl ?_
  refine cVi wv_X6_117 (c_X6_isBoard (by rw [e6]; rfl)) dX6_why_2 ob6 rfl rfl (kk := ?_)
  refine J_if_eq (tgt := 16) dX6_why_5 (by decide) (fun h5 => ?_) (fun h5 => absurd rfl h5)
  refine J_iconst (v := -1) dX6_why_16 (by decide) ?_
  refine r_int dX6_why_17 ?_
  exact rfl

set_option maxRecDepth 100000 in
set_option maxHeartbeats 4000000 in
theorem c_X6_knownIn {X : jX} {ad : Nat → Nat} {mem : Mem} {n : Int32} (e5 : mem 195 = mem0 195) (e6 : mem 196 = mem0 196) : Cm X yX6_knownIn cX6_knownIn 3 (some .int) 6 ad [.ref 195, .int n] mem (fun r9 _ => r9 = some (.int (-1))) := by
  refine Cm.of (own := RX6) (nm := "knownIn") (by decide +kernel) rfl rfl rfl rfl ?_
  refine J_aload_n dX6_knownIn_0 rfl rfl ?_
  refine J_iload_n dX6_knownIn_1 rfl rfl ?_
  refine cVi wv_X6_117 (c_X6_isBoard (by rw [e6]; rfl)) dX6_knownIn_2 ob6 rfl rfl (kk := ?_)
  refine J_if_ne (tgt := 10) dX6_knownIn_5 (by decide) (fun h5 => absurd rfl h5) (fun h5 => ?_)
  refine J_iconst (v := -1) dX6_knownIn_8 (by decide) ?_
  refine r_int dX6_knownIn_9 ?_
  exact rfl

set_option maxRecDepth 100000 in
set_option maxHeartbeats 4000000 in
theorem c_X6_hurtsBy {X : jX} {ad : Nat → Nat} {mem : Mem} {n s v : Int32} (hs5 : mem 196 5 = 0) : Cm X yX6_hurtsBy cX6_hurtsBy 7 (some .int) 6 ad [.ref 195, .int n, .int s, .int v] mem (fun r9 _ => r9 = some (.int (-1))) := by
  refine Cm.of (own := RX6) (nm := "hurtsBy") (by decide +kernel) rfl rfl rfl rfl ?_
  refine J_aload_n dX6_hurtsBy_0 rfl rfl ?_
  refine cVg wv_X6_102 c_X6_putAside dX6_hurtsBy_1 ob6 rfl rfl (kk := (fun v m1 hf => ?_))
  obtain ⟨rfl, hO⟩ := hf
  refine J_aload_n dX6_hurtsBy_4 rfl rfl ?_
  refine J_iload_n dX6_hurtsBy_5 rfl rfl ?_
  refine J_iload_n dX6_hurtsBy_6 rfl rfl ?_
  refine J_iload_n dX6_hurtsBy_7 rfl rfl ?_
  refine cVi wv_X6_123 (c_X6_plugs (by rw [hO 196 (by decide)]; exact hs5)) dX6_hurtsBy_8 ob6 rfl rfl (kk := ?_)
  refine J_istore dX6_hurtsBy_11 rfl rfl ?_
  refine J_aload_n dX6_hurtsBy_13 rfl rfl ?_
  refine gX6_s wf_X6_7 dX6_hurtsBy_14 ?_
  refine J_sipush (v := 299) dX6_hurtsBy_17 (by decide) ?_
  refine al_ms dX6_hurtsBy_20 (nIin (k := 299) (by decide) (by decide)) ?_
  refine J_istore dX6_hurtsBy_21 rfl rfl ?_
  refine J_iload dX6_hurtsBy_23 rfl ?_
  refine J_if_lt (tgt := 48) dX6_hurtsBy_25 (by decide) (fun h25 => ?_) (fun h25 => absurd (by decide) h25)
  refine J_aload_n dX6_hurtsBy_48 rfl rfl ?_
  refine gX6_s wf_X6_7 dX6_hurtsBy_49 ?_
  refine J_sipush (v := 299) dX6_hurtsBy_52 (by decide) ?_
  refine al_ms dX6_hurtsBy_55 (nIin (k := 299) (by decide) (by decide)) ?_
  refine J_iload dX6_hurtsBy_56 rfl ?_
  refine J_isub dX6_hurtsBy_58 ?_
  refine J_istore dX6_hurtsBy_59 rfl rfl ?_
  refine J_aload_n dX6_hurtsBy_61 rfl rfl ?_
  refine cVg wv_X6_155 c_X6_putBack dX6_hurtsBy_62 ob6 rfl rfl (kk := (fun v m2 hf => ?_))
  obtain ⟨rfl, hO2⟩ := hf
  refine J_iload dX6_hurtsBy_65 rfl ?_
  refine J_if_ge (tgt := 75) dX6_hurtsBy_67 (by decide) (fun h67 => absurd h67 (by decide)) (fun h67 => ?_)
  refine J_iload dX6_hurtsBy_70 rfl ?_
  refine J_goto (tgt := 77) dX6_hurtsBy_72 (by decide) ?_
  refine r_int dX6_hurtsBy_77 ?_
  exact rfl

set_option maxRecDepth 100000 in
set_option maxHeartbeats 4000000 in
theorem c_X6_wouldHurt {X : jX} {ad : Nat → Nat} {mem : Mem} {n s v : Int32} (e5 : mem 195 = mem0 195) (e6 : mem 196 = mem0 196) : Cm X yX6_wouldHurt cX6_wouldHurt 4 (some .int) 7 ad [.ref 195, .int n, .int s, .int v] mem (fun r9 _ => r9 = some (.int (-1))) := by
  refine Cm.of (own := RX6) (nm := "wouldHurt") (by decide +kernel) rfl rfl rfl rfl ?_
  refine J_aload_n dX6_wouldHurt_0 rfl rfl ?_
  refine J_iload_n dX6_wouldHurt_1 rfl rfl ?_
  refine J_iload_n dX6_wouldHurt_2 rfl rfl ?_
  refine J_iload_n dX6_wouldHurt_3 rfl rfl ?_
  refine cVg wv_X6_158 (c_X6_hurtsBy (by rw [e6]; rfl)) dX6_wouldHurt_4 ob6 rfl rfl (kk := (fun v m1 hf => ?_))
  subst hf
  refine r_int dX6_wouldHurt_7 ?_
  exact rfl

set_option maxRecDepth 100000 in
set_option maxHeartbeats 4000000 in
theorem c_X6_safeSpeed {X : jX} {ad : Nat → Nat} {mem : Mem} {n s : Int32} (e5 : mem 195 = mem0 195) (e6 : mem 196 = mem0 196) : Cm X yX6_safeSpeed cX6_safeSpeed 6 (some .int) 7 ad [.ref 195, .int n, .int s] mem (fun r9 _ => r9 = some (.int (-1))) := by
  refine Cm.of (own := RX6) (nm := "safeSpeed") (by decide +kernel) rfl rfl rfl rfl ?_
  refine J_bipush (v := -6) dX6_safeSpeed_0 (by decide) ?_
  refine J_istore_n dX6_safeSpeed_2 rfl rfl rfl ?_
  refine J_aload_n dX6_safeSpeed_3 rfl rfl ?_
  refine J_iload_n dX6_safeSpeed_4 rfl rfl ?_
  refine J_iload_n dX6_safeSpeed_5 rfl rfl ?_
  refine J_iconst (v := 1) dX6_safeSpeed_6 (by decide) ?_
  refine cVg wv_X6_158 (c_X6_hurtsBy (by rw [e6]; rfl)) dX6_safeSpeed_7 ob6 rfl rfl (kk := (fun v m1 hf => ?_))
  subst hf
  refine J_istore dX6_safeSpeed_10 rfl rfl ?_
  refine J_iconst (v := 1) dX6_safeSpeed_12 (by decide) ?_
  refine J_istore dX6_safeSpeed_13 rfl rfl ?_
  refine J_iload dX6_safeSpeed_15 rfl ?_
  refine J_bipush (v := 24) dX6_safeSpeed_17 (by decide) ?_
  refine J_icmp_gt (tgt := 51) dX6_safeSpeed_19 (by decide) (fun h19 => absurd h19 (by decide)) (fun h19 => ?_)
  refine J_iload dX6_safeSpeed_22 rfl ?_
  refine J_if_lt (tgt := 51) dX6_safeSpeed_24 (by decide) (fun h24 => ?_) (fun h24 => absurd (by decide) h24)
  refine J_iload dX6_safeSpeed_51 rfl ?_
  refine J_if_ge (tgt := 61) dX6_safeSpeed_53 (by decide) (fun h53 => absurd h53 (by decide)) (fun h53 => ?_)
  refine J_iload dX6_safeSpeed_56 rfl ?_
  refine J_goto (tgt := 62) dX6_safeSpeed_58 (by decide) ?_
  refine r_int dX6_safeSpeed_62 ?_
  exact rfl

set_option maxRecDepth 100000 in
set_option maxHeartbeats 4000000 in
theorem c_X6_quietIn {X : jX} {ad : Nat → Nat} {mem : Mem}  (e5 : mem 195 = mem0 195) (e6 : mem 196 = mem0 196) : Cm X yX6_quietIn cX6_quietIn 2 (some .int) 6 ad [.ref 195] mem (fun r9 _ => r9 = some (.int 0)) := by
  refine Cm.of (own := RX6) (nm := "quietIn") (by decide +kernel) rfl rfl rfl rfl ?_
  refine J_aload_n dX6_quietIn_0 rfl rfl ?_
  refine cVg wv_X6_102 c_X6_putAside dX6_quietIn_1 ob6 rfl rfl (kk := (fun v m1 hf => ?_))
  obtain ⟨rfl, hO⟩ := hf
  refine J_iconst (v := 0) dX6_quietIn_4 (by decide) ?_
  refine J_istore_n dX6_quietIn_5 rfl rfl rfl ?_
  refine J_iload_n dX6_quietIn_6 rfl rfl ?_
  refine J_sipush (v := 200) dX6_quietIn_7 (by decide) ?_
  refine J_icmp_gt (tgt := 32) dX6_quietIn_10 (by decide) (fun h10 => absurd h10 (by decide)) (fun h10 => ?_)
  refine J_aload_n dX6_quietIn_13 rfl rfl ?_
  refine J_bipush (v := -6) dX6_quietIn_14 (by decide) ?_
  refine cVi wv_X6_130 (c_X6_going (by rw [hO 196 (by decide), e6]; rfl)) dX6_quietIn_16 ob6 rfl rfl (kk := ?_)
  refine J_if_le (tgt := 32) dX6_quietIn_19 (by decide) (fun h19 => ?_) (fun h19 => absurd (by decide) h19)
  refine J_aload_n dX6_quietIn_32 rfl rfl ?_
  refine cVg wv_X6_155 c_X6_putBack dX6_quietIn_33 ob6 rfl rfl (kk := (fun v m2 hf => ?_))
  obtain ⟨rfl, hO2⟩ := hf
  refine J_iload_n dX6_quietIn_36 rfl rfl ?_
  refine J_sipush (v := 200) dX6_quietIn_37 (by decide) ?_
  refine J_icmp_le (tgt := 48) dX6_quietIn_40 (by decide) (fun h40 => ?_) (fun h40 => absurd (by decide) h40)
  refine J_iload_n dX6_quietIn_48 rfl rfl ?_
  refine r_int dX6_quietIn_49 ?_
  exact rfl

def cd (c : Int64) (k : Nat) : Int32 := ((c >>> ((8 * nI k : Int32).toInt64 &&& 63)) &&& 255).toInt32
def mP : Nat → Nat → Int64 → Nat → Int32 → Int32 → Int32
  | 0, _, _, a, _, w => if w = 0 then nI a else -2
  | n + 1, k, c, a, o, w => if o = 0 then (if cd c k = 0 then mP n (k + 1) c a 1 (if w = 0 then 0 else 1) else mP n (k + 1) c (a + 1) 0 (if w = 0 then (if jin (cd c k) 33 126 = 0 then 1 else 0) else 1))
      else mP n (k + 1) c a 1 (if w = 0 then (if cd c k = 0 then 0 else 1) else 1)
set_option maxRecDepth 100000 in
set_option maxHeartbeats 4000000 in
theorem apM {X : jX} {ad : Nat → Nat} {c : Int64} {ov wr : Int32} {M : Nat} (hM : M ≤ 8) : ∀ (j : Nat) (m : Mem), j ≤ M → m 195 7 = nI (M - j) → Jg X RX6 cX6_put 8 (some .int) "put" 1 0 0 (QF X ad (fun v _ => v = some (.int (nI M)))) ad 0 0 146 [(0, .ref 195), (1, .long c), (3, .int (nI M)), (4, .int ov), (5, .int wr), (6, .int (nI j - 1))] [] (WS X ad m) := by
  intro j
  induction j with
  | zero =>
    intro m hj hm
    refine J_iload dX6_put_146 rfl ?_
    refine J_if_lt (tgt := 188) dX6_put_148 (by decide) (fun h148 => ?_) (fun h148 => absurd (show nI 0 - 1 < 0 by decide) h148)
    refine J_aload_n dX6_put_188 rfl rfl ?_
    refine gX6_length wf_X6_152 dX6_put_189 ?_
    refine r_int dX6_put_192 ?_
    exact (by rw [hm]; rfl)
  | succ j ih =>
    intro m hj hm
    refine J_iload dX6_put_146 rfl ?_
    refine J_if_lt (tgt := 188) dX6_put_148 (by decide) (fun h148 => absurd h148 (by rw [nI_pred]; exact fun h => absurd h (by rw [Int32.not_lt, Int32.le_iff_toInt_le, nI_toInt (by omega)]; exact Int.natCast_nonneg j))) (fun h148 => ?_)
    refine J_aload_n dX6_put_151 rfl rfl ?_
    refine gX6_pad wf_X6_22 dX6_put_152 ?_
    refine J_aload_n dX6_put_155 rfl rfl ?_
    refine gX6_length wf_X6_152 dX6_put_156 ?_
    refine J_lload_n dX6_put_159 rfl rfl ?_
    refine J_bipush (v := 8) dX6_put_160 (by decide) ?_
    refine J_iload dX6_put_162 rfl ?_
    refine J_imul dX6_put_164 ?_
    refine J_lshr dX6_put_165 rfl ?_
    refine J_ldc2 wl_X6_161 dX6_put_166 ?_
    refine J_land dX6_put_169 ?_
    refine J_l2i dX6_put_170 rfl ?_
    refine as_mpad dX6_put_171 (by rw [hm]; exact nIin (by omega) (by decide)) ?_
    refine J_aload_n dX6_put_172 rfl rfl ?_
    refine J_dup dX6_put_173 rfl ?_
    refine gX6_length wf_X6_152 dX6_put_174 ?_
    refine J_iconst (v := 1) dX6_put_177 (by decide) ?_
    refine J_iadd dX6_put_178 ?_
    refine pX6_length wf_X6_152 dX6_put_179 ?_
    refine J_iinc (v := _ + (-1)) dX6_put_182 rfl rfl rfl rfl ?_
    rw [nI_pred, ← Int32.sub_eq_add_neg]
    refine J_goto (tgt := 146) dX6_put_185 (by decide) ?_
    refine ih _ (by omega) ?_
    rw [up_apply, if_pos ⟨rfl, rfl⟩, up_ne (by decide), hm, show M - j = (M - (j + 1)) + 1 by omega, nI_succ]

set_option maxRecDepth 100000 in
set_option maxHeartbeats 4000000 in
theorem mLoop {X : jX} {ad : Nat → Nat} {mem : Mem} {c : Int64} {R : Int32} (hlen : mem 195 7 = 0) : ∀ (n k a : Nat) (ov wr : Int32), k + n = 8 → a ≤ k → R = mP n k c a ov wr → Jg X RX6 cX6_put 8 (some .int) "put" 1 0 0 (QF X ad (fun v _ => v = some (.int R))) ad 0 0 25 [(0, .ref 195), (1, .long c), (3, .int (nI a)), (4, .int ov), (5, .int wr), (6, .int (nI k))] [] (WS X ad mem) := by
  intro n
  induction n with
  | zero =>
    intro k a ov wr hk ha hR
    obtain rfl : k = 8 := by omega
    refine J_iload dX6_put_25 rfl ?_
    refine J_bipush (v := 8) dX6_put_27 (by decide) ?_
    refine J_icmp_ge (tgt := 119) dX6_put_29 (by decide) (fun h29 => ?_) (fun h29 => absurd (nI_le1 (a := 8) (b := 8) (Nat.le_refl _) (by omega)) h29)
    refine J_iload dX6_put_119 rfl ?_
    refine J_if_eq (tgt := 127) dX6_put_121 (by decide) (fun h121 => ?_) (fun h121 => ?_)
    · refine J_aload_n dX6_put_127 rfl rfl ?_
      refine gX6_length wf_X6_152 dX6_put_128 ?_
      refine J_topi (fun z9 hz9 => ?_)
      obtain rfl : z9 = 0 := hz9.trans (by exact hlen)
      refine J_iload_n dX6_put_131 rfl rfl ?_
      refine J_iadd dX6_put_132 ?_
      refine J_bipush (v := 80) dX6_put_133 (by decide) ?_
      refine J_icmp_le (tgt := 141) dX6_put_135 (by decide) (fun h135 => ?_) (fun h135 => absurd ((show ∀ k, k < 9 → (0 : Int32) + nI k ≤ 80 by decide) a (by omega)) h135)
      refine J_iload_n dX6_put_141 rfl rfl ?_
      refine J_iconst (v := 1) dX6_put_142 (by decide) ?_
      refine J_isub dX6_put_143 ?_
      refine J_istore dX6_put_144 rfl rfl ?_
      have e : R = nI a := by rw [hR]; simp only [mP, if_pos h121]
      rw [e]
      exact apM (by omega) a mem (Nat.le_refl _) (by rw [hlen, Nat.sub_self]; rfl)
    · refine J_bipush (v := -2) dX6_put_124 (by decide) ?_
      refine r_int dX6_put_126 ?_
      exact (by rw [hR]; simp only [mP, *, reduceIte])
  | succ n ih =>
    intro k a ov wr hk ha hR
    refine J_iload dX6_put_25 rfl ?_
    refine J_bipush (v := 8) dX6_put_27 (by decide) ?_
    refine J_icmp_ge (tgt := 119) dX6_put_29 (by decide) (fun h29 => absurd h29 (nI_nle1 (a := k) (b := 8) (by omega) (by omega))) (fun h29 => ?_)
    refine J_lload_n dX6_put_32 rfl rfl ?_
    refine J_bipush (v := 8) dX6_put_33 (by decide) ?_
    refine J_iload dX6_put_35 rfl ?_
    refine J_imul dX6_put_37 ?_
    refine J_lshr dX6_put_38 rfl ?_
    refine J_ldc2 wl_X6_161 dX6_put_39 ?_
    refine J_land dX6_put_42 ?_
    refine J_l2i dX6_put_43 rfl ?_
    refine J_istore dX6_put_44 rfl rfl ?_
    refine J_iload dX6_put_46 rfl ?_
    refine J_if_ne (tgt := 56) dX6_put_48 (by decide) (fun h48 => ?_) (fun h48 => ?_)
    · refine J_iconst (v := 1) dX6_put_56 (by decide) ?_
      refine J_goto (tgt := 61) dX6_put_57 (by decide) ?_
      refine J_istore dX6_put_61 rfl rfl ?_
      refine J_iload dX6_put_63 rfl ?_
      refine J_if_ne (tgt := 93) dX6_put_65 (by decide) (fun h65 => ?_) (fun h65 => ?_)
      · refine J_iconst (v := 1) dX6_put_93 (by decide) ?_
        refine J_goto (tgt := 98) dX6_put_94 (by decide) ?_
        refine J_istore dX6_put_98 rfl rfl ?_
        refine J_iload_n dX6_put_100 rfl rfl ?_
        refine J_iload dX6_put_101 rfl ?_
        refine J_if_eq (tgt := 110) dX6_put_103 (by decide) (fun h103 => absurd h103 (by decide)) (fun h103 => ?_)
        refine J_iconst (v := 0) dX6_put_106 (by decide) ?_
        refine J_goto (tgt := 111) dX6_put_107 (by decide) ?_
        refine J_iadd dX6_put_111 ?_
        refine J_istore_n dX6_put_112 rfl rfl rfl ?_
        refine J_iinc (v := _ + 1) dX6_put_113 rfl rfl rfl rfl ?_
        refine J_goto (tgt := 25) dX6_put_116 (by decide) ?_
        refine J_lv [0, 1, 2, 3, 4, 5] rfl ?_
        rw [show nI k + 1 = nI (k + 1) from (nI_succ k).symm]
        first | rw [show nI a + 1 = nI (a + 1) from (nI_succ a).symm] | rw [show nI a + 0 = nI a from Int32.add_zero _]
        first | contradiction | exact ih (k + 1) a _ _ (by omega) (by omega) (by rw [hR]; simp only [mP, cd, *, reduceIte]) | exact ih (k + 1) (a + 1) _ _ (by omega) (by omega) (by rw [hR]; simp only [mP, cd, *, reduceIte])
      · refine J_iload dX6_put_68 rfl ?_
        refine J_if_eq (tgt := 81) dX6_put_70 (by decide) (fun h70 => absurd h70 (by decide)) (fun h70 => ?_)
        refine J_iload dX6_put_73 rfl ?_
        refine J_if_eq (tgt := 97) dX6_put_75 (by decide) (fun h75 => ?_) (fun h75 => ?_)
        · refine J_iconst (v := 0) dX6_put_97 (by decide) ?_
          refine J_istore dX6_put_98 rfl rfl ?_
          refine J_iload_n dX6_put_100 rfl rfl ?_
          refine J_iload dX6_put_101 rfl ?_
          refine J_if_eq (tgt := 110) dX6_put_103 (by decide) (fun h103 => absurd h103 (by decide)) (fun h103 => ?_)
          refine J_iconst (v := 0) dX6_put_106 (by decide) ?_
          refine J_goto (tgt := 111) dX6_put_107 (by decide) ?_
          refine J_iadd dX6_put_111 ?_
          refine J_istore_n dX6_put_112 rfl rfl rfl ?_
          refine J_iinc (v := _ + 1) dX6_put_113 rfl rfl rfl rfl ?_
          refine J_goto (tgt := 25) dX6_put_116 (by decide) ?_
          refine J_lv [0, 1, 2, 3, 4, 5] rfl ?_
          rw [show nI k + 1 = nI (k + 1) from (nI_succ k).symm]
          first | rw [show nI a + 1 = nI (a + 1) from (nI_succ a).symm] | rw [show nI a + 0 = nI a from Int32.add_zero _]
          first | contradiction | exact ih (k + 1) a _ _ (by omega) (by omega) (by rw [hR]; simp only [mP, cd, *, reduceIte]) | exact ih (k + 1) (a + 1) _ _ (by omega) (by omega) (by rw [hR]; simp only [mP, cd, *, reduceIte])
        · refine J_goto (tgt := 93) dX6_put_78 (by decide) ?_
          refine J_iconst (v := 1) dX6_put_93 (by decide) ?_
          refine J_goto (tgt := 98) dX6_put_94 (by decide) ?_
          refine J_istore dX6_put_98 rfl rfl ?_
          refine J_iload_n dX6_put_100 rfl rfl ?_
          refine J_iload dX6_put_101 rfl ?_
          refine J_if_eq (tgt := 110) dX6_put_103 (by decide) (fun h103 => absurd h103 (by decide)) (fun h103 => ?_)
          refine J_iconst (v := 0) dX6_put_106 (by decide) ?_
          refine J_goto (tgt := 111) dX6_put_107 (by decide) ?_
          refine J_iadd dX6_put_111 ?_
          refine J_istore_n dX6_put_112 rfl rfl rfl ?_
          refine J_iinc (v := _ + 1) dX6_put_113 rfl rfl rfl rfl ?_
          refine J_goto (tgt := 25) dX6_put_116 (by decide) ?_
          refine J_lv [0, 1, 2, 3, 4, 5] rfl ?_
          rw [show nI k + 1 = nI (k + 1) from (nI_succ k).symm]
          first | rw [show nI a + 1 = nI (a + 1) from (nI_succ a).symm] | rw [show nI a + 0 = nI a from Int32.add_zero _]
          first | contradiction | exact ih (k + 1) a _ _ (by omega) (by omega) (by rw [hR]; simp only [mP, cd, *, reduceIte]) | exact ih (k + 1) (a + 1) _ _ (by omega) (by omega) (by rw [hR]; simp only [mP, cd, *, reduceIte])
    · refine J_iload dX6_put_51 rfl ?_
      refine J_if_ne (tgt := 60) dX6_put_53 (by decide) (fun h53 => ?_) (fun h53 => ?_)
      · refine J_iconst (v := 0) dX6_put_60 (by decide) ?_
        refine J_istore dX6_put_61 rfl rfl ?_
        refine J_iload dX6_put_63 rfl ?_
        refine J_if_ne (tgt := 93) dX6_put_65 (by decide) (fun h65 => ?_) (fun h65 => ?_)
        · refine J_iconst (v := 1) dX6_put_93 (by decide) ?_
          refine J_goto (tgt := 98) dX6_put_94 (by decide) ?_
          refine J_istore dX6_put_98 rfl rfl ?_
          refine J_iload_n dX6_put_100 rfl rfl ?_
          refine J_iload dX6_put_101 rfl ?_
          refine J_if_eq (tgt := 110) dX6_put_103 (by decide) (fun h103 => ?_) (fun h103 => absurd (by decide) h103)
          refine J_iconst (v := 1) dX6_put_110 (by decide) ?_
          refine J_iadd dX6_put_111 ?_
          refine J_istore_n dX6_put_112 rfl rfl rfl ?_
          refine J_iinc (v := _ + 1) dX6_put_113 rfl rfl rfl rfl ?_
          refine J_goto (tgt := 25) dX6_put_116 (by decide) ?_
          refine J_lv [0, 1, 2, 3, 4, 5] rfl ?_
          rw [show nI k + 1 = nI (k + 1) from (nI_succ k).symm]
          first | rw [show nI a + 1 = nI (a + 1) from (nI_succ a).symm] | rw [show nI a + 0 = nI a from Int32.add_zero _]
          first | contradiction | exact ih (k + 1) a _ _ (by omega) (by omega) (by rw [hR]; simp only [mP, cd, *, reduceIte]) | exact ih (k + 1) (a + 1) _ _ (by omega) (by omega) (by rw [hR]; simp only [mP, cd, *, reduceIte])
        · refine J_iload dX6_put_68 rfl ?_
          refine J_if_eq (tgt := 81) dX6_put_70 (by decide) (fun h70 => ?_) (fun h70 => absurd (by decide) h70)
          refine J_iload dX6_put_81 rfl ?_
          refine J_bipush (v := 33) dX6_put_83 (by decide) ?_
          refine J_bipush (v := 126) dX6_put_85 (by decide) ?_
          refine cSi ws_X6_25 c_X6_in dX6_put_87 (kk := ?_)
          refine J_if_ne (tgt := 97) dX6_put_90 (by decide) (fun h90 => ?_) (fun h90 => ?_)
          · refine J_iconst (v := 0) dX6_put_97 (by decide) ?_
            refine J_istore dX6_put_98 rfl rfl ?_
            refine J_iload_n dX6_put_100 rfl rfl ?_
            refine J_iload dX6_put_101 rfl ?_
            refine J_if_eq (tgt := 110) dX6_put_103 (by decide) (fun h103 => ?_) (fun h103 => absurd (by decide) h103)
            refine J_iconst (v := 1) dX6_put_110 (by decide) ?_
            refine J_iadd dX6_put_111 ?_
            refine J_istore_n dX6_put_112 rfl rfl rfl ?_
            refine J_iinc (v := _ + 1) dX6_put_113 rfl rfl rfl rfl ?_
            refine J_goto (tgt := 25) dX6_put_116 (by decide) ?_
            refine J_lv [0, 1, 2, 3, 4, 5] rfl ?_
            rw [show nI k + 1 = nI (k + 1) from (nI_succ k).symm]
            first | rw [show nI a + 1 = nI (a + 1) from (nI_succ a).symm] | rw [show nI a + 0 = nI a from Int32.add_zero _]
            first | contradiction | exact ih (k + 1) a _ _ (by omega) (by omega) (by rw [hR]; simp only [mP, cd, *, reduceIte]) | exact ih (k + 1) (a + 1) _ _ (by omega) (by omega) (by rw [hR]; simp only [mP, cd, *, reduceIte])
          · refine J_iconst (v := 1) dX6_put_93 (by decide) ?_
            refine J_goto (tgt := 98) dX6_put_94 (by decide) ?_
            refine J_istore dX6_put_98 rfl rfl ?_
            refine J_iload_n dX6_put_100 rfl rfl ?_
            refine J_iload dX6_put_101 rfl ?_
            refine J_if_eq (tgt := 110) dX6_put_103 (by decide) (fun h103 => ?_) (fun h103 => absurd (by decide) h103)
            refine J_iconst (v := 1) dX6_put_110 (by decide) ?_
            refine J_iadd dX6_put_111 ?_
            refine J_istore_n dX6_put_112 rfl rfl rfl ?_
            refine J_iinc (v := _ + 1) dX6_put_113 rfl rfl rfl rfl ?_
            refine J_goto (tgt := 25) dX6_put_116 (by decide) ?_
            refine J_lv [0, 1, 2, 3, 4, 5] rfl ?_
            rw [show nI k + 1 = nI (k + 1) from (nI_succ k).symm]
            first | rw [show nI a + 1 = nI (a + 1) from (nI_succ a).symm] | rw [show nI a + 0 = nI a from Int32.add_zero _]
            first | contradiction | exact ih (k + 1) a _ _ (by omega) (by omega) (by rw [hR]; simp only [mP, cd, *, reduceIte]) | exact ih (k + 1) (a + 1) _ _ (by omega) (by omega) (by rw [hR]; simp only [mP, cd, *, reduceIte])
      · refine J_iconst (v := 1) dX6_put_56 (by decide) ?_
        refine J_goto (tgt := 61) dX6_put_57 (by decide) ?_
        refine J_istore dX6_put_61 rfl rfl ?_
        refine J_iload dX6_put_63 rfl ?_
        refine J_if_ne (tgt := 93) dX6_put_65 (by decide) (fun h65 => ?_) (fun h65 => ?_)
        · refine J_iconst (v := 1) dX6_put_93 (by decide) ?_
          refine J_goto (tgt := 98) dX6_put_94 (by decide) ?_
          refine J_istore dX6_put_98 rfl rfl ?_
          refine J_iload_n dX6_put_100 rfl rfl ?_
          refine J_iload dX6_put_101 rfl ?_
          refine J_if_eq (tgt := 110) dX6_put_103 (by decide) (fun h103 => absurd h103 (by decide)) (fun h103 => ?_)
          refine J_iconst (v := 0) dX6_put_106 (by decide) ?_
          refine J_goto (tgt := 111) dX6_put_107 (by decide) ?_
          refine J_iadd dX6_put_111 ?_
          refine J_istore_n dX6_put_112 rfl rfl rfl ?_
          refine J_iinc (v := _ + 1) dX6_put_113 rfl rfl rfl rfl ?_
          refine J_goto (tgt := 25) dX6_put_116 (by decide) ?_
          refine J_lv [0, 1, 2, 3, 4, 5] rfl ?_
          rw [show nI k + 1 = nI (k + 1) from (nI_succ k).symm]
          first | rw [show nI a + 1 = nI (a + 1) from (nI_succ a).symm] | rw [show nI a + 0 = nI a from Int32.add_zero _]
          first | contradiction | exact ih (k + 1) a _ _ (by omega) (by omega) (by rw [hR]; simp only [mP, cd, *, reduceIte]) | exact ih (k + 1) (a + 1) _ _ (by omega) (by omega) (by rw [hR]; simp only [mP, cd, *, reduceIte])
        · refine J_iload dX6_put_68 rfl ?_
          refine J_if_eq (tgt := 81) dX6_put_70 (by decide) (fun h70 => absurd h70 (by decide)) (fun h70 => ?_)
          refine J_iload dX6_put_73 rfl ?_
          refine J_if_eq (tgt := 97) dX6_put_75 (by decide) (fun h75 => ?_) (fun h75 => ?_)
          · refine J_iconst (v := 0) dX6_put_97 (by decide) ?_
            refine J_istore dX6_put_98 rfl rfl ?_
            refine J_iload_n dX6_put_100 rfl rfl ?_
            refine J_iload dX6_put_101 rfl ?_
            refine J_if_eq (tgt := 110) dX6_put_103 (by decide) (fun h103 => absurd h103 (by decide)) (fun h103 => ?_)
            refine J_iconst (v := 0) dX6_put_106 (by decide) ?_
            refine J_goto (tgt := 111) dX6_put_107 (by decide) ?_
            refine J_iadd dX6_put_111 ?_
            refine J_istore_n dX6_put_112 rfl rfl rfl ?_
            refine J_iinc (v := _ + 1) dX6_put_113 rfl rfl rfl rfl ?_
            refine J_goto (tgt := 25) dX6_put_116 (by decide) ?_
            refine J_lv [0, 1, 2, 3, 4, 5] rfl ?_
            rw [show nI k + 1 = nI (k + 1) from (nI_succ k).symm]
            first | rw [show nI a + 1 = nI (a + 1) from (nI_succ a).symm] | rw [show nI a + 0 = nI a from Int32.add_zero _]
            first | contradiction | exact ih (k + 1) a _ _ (by omega) (by omega) (by rw [hR]; simp only [mP, cd, *, reduceIte]) | exact ih (k + 1) (a + 1) _ _ (by omega) (by omega) (by rw [hR]; simp only [mP, cd, *, reduceIte])
          · refine J_goto (tgt := 93) dX6_put_78 (by decide) ?_
            refine J_iconst (v := 1) dX6_put_93 (by decide) ?_
            refine J_goto (tgt := 98) dX6_put_94 (by decide) ?_
            refine J_istore dX6_put_98 rfl rfl ?_
            refine J_iload_n dX6_put_100 rfl rfl ?_
            refine J_iload dX6_put_101 rfl ?_
            refine J_if_eq (tgt := 110) dX6_put_103 (by decide) (fun h103 => absurd h103 (by decide)) (fun h103 => ?_)
            refine J_iconst (v := 0) dX6_put_106 (by decide) ?_
            refine J_goto (tgt := 111) dX6_put_107 (by decide) ?_
            refine J_iadd dX6_put_111 ?_
            refine J_istore_n dX6_put_112 rfl rfl rfl ?_
            refine J_iinc (v := _ + 1) dX6_put_113 rfl rfl rfl rfl ?_
            refine J_goto (tgt := 25) dX6_put_116 (by decide) ?_
            refine J_lv [0, 1, 2, 3, 4, 5] rfl ?_
            rw [show nI k + 1 = nI (k + 1) from (nI_succ k).symm]
            first | rw [show nI a + 1 = nI (a + 1) from (nI_succ a).symm] | rw [show nI a + 0 = nI a from Int32.add_zero _]
            first | contradiction | exact ih (k + 1) a _ _ (by omega) (by omega) (by rw [hR]; simp only [mP, cd, *, reduceIte]) | exact ih (k + 1) (a + 1) _ _ (by omega) (by omega) (by rw [hR]; simp only [mP, cd, *, reduceIte])

def ptM (c : Int64) : Int32 := mP 8 0 c 0 0 (if lg_cmp (c &&& 255) 0 = 0 then 1 else 0)
set_option maxRecDepth 100000 in
set_option maxHeartbeats 4000000 in
theorem c_X6_put {X : jX} {ad : Nat → Nat} {mem : Mem} {c : Int64} (e5 : mem 195 = mem0 195) (e6 : mem 196 = mem0 196) : Cm X yX6_put cX6_put 8 (some .int) 1 ad [.ref 195, .long c] mem (fun r9 _ => r9 = some (.int (ptM c))) := by
  refine Cm.of (own := RX6) (nm := "put") (by decide +kernel) rfl rfl rfl rfl ?_
  refine J_iconst (v := 0) dX6_put_0 (by decide) ?_
  refine J_istore_n dX6_put_1 rfl rfl rfl ?_
  refine J_iconst (v := 0) dX6_put_2 (by decide) ?_
  refine J_istore dX6_put_3 rfl rfl ?_
  refine J_lload_n dX6_put_5 rfl rfl ?_
  refine J_ldc2 wl_X6_161 dX6_put_6 ?_
  refine J_land dX6_put_9 ?_
  refine J_lconst (v := 0) dX6_put_10 (by decide) ?_
  refine J_lcmp dX6_put_11 ?_
  refine J_if_ne (tgt := 19) dX6_put_12 (by decide) (fun h12 => ?_) (fun h12 => ?_)
  · refine J_iconst (v := 0) dX6_put_19 (by decide) ?_
    refine J_istore dX6_put_20 rfl rfl ?_
    refine J_iconst (v := 0) dX6_put_22 (by decide) ?_
    refine J_istore dX6_put_23 rfl rfl ?_
    exact mLoop (by rw [e5]; rfl) 8 0 0 _ _ rfl (Nat.le_refl _) (by simp only [ptM, *, reduceIte])
  · refine J_iconst (v := 1) dX6_put_15 (by decide) ?_
    refine J_goto (tgt := 20) dX6_put_16 (by decide) ?_
    refine J_istore dX6_put_20 rfl rfl ?_
    refine J_iconst (v := 0) dX6_put_22 (by decide) ?_
    refine J_istore dX6_put_23 rfl rfl ?_
    exact mLoop (by rw [e5]; rfl) 8 0 0 _ _ rfl (Nat.le_refl _) (by simp only [ptM, *, reduceIte])

set_option maxRecDepth 100000 in
set_option maxHeartbeats 4000000 in
theorem c_X6_wipe {X : jX} {ad : Nat → Nat} {mem : Mem}  (e5 : mem 195 = mem0 195) (e6 : mem 196 = mem0 196) : Cm X yX6_wipe cX6_wipe 2 (some .int) 0 ad [.ref 195] mem (fun r9 _ => r9 = some (.int 0)) := by
  refine Cm.of (own := RX6) (nm := "wipe") (by decide +kernel) rfl rfl rfl rfl ?_
  refine J_aload_n dX6_wipe_0 rfl rfl ?_
  refine gX6_length wf_X6_152 dX6_wipe_1 ?_
  refine J_istore_n dX6_wipe_4 rfl rfl rfl ?_
  refine J_aload_n dX6_wipe_5 rfl rfl ?_
  refine J_iconst (v := 0) dX6_wipe_6 (by decide) ?_
  refine pX6_length wf_X6_152 dX6_wipe_7 ?_
  refine J_iload_n dX6_wipe_10 rfl rfl ?_
  refine r_int dX6_wipe_11 ?_
  exact (by rw [e5]; rfl)

set_option maxRecDepth 100000 in
set_option maxHeartbeats 4000000 in
theorem c_X6_isNext {X : jX} {ad : Nat → Nat} {mem : Mem} {lo hi : Int32} (hfa : mem 195 9 = 1) : Cd X yX6_isNext cX6_isNext 3 (some .boolean) 1 ad [.ref 195, .int lo, .int hi] mem (some (.int 0)) (mem) := by
  refine Cm.of (own := RX6) (nm := "isNext") (by decide +kernel) rfl rfl rfl rfl ?_
  refine J_aload_n dX6_isNext_0 rfl rfl ?_
  refine gX6_isFaulty wf_X6_163 dX6_isNext_1 ?_
  refine J_topi (fun z9 hz9 => ?_)
  obtain rfl : z9 = 1 := hz9.trans (by exact hfa)
  refine J_if_ne (tgt := 39) dX6_isNext_4 (by decide) (fun h4 => ?_) (fun h4 => absurd h4 (by decide))
  refine J_iconst (v := 0) dX6_isNext_39 (by decide) ?_
  refine r_bool dX6_isNext_40 (by first | exact Or.inl rfl | exact Or.inr rfl | exact i01 | exact jin01) ?_
  exact ⟨rfl, rfl⟩

set_option maxRecDepth 100000 in
set_option maxHeartbeats 4000000 in
theorem c_X6_takes {X : jX} {ad : Nat → Nat} {mem : Mem} {lo hi : Int32} (hfa : mem 195 9 = 1) : Cm X yX6_takes cX6_takes 5 (some .int) 2 ad [.ref 195, .int lo, .int hi] mem (fun v m => v = some (.int 0) ∧ m 195 9 = 1 ∧ m 195 8 = mem 195 8 + 0 ∧ m 195 10 = mem 195 10 ∧ m 195 7 = mem 195 7) := by
  refine Cm.of (own := RX6) (nm := "takes") (by decide +kernel) rfl rfl rfl rfl ?_
  refine J_aload_n dX6_takes_0 rfl rfl ?_
  refine J_iload_n dX6_takes_1 rfl rfl ?_
  refine J_iload_n dX6_takes_2 rfl rfl ?_
  refine cVi wv_X6_170 (c_X6_isNext hfa) dX6_takes_3 ob6 rfl rfl (kk := ?_)
  refine J_istore_n dX6_takes_6 rfl rfl rfl ?_
  refine J_iload_n dX6_takes_7 rfl rfl ?_
  refine J_if_eq (tgt := 25) dX6_takes_8 (by decide) (fun h8 => ?_) (fun h8 => absurd (by decide) h8)
  refine J_iconst (v := 0) dX6_takes_25 (by decide) ?_
  refine J_istore dX6_takes_26 rfl rfl ?_
  refine J_aload_n dX6_takes_28 rfl rfl ?_
  refine J_dup dX6_takes_29 rfl ?_
  refine gX6_spot wf_X6_167 dX6_takes_30 ?_
  refine J_iload_n dX6_takes_33 rfl rfl ?_
  refine J_if_eq (tgt := 41) dX6_takes_34 (by decide) (fun h34 => ?_) (fun h34 => absurd (by decide) h34)
  refine J_iconst (v := 0) dX6_takes_41 (by decide) ?_
  refine J_iadd dX6_takes_42 ?_
  refine pX6_spot wf_X6_167 dX6_takes_43 ?_
  refine J_aload_n dX6_takes_46 rfl rfl ?_
  refine J_aload_n dX6_takes_47 rfl rfl ?_
  refine gX6_isFaulty wf_X6_163 dX6_takes_48 ?_
  refine J_topi (fun z9 hz9 => ?_)
  obtain rfl : z9 = 1 := hz9.trans (by rw [up_apply, if_neg (by decide)]; exact hfa)
  refine J_if_ne (tgt := 58) dX6_takes_51 (by decide) (fun h51 => ?_) (fun h51 => absurd h51 (by decide))
  refine J_iconst (v := 1) dX6_takes_58 (by decide) ?_
  refine J_goto (tgt := 63) dX6_takes_59 (by decide) ?_
  refine pX6_isFaulty wf_X6_163 dX6_takes_63 (by first | exact Or.inl rfl | exact Or.inr rfl | exact i01 | exact jin01) ?_
  refine J_iload dX6_takes_66 rfl ?_
  refine r_int dX6_takes_68 ?_
  refine ⟨rfl, by simp [up_apply], by simp [up_apply], by simp [up_apply], by simp [up_apply]⟩

set_option maxRecDepth 100000 in
set_option maxHeartbeats 4000000 in
theorem c_X6_readOrder {X : jX} {ad : Nat → Nat} {mem : Mem}  (hl : mem 195 7 = 0) (hsp : mem 195 8 = 0) (hfa : mem 195 9 = 0) : Cm X yX6_readOrder cX6_readOrder 2 (none) 4 ad [.ref 195] mem (fun v m => v = none ∧ m 195 9 = 1 ∧ m 195 8 = 0 ∧ m 195 7 = 0) := by
  refine Cm.of (own := RX6) (nm := "readOrder") (by decide +kernel) rfl rfl rfl rfl ?_
  refine J_aload_n dX6_readOrder_0 rfl rfl ?_
  refine J_aload_n dX6_readOrder_1 rfl rfl ?_
  refine gX6_spot wf_X6_167 dX6_readOrder_2 ?_
  refine J_topi (fun z9 hz9 => ?_)
  obtain rfl : z9 = 0 := hz9.trans (by exact hsp)
  refine J_aload_n dX6_readOrder_5 rfl rfl ?_
  refine gX6_length wf_X6_152 dX6_readOrder_6 ?_
  refine J_topi (fun z9 hz9 => ?_)
  obtain rfl : z9 = 0 := hz9.trans (by exact hl)
  refine J_icmp_ge (tgt := 24) dX6_readOrder_9 (by decide) (fun h9 => ?_) (fun h9 => absurd (by decide) h9)
  refine J_iconst (v := 0) dX6_readOrder_24 (by decide) ?_
  refine pX6_letter wf_X6_176 dX6_readOrder_25 ?_
  refine J_aload_n dX6_readOrder_28 rfl rfl ?_
  refine J_aload_n dX6_readOrder_29 rfl rfl ?_
  refine gX6_isFaulty wf_X6_163 dX6_readOrder_30 ?_
  refine J_topi (fun z9 hz9 => ?_)
  obtain rfl : z9 = 0 := hz9.trans (by simp [up_apply, hfa])
  refine J_if_ne (tgt := 90) dX6_readOrder_33 (by decide) (fun h33 => absurd (by decide) h33) (fun h33 => ?_)
  refine J_aload_n dX6_readOrder_36 rfl rfl ?_
  refine gX6_letter wf_X6_176 dX6_readOrder_37 ?_
  refine J_topi (fun z9 hz9 => ?_)
  obtain rfl : z9 = 0 := hz9.trans (by simp [up_apply])
  refine J_bipush (v := 98) dX6_readOrder_40 (by decide) ?_
  refine J_icmp_eq (tgt := 94) dX6_readOrder_42 (by decide) (fun h42 => absurd h42 (by decide)) (fun h42 => ?_)
  refine J_aload_n dX6_readOrder_45 rfl rfl ?_
  refine gX6_letter wf_X6_176 dX6_readOrder_46 ?_
  refine J_topi (fun z9 hz9 => ?_)
  obtain rfl : z9 = 0 := hz9.trans (by simp [up_apply])
  refine J_bipush (v := 105) dX6_readOrder_49 (by decide) ?_
  refine J_icmp_eq (tgt := 94) dX6_readOrder_51 (by decide) (fun h51 => absurd h51 (by decide)) (fun h51 => ?_)
  refine J_aload_n dX6_readOrder_54 rfl rfl ?_
  refine gX6_letter wf_X6_176 dX6_readOrder_55 ?_
  refine J_topi (fun z9 hz9 => ?_)
  obtain rfl : z9 = 0 := hz9.trans (by simp [up_apply])
  refine J_bipush (v := 111) dX6_readOrder_58 (by decide) ?_
  refine J_icmp_eq (tgt := 94) dX6_readOrder_60 (by decide) (fun h60 => absurd h60 (by decide)) (fun h60 => ?_)
  refine J_aload_n dX6_readOrder_63 rfl rfl ?_
  refine gX6_letter wf_X6_176 dX6_readOrder_64 ?_
  refine J_topi (fun z9 hz9 => ?_)
  obtain rfl : z9 = 0 := hz9.trans (by simp [up_apply])
  refine J_bipush (v := 97) dX6_readOrder_67 (by decide) ?_
  refine J_icmp_eq (tgt := 94) dX6_readOrder_69 (by decide) (fun h69 => absurd h69 (by decide)) (fun h69 => ?_)
  refine J_aload_n dX6_readOrder_72 rfl rfl ?_
  refine gX6_letter wf_X6_176 dX6_readOrder_73 ?_
  refine J_topi (fun z9 hz9 => ?_)
  obtain rfl : z9 = 0 := hz9.trans (by simp [up_apply])
  refine J_bipush (v := 119) dX6_readOrder_76 (by decide) ?_
  refine J_icmp_eq (tgt := 94) dX6_readOrder_78 (by decide) (fun h78 => absurd h78 (by decide)) (fun h78 => ?_)
  refine J_aload_n dX6_readOrder_81 rfl rfl ?_
  refine gX6_letter wf_X6_176 dX6_readOrder_82 ?_
  refine J_topi (fun z9 hz9 => ?_)
  obtain rfl : z9 = 0 := hz9.trans (by simp [up_apply])
  refine J_bipush (v := 116) dX6_readOrder_85 (by decide) ?_
  refine J_icmp_eq (tgt := 94) dX6_readOrder_87 (by decide) (fun h87 => absurd h87 (by decide)) (fun h87 => ?_)
  refine J_iconst (v := 1) dX6_readOrder_90 (by decide) ?_
  refine J_goto (tgt := 95) dX6_readOrder_91 (by decide) ?_
  refine pX6_isFaulty wf_X6_163 dX6_readOrder_95 (by first | exact Or.inl rfl | exact Or.inr rfl | exact i01 | exact jin01) ?_
  refine J_aload_n dX6_readOrder_98 rfl rfl ?_
  refine J_dup dX6_readOrder_99 rfl ?_
  refine gX6_spot wf_X6_167 dX6_readOrder_100 ?_
  refine J_topi (fun z9 hz9 => ?_)
  obtain rfl : z9 = 0 := hz9.trans (by simp [up_apply, hsp])
  refine J_aload_n dX6_readOrder_103 rfl rfl ?_
  refine gX6_isFaulty wf_X6_163 dX6_readOrder_104 ?_
  refine J_topi (fun z9 hz9 => ?_)
  obtain rfl : z9 = 1 := hz9.trans (by simp [up_apply])
  refine J_if_eq (tgt := 114) dX6_readOrder_107 (by decide) (fun h107 => absurd h107 (by decide)) (fun h107 => ?_)
  refine J_iconst (v := 0) dX6_readOrder_110 (by decide) ?_
  refine J_goto (tgt := 115) dX6_readOrder_111 (by decide) ?_
  refine J_iadd dX6_readOrder_115 ?_
  refine pX6_spot wf_X6_167 dX6_readOrder_116 ?_
  refine J_aload_n dX6_readOrder_119 rfl rfl ?_
  refine J_aload_n dX6_readOrder_120 rfl rfl ?_
  refine gX6_letter wf_X6_176 dX6_readOrder_121 ?_
  refine J_topi (fun z9 hz9 => ?_)
  obtain rfl : z9 = 0 := hz9.trans (by simp [up_apply])
  refine J_bipush (v := 98) dX6_readOrder_124 (by decide) ?_
  refine J_icmp_eq (tgt := 138) dX6_readOrder_126 (by decide) (fun h126 => absurd h126 (by decide)) (fun h126 => ?_)
  refine J_aload_n dX6_readOrder_129 rfl rfl ?_
  refine gX6_letter wf_X6_176 dX6_readOrder_130 ?_
  refine J_topi (fun z9 hz9 => ?_)
  obtain rfl : z9 = 0 := hz9.trans (by simp [up_apply])
  refine J_bipush (v := 116) dX6_readOrder_133 (by decide) ?_
  refine J_icmp_ne (tgt := 145) dX6_readOrder_135 (by decide) (fun h135 => ?_) (fun h135 => absurd h135 (by decide))
  refine J_aload_n dX6_readOrder_145 rfl rfl ?_
  refine J_bipush (v := 48) dX6_readOrder_146 (by decide) ?_
  refine J_bipush (v := 57) dX6_readOrder_148 (by decide) ?_
  refine cVg wv_X6_173 (c_X6_takes (by simp [up_apply])) dX6_readOrder_150 ob6 rfl rfl (kk := (fun v m1 hf => ?_))
  obtain ⟨rfl, k9, k8, k10a, k7⟩ := hf
  have k10 : up m1 195 11 0 195 10 = 0 := by simp [up_apply, k10a]
  refine pX6_first wf_X6_182 dX6_readOrder_153 ?_
  refine J_aload_n dX6_readOrder_156 rfl rfl ?_
  refine gX6_letter wf_X6_176 dX6_readOrder_157 ?_
  refine J_topi (fun z9 hz9 => ?_)
  obtain rfl : z9 = 0 := hz9.trans (by exact k10)
  refine J_bipush (v := 98) dX6_readOrder_160 (by decide) ?_
  refine J_icmp_eq (tgt := 183) dX6_readOrder_162 (by decide) (fun h162 => absurd h162 (by decide)) (fun h162 => ?_)
  refine J_aload_n dX6_readOrder_165 rfl rfl ?_
  refine gX6_letter wf_X6_176 dX6_readOrder_166 ?_
  refine J_topi (fun z9 hz9 => ?_)
  obtain rfl : z9 = 0 := hz9.trans (by exact k10)
  refine J_bipush (v := 105) dX6_readOrder_169 (by decide) ?_
  refine J_icmp_eq (tgt := 183) dX6_readOrder_171 (by decide) (fun h171 => absurd h171 (by decide)) (fun h171 => ?_)
  refine J_aload_n dX6_readOrder_174 rfl rfl ?_
  refine gX6_letter wf_X6_176 dX6_readOrder_175 ?_
  refine J_topi (fun z9 hz9 => ?_)
  obtain rfl : z9 = 0 := hz9.trans (by exact k10)
  refine J_bipush (v := 111) dX6_readOrder_178 (by decide) ?_
  refine J_icmp_ne (tgt := 230) dX6_readOrder_180 (by decide) (fun h180 => ?_) (fun h180 => absurd h180 (by decide))
  refine J_aload_n dX6_readOrder_230 rfl rfl ?_
  refine gX6_letter wf_X6_176 dX6_readOrder_231 ?_
  refine J_topi (fun z9 hz9 => ?_)
  obtain rfl : z9 = 0 := hz9.trans (by exact k10)
  refine J_bipush (v := 105) dX6_readOrder_234 (by decide) ?_
  refine J_icmp_ne (tgt := 256) dX6_readOrder_236 (by decide) (fun h236 => ?_) (fun h236 => absurd h236 (by decide))
  refine J_aload_n dX6_readOrder_256 rfl rfl ?_
  refine gX6_letter wf_X6_176 dX6_readOrder_257 ?_
  refine J_topi (fun z9 hz9 => ?_)
  obtain rfl : z9 = 0 := hz9.trans (by exact k10)
  refine J_bipush (v := 119) dX6_readOrder_260 (by decide) ?_
  refine J_icmp_ne (tgt := 277) dX6_readOrder_262 (by decide) (fun h262 => ?_) (fun h262 => absurd h262 (by decide))
  refine r_void dX6_readOrder_277 ?_
  exact ⟨rfl, by simp [up_apply, k9], by simp [up_apply, k8, hsp], by simp [up_apply, k7, hl]⟩

set_option maxRecDepth 100000 in
set_option maxHeartbeats 4000000 in
theorem c_X6_goesThrough {X : jX} {ad : Nat → Nat} {mem : Mem}  (hl : mem 195 7 = 0) : Cm X yX6_goesThrough cX6_goesThrough 5 (some .int) 8 ad [.ref 195, .int 0] mem (fun v m => (∃ n : Int32, v = some (.int n)) ∧ m 195 9 = 1 ∧ m 195 8 = 0) := by
  refine Cm.of (own := RX6) (nm := "goesThrough") (by decide +kernel) rfl rfl rfl rfl ?_
  refine J_aload_n dX6_goesThrough_0 rfl rfl ?_
  refine J_iconst (v := 0) dX6_goesThrough_1 (by decide) ?_
  refine pX6_spot wf_X6_167 dX6_goesThrough_2 ?_
  refine J_aload_n dX6_goesThrough_5 rfl rfl ?_
  refine J_iconst (v := 0) dX6_goesThrough_6 (by decide) ?_
  refine pX6_isFaulty wf_X6_163 dX6_goesThrough_7 (by first | exact Or.inl rfl | exact Or.inr rfl | exact i01 | exact jin01) ?_
  refine J_iconst (v := 0) dX6_goesThrough_10 (by decide) ?_
  refine J_istore_n dX6_goesThrough_11 rfl rfl rfl ?_
  refine J_iconst (v := 1) dX6_goesThrough_12 (by decide) ?_
  refine J_istore_n dX6_goesThrough_13 rfl rfl rfl ?_
  refine J_iload_n dX6_goesThrough_14 rfl rfl ?_
  refine J_if_eq (tgt := 109) dX6_goesThrough_15 (by decide) (fun h15 => absurd h15 (by decide)) (fun h15 => ?_)
  refine J_aload_n dX6_goesThrough_18 rfl rfl ?_
  refine cVg wv_X6_194 (c_X6_readOrder (by simp [up_apply, hl]) (by simp [up_apply]) (by simp [up_apply])) dX6_goesThrough_19 ob6 rfl rfl (kk := (fun v m1 hf => ?_))
  obtain ⟨rfl, k9, k8, k7⟩ := hf
  refine J_aload_n dX6_goesThrough_22 rfl rfl ?_
  refine gX6_isFaulty wf_X6_163 dX6_goesThrough_23 ?_
  refine J_topi (fun z9 hz9 => ?_)
  obtain rfl : z9 = 1 := hz9.trans (by exact k9)
  refine J_if_ne (tgt := 44) dX6_goesThrough_26 (by decide) (fun h26 => ?_) (fun h26 => absurd h26 (by decide))
  refine J_iconst (v := 0) dX6_goesThrough_44 (by decide) ?_
  refine J_istore_n dX6_goesThrough_45 rfl rfl rfl ?_
  refine J_iload_n dX6_goesThrough_46 rfl rfl ?_
  refine J_iload_n dX6_goesThrough_47 rfl rfl ?_
  refine J_if_eq (tgt := 55) dX6_goesThrough_48 (by decide) (fun h48 => ?_) (fun h48 => absurd (by decide) h48)
  refine J_iconst (v := 0) dX6_goesThrough_55 (by decide) ?_
  refine J_iadd dX6_goesThrough_56 ?_
  refine J_istore_n dX6_goesThrough_57 rfl rfl rfl ?_
  refine J_iload_n dX6_goesThrough_58 rfl rfl ?_
  refine J_if_eq (tgt := 77) dX6_goesThrough_59 (by decide) (fun h59 => ?_) (fun h59 => absurd (by decide) h59)
  refine J_iconst (v := 0) dX6_goesThrough_77 (by decide) ?_
  refine J_istore_n dX6_goesThrough_78 rfl rfl rfl ?_
  refine J_iload_n dX6_goesThrough_79 rfl rfl ?_
  refine J_if_eq (tgt := 14) dX6_goesThrough_80 (by decide) (fun h80 => ?_) (fun h80 => absurd (by decide) h80)
  refine J_iload_n dX6_goesThrough_14 rfl rfl ?_
  refine J_if_eq (tgt := 109) dX6_goesThrough_15 (by decide) (fun h15 => ?_) (fun h15 => absurd (by decide) h15)
  refine J_iload_n dX6_goesThrough_109 rfl rfl ?_
  refine r_int dX6_goesThrough_110 ?_
  exact ⟨⟨_, rfl⟩, k9, k8⟩

set_option maxRecDepth 100000 in
set_option maxHeartbeats 4000000 in
theorem c_X6_fault {X : jX} {ad : Nat → Nat} {mem : Mem}  (hl : mem 195 7 = 0) : Cm X yX6_fault cX6_fault 2 (some .int) 9 ad [.ref 195] mem (fun r9 _ => r9 = some (.int 0)) := by
  refine Cm.of (own := RX6) (nm := "fault") (by decide +kernel) rfl rfl rfl rfl ?_
  refine J_aload_n dX6_fault_0 rfl rfl ?_
  refine J_iconst (v := 0) dX6_fault_1 (by decide) ?_
  refine cVg wv_X6_200 (c_X6_goesThrough hl) dX6_fault_2 ob6 rfl rfl (kk := (fun v m1 hf => ?_))
  obtain ⟨⟨n, rfl⟩, k9, k8⟩ := hf
  refine J_istore_n dX6_fault_5 rfl rfl rfl ?_
  refine J_aload_n dX6_fault_6 rfl rfl ?_
  refine gX6_isFaulty wf_X6_163 dX6_fault_7 ?_
  refine J_topi (fun z9 hz9 => ?_)
  obtain rfl : z9 = 1 := hz9.trans (by exact k9)
  refine J_if_eq (tgt := 20) dX6_fault_10 (by decide) (fun h10 => absurd h10 (by decide)) (fun h10 => ?_)
  refine J_aload_n dX6_fault_13 rfl rfl ?_
  refine gX6_spot wf_X6_167 dX6_fault_14 ?_
  refine J_topi (fun z9 hz9 => ?_)
  obtain rfl : z9 = 0 := hz9.trans (by exact k8)
  refine J_goto (tgt := 22) dX6_fault_17 (by decide) ?_
  refine r_int dX6_fault_22 ?_
  exact rfl

set_option maxRecDepth 100000 in
set_option maxHeartbeats 4000000 in
theorem c_X6_carryOut {X : jX} {ad : Nat → Nat} {mem : Mem}  (hl : mem 195 7 = 0) : Cm X yX6_carryOut cX6_carryOut 2 (some .int) 10 ad [.ref 195] mem (fun r9 _ => r9 = some (.int (-3))) := by
  refine Cm.of (own := RX6) (nm := "carryOut") (by decide +kernel) rfl rfl rfl rfl ?_
  refine J_aload_n dX6_carryOut_0 rfl rfl ?_
  refine cVg wv_X6_203 (c_X6_fault hl) dX6_carryOut_1 ob6 rfl rfl (kk := (fun v m1 hf => ?_))
  subst hf
  refine J_bipush (v := -6) dX6_carryOut_4 (by decide) ?_
  refine J_icmp_eq (tgt := 12) dX6_carryOut_6 (by decide) (fun h6 => absurd h6 (by decide)) (fun h6 => ?_)
  refine J_bipush (v := -3) dX6_carryOut_9 (by decide) ?_
  refine r_int dX6_carryOut_11 ?_
  exact rfl

set_option maxRecDepth 100000 in
set_option maxHeartbeats 4000000 in
theorem c_X6_undo {X : jX} {ad : Nat → Nat} {mem : Mem}  (e5 : mem 195 = mem0 195) (e6 : mem 196 = mem0 196) : Cm X yX6_undo cX6_undo 2 (some .int) 0 ad [.ref 195] mem (fun r9 _ => r9 = some (.int (-5))) := by
  refine Cm.of (own := RX6) (nm := "undo") (by decide +kernel) rfl rfl rfl rfl ?_
  refine J_aload_n dX6_undo_0 rfl rfl ?_
  refine gX6_known wf_X6_51 dX6_undo_1 ?_
  refine J_topi (fun z9 hz9 => ?_)
  obtain rfl : z9 = 0 := hz9.trans (by rw [e5]; rfl)
  refine J_if_ne (tgt := 10) dX6_undo_4 (by decide) (fun h4 => absurd (by decide) h4) (fun h4 => ?_)
  refine J_bipush (v := -5) dX6_undo_7 (by decide) ?_
  refine r_int dX6_undo_9 ?_
  exact rfl

set_option maxRecDepth 100000 in
set_option maxHeartbeats 4000000 in
theorem saveLoop {X : jX} {ad : Nat → Nat} {mem : Mem} {t : Nat} (ht : t < 2) : ∀ (n i : Nat) (m : Mem), i + n = 302 → m 196 = mem 196 → Jg X RX6 cX6_save 3 (some .int) "save" 1 0 0 (QF X ad (fun v _ => v = some (.int (mem 196 5)))) ad 0 0 14 [(0, .ref 195), (1, .int (nI t)), (2, .int (nI i))] [] (WS X ad m) := by
  intro n
  induction n with
  | zero =>
    intro i m hi hB
    obtain rfl : i = 302 := by omega
    refine J_iload_n dX6_save_14 rfl rfl ?_
    refine J_sipush (v := 302) dX6_save_15 (by decide) ?_
    refine J_icmp_ge (tgt := 45) dX6_save_18 (by decide) (fun h18 => ?_) (fun h18 => absurd (nI_le1 (a := 302) (b := 302) (Nat.le_refl _) (by omega)) h18)
    refine J_aload_n dX6_save_45 rfl rfl ?_
    refine J_dup dX6_save_46 rfl ?_
    refine gX6_kept wf_X6_206 dX6_save_47 ?_
    refine J_iconst (v := 1) dX6_save_50 (by decide) ?_
    refine J_iload_n dX6_save_51 rfl rfl ?_
    refine J_ishl dX6_save_52 ?_
    refine J_ior dX6_save_53 ?_
    refine pX6_kept wf_X6_206 dX6_save_54 ?_
    refine J_aload_n dX6_save_57 rfl rfl ?_
    refine gX6_s wf_X6_7 dX6_save_58 ?_
    refine J_iconst (v := 5) dX6_save_61 (by decide) ?_
    refine al_ms dX6_save_62 (nIin (k := 5) (by decide) (by decide)) ?_
    refine r_int dX6_save_63 ?_
    exact (by rw [up_ne (by decide), hB]; rfl)
  | succ n ih =>
    intro i m hi hB
    refine J_iload_n dX6_save_14 rfl rfl ?_
    refine J_sipush (v := 302) dX6_save_15 (by decide) ?_
    refine J_icmp_ge (tgt := 45) dX6_save_18 (by decide) (fun h18 => absurd h18 (nI_nle1 (a := i) (b := 302) (by omega) (by omega))) (fun h18 => ?_)
    refine J_aload_n dX6_save_21 rfl rfl ?_
    refine gX6_slots wf_X6_19 dX6_save_22 ?_
    refine J_sipush (v := 302) dX6_save_25 (by decide) ?_
    refine J_iload_n dX6_save_28 rfl rfl ?_
    refine J_imul dX6_save_29 ?_
    refine J_iload_n dX6_save_30 rfl rfl ?_
    refine J_iadd dX6_save_31 ?_
    refine J_aload_n dX6_save_32 rfl rfl ?_
    refine gX6_s wf_X6_7 dX6_save_33 ?_
    refine J_iload_n dX6_save_36 rfl rfl ?_
    refine al_ms dX6_save_37 (nIin (k := i) (by omega) (by decide)) ?_
    refine as_mslots dX6_save_38 (by rw [show (302 : Int32) * nI t + nI i = nI (302 * t + i) from by rw [(show ∀ t, t < 2 → (302 : Int32) * nI t = nI (302 * t) by decide) t ht, nI_add]]; exact nIin (by omega) (by decide)) ?_
    refine J_iinc (v := _ + 1) dX6_save_39 rfl rfl rfl rfl ?_
    rw [show nI i + 1 = nI (i + 1) from (nI_succ i).symm]
    refine J_goto (tgt := 14) dX6_save_42 (by decide) ?_
    exact ih (i + 1) _ (by omega) (by rw [up_ne (by decide), hB])

set_option maxRecDepth 100000 in
set_option maxHeartbeats 4000000 in
theorem c_X6_save {X : jX} {ad : Nat → Nat} {mem : Mem} {s : Int32} (e5 : mem 195 = mem0 195) (e6 : mem 196 = mem0 196) : Cm X yX6_save cX6_save 3 (some .int) 1 ad [.ref 195, .int s] mem (fun r9 _ => r9 = some (.int (svr s))) := by
  refine Cm.of (own := RX6) (nm := "save") (by decide +kernel) rfl rfl rfl rfl ?_
  refine J_iload_n dX6_save_0 rfl rfl ?_
  refine J_iconst (v := 0) dX6_save_1 (by decide) ?_
  refine J_iconst (v := 1) dX6_save_2 (by decide) ?_
  refine cSi ws_X6_25 c_X6_in dX6_save_3 (kk := ?_)
  refine J_if_ne (tgt := 12) dX6_save_6 (by decide) (fun h6 => ?_) (fun h6 => ?_)
  · refine J_iconst (v := 0) dX6_save_12 (by decide) ?_
    refine J_istore_n dX6_save_13 rfl rfl rfl ?_
    have h6c := h6
    obtain ⟨t, ht, rfl⟩ := jin1 h6
    have e : svr (nI t) = mem 196 5 := by rw [e6]; simp only [svr, if_neg h6c]; rfl
    rw [e]
    exact saveLoop ht 302 0 mem rfl rfl
  · refine J_bipush (v := -2) dX6_save_9 (by decide) ?_
    refine r_int dX6_save_11 ?_
    exact (by simp only [svr, *, reduceIte])

set_option maxRecDepth 100000 in
set_option maxHeartbeats 4000000 in
theorem c_X6_restore {X : jX} {ad : Nat → Nat} {mem : Mem} {s : Int32} (e5 : mem 195 = mem0 195) (e6 : mem 196 = mem0 196) : Cm X yX6_restore cX6_restore 3 (some .int) 1 ad [.ref 195, .int s] mem (fun r9 _ => r9 = some (.int (rsr s))) := by
  refine Cm.of (own := RX6) (nm := "restore") (by decide +kernel) rfl rfl rfl rfl ?_
  refine J_iload_n dX6_restore_0 rfl rfl ?_
  refine J_iconst (v := 0) dX6_restore_1 (by decide) ?_
  refine J_iconst (v := 1) dX6_restore_2 (by decide) ?_
  refine cSi ws_X6_25 c_X6_in dX6_restore_3 (kk := ?_)
  refine J_if_ne (tgt := 12) dX6_restore_6 (by decide) (fun h6 => ?_) (fun h6 => ?_)
  · have h6c := h6
    obtain ⟨t, ht, rfl⟩ := jin1 h6
    refine J_aload_n dX6_restore_12 rfl rfl ?_
    refine gX6_kept wf_X6_206 dX6_restore_13 ?_
    refine J_topi (fun z9 hz9 => ?_)
    obtain rfl : z9 = 0 := hz9.trans (by rw [e5]; rfl)
    refine J_iload_n dX6_restore_16 rfl rfl ?_
    refine J_ishr dX6_restore_17 ?_
    refine J_iconst (v := 1) dX6_restore_18 (by decide) ?_
    refine J_iand dX6_restore_19 ?_
    refine J_if_ne (tgt := 26) dX6_restore_20 (by decide) (fun h20 => absurd ((show ∀ t, t < 2 → ((0 : Int32) >>> (nI t &&& 31)) &&& 1 = 0 by decide) t ht) h20) (fun h20 => ?_)
    refine J_bipush (v := -5) dX6_restore_23 (by decide) ?_
    refine r_int dX6_restore_25 ?_
    exact (by simp only [rsr, if_neg h6c])
  · refine J_bipush (v := -2) dX6_restore_9 (by decide) ?_
    refine r_int dX6_restore_11 ?_
    exact (by simp only [rsr, *, reduceIte])

theorem j1317 : ∀ k, k < 20 → jin (nI k) 13 17 = 0 ∨ (13 ≤ k ∧ k ≤ 17) := by decide +kernel
theorem j13in {w : Int32} (h8 : ¬ jin w 13 17 = 0) : vp_in (w - 13) 302 := by
  obtain ⟨k, h1, rfl⟩ := jin_nat (n := 17) (by decide) rfl h8
  rcases j1317 k (by omega) with h | h
  · exact absurd h h8
  · obtain ⟨j, rfl⟩ : ∃ j, k = 13 + j := ⟨k - 13, by omega⟩
    have hj : j < 5 := by omega
    rw [(show ∀ j, j < 5 → nI (13 + j) - 13 = nI j by decide) j hj]
    exact nIin (by omega) (by decide)
theorem jout {w : Int32} (h : w.toInt < 0 ∨ 19 < w.toInt) : jin w 13 17 = 0 := by
  unfold jin
  split
  · rfl
  · next h1 =>
    split
    · rfl
    · next h2 =>
      exfalso
      have a1 := Int32.not_lt.mp h1
      have a2 := Int32.not_lt.mp h2
      rw [Int32.le_iff_toInt_le] at a1 a2
      have e1 : (13 : Int32).toInt = 13 := rfl
      have e2 : (17 : Int32).toInt = 17 := rfl
      omega
set_option maxRecDepth 100000 in
set_option maxHeartbeats 4000000 in
theorem c_X6_count {X : jX} {ad : Nat → Nat} {mem : Mem} {w : Int32} (e5 : mem 195 = mem0 195) (e6 : mem 196 = mem0 196) : Cm X yX6_count cX6_count 2 (some .int) 2 ad [.ref 195, .int w] mem (fun r9 _ => r9 = some (.int (cnr w))) := by
  refine Cm.of (own := RX6) (nm := "count") (by decide +kernel) rfl rfl rfl rfl ?_
  refine J_iload_n dX6_count_0 rfl rfl ?_
  refine J_bipush (v := 13) dX6_count_1 (by decide) ?_
  refine J_bipush (v := 17) dX6_count_3 (by decide) ?_
  refine cSi ws_X6_25 c_X6_in dX6_count_5 (kk := ?_)
  refine J_if_eq (tgt := 21) dX6_count_8 (by decide) (fun h8 => ?_) (fun h8 => ?_)
  · refine J_iload_n dX6_count_21 rfl rfl ?_
    by_cases hts : w.toInt < 0 ∨ 19 < w.toInt
    · refine J_tableOut (tgt := 233) dX6_count_22 hts (by decide) ?_
      refine J_bipush (v := -2) dX6_count_233 (by decide) ?_
      refine r_int dX6_count_235 ?_
      first | exact (by rw [cnr, if_pos hts]) | exact absurd h8 (by decide)
    · obtain ⟨k, hk, rfl⟩ := tin (n := 20) (m := 19) rfl hts
      match k, hk with
      | 0, _ =>
        refine J_tableIn (off := 94) (tgt := 116) dX6_count_22 (by decide) (by decide) (by decide) (by decide) ?_
        refine J_aload_n dX6_count_116 rfl rfl ?_
        refine gX6_s wf_X6_7 dX6_count_117 ?_
        refine J_sipush (v := 297) dX6_count_120 (by decide) ?_
        refine al_ms dX6_count_123 (nIin (k := 297) (by decide) (by decide)) ?_
        refine r_int dX6_count_124 ?_
        first | exact rfl | exact (by rw [e6]; rfl) | exact (by rw [e5]; rfl)
      | 1, _ =>
        refine J_tableIn (off := 103) (tgt := 125) dX6_count_22 (by decide) (by decide) (by decide) (by decide) ?_
        refine J_aload_n dX6_count_125 rfl rfl ?_
        refine gX6_s wf_X6_7 dX6_count_126 ?_
        refine J_iconst (v := 5) dX6_count_129 (by decide) ?_
        refine al_ms dX6_count_130 (nIin (k := 5) (by decide) (by decide)) ?_
        refine r_int dX6_count_131 ?_
        first | exact rfl | exact (by rw [e6]; rfl) | exact (by rw [e5]; rfl)
      | 2, _ =>
        refine J_tableIn (off := 110) (tgt := 132) dX6_count_22 (by decide) (by decide) (by decide) (by decide) ?_
        refine J_aload_n dX6_count_132 rfl rfl ?_
        refine J_iload_n dX6_count_133 rfl rfl ?_
        refine J_iconst (v := 3) dX6_count_134 (by decide) ?_
        refine J_icmp_ne (tgt := 142) dX6_count_135 (by decide) (fun h135 => ?_) (fun h135 => ?_)
        · refine J_iconst (v := 0) dX6_count_142 (by decide) ?_
          refine cVi wv_X6_145 (c_X6_boards (by rw [e6]; rfl)) dX6_count_143 ob6 rfl rfl (kk := ?_)
          refine r_int dX6_count_146 ?_
          first | exact rfl | exact (by rw [e6]; rfl) | exact (by rw [e5]; rfl)
        · refine J_iconst (v := 1) dX6_count_138 (by decide) ?_
          refine J_goto (tgt := 143) dX6_count_139 (by decide) ?_
          refine cVi wv_X6_145 (c_X6_boards (by rw [e6]; rfl)) dX6_count_143 ob6 rfl rfl (kk := ?_)
          refine r_int dX6_count_146 ?_
          first | exact rfl | exact (by rw [e6]; rfl) | exact (by rw [e5]; rfl)
      | 3, _ =>
        refine J_tableIn (off := 110) (tgt := 132) dX6_count_22 (by decide) (by decide) (by decide) (by decide) ?_
        refine J_aload_n dX6_count_132 rfl rfl ?_
        refine J_iload_n dX6_count_133 rfl rfl ?_
        refine J_iconst (v := 3) dX6_count_134 (by decide) ?_
        refine J_icmp_ne (tgt := 142) dX6_count_135 (by decide) (fun h135 => ?_) (fun h135 => ?_)
        · refine J_iconst (v := 0) dX6_count_142 (by decide) ?_
          refine cVi wv_X6_145 (c_X6_boards (by rw [e6]; rfl)) dX6_count_143 ob6 rfl rfl (kk := ?_)
          refine r_int dX6_count_146 ?_
          first | exact rfl | exact (by rw [e6]; rfl) | exact (by rw [e5]; rfl)
        · refine J_iconst (v := 1) dX6_count_138 (by decide) ?_
          refine J_goto (tgt := 143) dX6_count_139 (by decide) ?_
          refine cVi wv_X6_145 (c_X6_boards (by rw [e6]; rfl)) dX6_count_143 ob6 rfl rfl (kk := ?_)
          refine r_int dX6_count_146 ?_
          first | exact rfl | exact (by rw [e6]; rfl) | exact (by rw [e5]; rfl)
      | 4, _ =>
        refine J_tableIn (off := 125) (tgt := 147) dX6_count_22 (by decide) (by decide) (by decide) (by decide) ?_
        refine J_aload_n dX6_count_147 rfl rfl ?_
        refine gX6_s wf_X6_7 dX6_count_148 ?_
        refine J_bipush (v := 94) dX6_count_151 (by decide) ?_
        refine al_ms dX6_count_153 (nIin (k := 94) (by decide) (by decide)) ?_
        refine r_int dX6_count_154 ?_
        first | exact rfl | exact (by rw [e6]; rfl) | exact (by rw [e5]; rfl)
      | 5, _ =>
        refine J_tableIn (off := 133) (tgt := 155) dX6_count_22 (by decide) (by decide) (by decide) (by decide) ?_
        refine J_aload_n dX6_count_155 rfl rfl ?_
        refine gX6_s wf_X6_7 dX6_count_156 ?_
        refine J_sipush (v := 300) dX6_count_159 (by decide) ?_
        refine al_ms dX6_count_162 (nIin (k := 300) (by decide) (by decide)) ?_
        refine r_int dX6_count_163 ?_
        first | exact rfl | exact (by rw [e6]; rfl) | exact (by rw [e5]; rfl)
      | 6, _ =>
        refine J_tableIn (off := 142) (tgt := 164) dX6_count_22 (by decide) (by decide) (by decide) (by decide) ?_
        refine J_aload_n dX6_count_164 rfl rfl ?_
        refine gX6_s wf_X6_7 dX6_count_165 ?_
        refine J_sipush (v := 301) dX6_count_168 (by decide) ?_
        refine al_ms dX6_count_171 (nIin (k := 301) (by decide) (by decide)) ?_
        refine r_int dX6_count_172 ?_
        first | exact rfl | exact (by rw [e6]; rfl) | exact (by rw [e5]; rfl)
      | 7, _ =>
        refine J_tableIn (off := 151) (tgt := 173) dX6_count_22 (by decide) (by decide) (by decide) (by decide) ?_
        refine J_aload_n dX6_count_173 rfl rfl ?_
        refine gX6_s wf_X6_7 dX6_count_174 ?_
        refine J_sipush (v := 295) dX6_count_177 (by decide) ?_
        refine al_ms dX6_count_180 (nIin (k := 295) (by decide) (by decide)) ?_
        refine r_int dX6_count_181 ?_
        first | exact rfl | exact (by rw [e6]; rfl) | exact (by rw [e5]; rfl)
      | 8, _ =>
        refine J_tableIn (off := 160) (tgt := 182) dX6_count_22 (by decide) (by decide) (by decide) (by decide) ?_
        refine J_aload_n dX6_count_182 rfl rfl ?_
        refine cVi wv_X6_92 (c_X6_isHeld (by rw [e6]; rfl)) dX6_count_183 ob6 rfl rfl (kk := ?_)
        refine J_if_eq (tgt := 193) dX6_count_186 (by decide) (fun h186 => ?_) (fun h186 => absurd (by decide) h186)
        refine J_iconst (v := 0) dX6_count_193 (by decide) ?_
        refine r_int dX6_count_194 ?_
        first | exact rfl | exact (by rw [e6]; rfl) | exact (by rw [e5]; rfl)
      | 9, _ =>
        refine J_tableIn (off := 173) (tgt := 195) dX6_count_22 (by decide) (by decide) (by decide) (by decide) ?_
        refine J_aload_n dX6_count_195 rfl rfl ?_
        refine cVi wv_X6_62 (c_X6_draw (by rw [e6]; rfl)) dX6_count_196 ob6 rfl rfl (kk := ?_)
        refine r_int dX6_count_199 ?_
        first | exact rfl | exact (by rw [e6]; rfl) | exact (by rw [e5]; rfl)
      | 10, _ =>
        refine J_tableIn (off := 178) (tgt := 200) dX6_count_22 (by decide) (by decide) (by decide) (by decide) ?_
        refine J_aload_n dX6_count_200 rfl rfl ?_
        refine gX6_s wf_X6_7 dX6_count_201 ?_
        refine J_sipush (v := 298) dX6_count_204 (by decide) ?_
        refine al_ms dX6_count_207 (nIin (k := 298) (by decide) (by decide)) ?_
        refine r_int dX6_count_208 ?_
        first | exact rfl | exact (by rw [e6]; rfl) | exact (by rw [e5]; rfl)
      | 11, _ =>
        refine J_tableIn (off := 187) (tgt := 209) dX6_count_22 (by decide) (by decide) (by decide) (by decide) ?_
        refine J_aload_n dX6_count_209 rfl rfl ?_
        refine gX6_s wf_X6_7 dX6_count_210 ?_
        refine J_sipush (v := 299) dX6_count_213 (by decide) ?_
        refine al_ms dX6_count_216 (nIin (k := 299) (by decide) (by decide)) ?_
        refine r_int dX6_count_217 ?_
        first | exact rfl | exact (by rw [e6]; rfl) | exact (by rw [e5]; rfl)
      | 12, _ =>
        refine J_tableIn (off := 196) (tgt := 218) dX6_count_22 (by decide) (by decide) (by decide) (by decide) ?_
        refine J_aload_n dX6_count_218 rfl rfl ?_
        refine cVi wv_X6_149 (c_X6_tooSoon (by rw [e6]; rfl)) dX6_count_219 ob6 rfl rfl (kk := ?_)
        refine r_int dX6_count_222 ?_
        first | exact rfl | exact (by rw [e6]; rfl) | exact (by rw [e5]; rfl)
      | 13, _ =>
        refine J_tableIn (off := 211) (tgt := 233) dX6_count_22 (by decide) (by decide) (by decide) (by decide) ?_
        refine J_bipush (v := -2) dX6_count_233 (by decide) ?_
        refine r_int dX6_count_235 ?_
        first | exact (by rw [cnr, if_pos hts]) | exact absurd h8 (by decide)
      | 14, _ =>
        refine J_tableIn (off := 211) (tgt := 233) dX6_count_22 (by decide) (by decide) (by decide) (by decide) ?_
        refine J_bipush (v := -2) dX6_count_233 (by decide) ?_
        refine r_int dX6_count_235 ?_
        first | exact (by rw [cnr, if_pos hts]) | exact absurd h8 (by decide)
      | 15, _ =>
        refine J_tableIn (off := 211) (tgt := 233) dX6_count_22 (by decide) (by decide) (by decide) (by decide) ?_
        refine J_bipush (v := -2) dX6_count_233 (by decide) ?_
        refine r_int dX6_count_235 ?_
        first | exact (by rw [cnr, if_pos hts]) | exact absurd h8 (by decide)
      | 16, _ =>
        refine J_tableIn (off := 211) (tgt := 233) dX6_count_22 (by decide) (by decide) (by decide) (by decide) ?_
        refine J_bipush (v := -2) dX6_count_233 (by decide) ?_
        refine r_int dX6_count_235 ?_
        first | exact (by rw [cnr, if_pos hts]) | exact absurd h8 (by decide)
      | 17, _ =>
        refine J_tableIn (off := 211) (tgt := 233) dX6_count_22 (by decide) (by decide) (by decide) (by decide) ?_
        refine J_bipush (v := -2) dX6_count_233 (by decide) ?_
        refine r_int dX6_count_235 ?_
        first | exact (by rw [cnr, if_pos hts]) | exact absurd h8 (by decide)
      | 18, _ =>
        refine J_tableIn (off := 201) (tgt := 223) dX6_count_22 (by decide) (by decide) (by decide) (by decide) ?_
        refine J_aload_n dX6_count_223 rfl rfl ?_
        refine gX6_length wf_X6_152 dX6_count_224 ?_
        refine r_int dX6_count_227 ?_
        first | exact rfl | exact (by rw [e6]; rfl) | exact (by rw [e5]; rfl)
      | 19, _ =>
        refine J_tableIn (off := 206) (tgt := 228) dX6_count_22 (by decide) (by decide) (by decide) (by decide) ?_
        refine J_aload_n dX6_count_228 rfl rfl ?_
        refine gX6_known wf_X6_51 dX6_count_229 ?_
        refine r_int dX6_count_232 ?_
        first | exact rfl | exact (by rw [e6]; rfl) | exact (by rw [e5]; rfl)
      | k + 20, hk => exact absurd hk (by omega)
  · refine J_aload_n dX6_count_11 rfl rfl ?_
    refine gX6_s wf_X6_7 dX6_count_12 ?_
    refine J_iload_n dX6_count_15 rfl rfl ?_
    refine J_bipush (v := 13) dX6_count_16 (by decide) ?_
    refine J_isub dX6_count_18 ?_
    refine al_ms dX6_count_19 (j13in h8) ?_
    refine r_int dX6_count_20 ?_
    obtain ⟨k, h1, rfl⟩ := jin_nat (n := 17) (by decide) rfl h8
    rcases j1317 k (by omega) with h | h
    · exact absurd h h8
    · obtain ⟨j, rfl⟩ : ∃ j, k = 13 + j := ⟨k - 13, by omega⟩
      have hj : j < 5 := by omega
      match j, hj with
      | 0, _ => rw [e6]; rfl
      | 1, _ => rw [e6]; rfl
      | 2, _ => rw [e6]; rfl
      | 3, _ => rw [e6]; rfl
      | 4, _ => rw [e6]; rfl

