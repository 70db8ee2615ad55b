theorem r_lit {X : jX} {own : String} {cc : ByteArray} {nL : Nat} {nm : String} {d CR SR : Nat} {ad : Nat → Nat} {pc : Nat} {lv : List (Nat × Value)} {mem : Mem} {fin : Option Value → Mem → Prop} {ty : FieldType} {x : Int32} (hdg : decode cc pc = .ok (.ireturn, 1)) (hn : narrow ty (.int x) = .int x) (hfin : fin (some (.int x)) mem) : Jg X own cc nL (some ty) nm d CR SR (QF X ad fin) ad (0) (0) (pc) (lv) ([.int x]) (WS X ad (mem)) := J_ireturn hdg hn rfl rfl ⟨mem, rfl, hfin⟩
set_option maxRecDepth 100000 in
set_option maxHeartbeats 4000000 in
theorem c_chkR {X : jX} {ad : Nat → Nat} {mem : Mem} {k n : Nat} {q : Nat} (hk : k < n) (hn : n ≤ 1000) : Cd X yJ3_checkIndex_8e157 cJ3_checkIndex_8e157 3 (some .int) 1 ad [.int (nI k), .int (nI n), .ref q] mem (some (.int (nI k))) (mem) := by
  refine Cm.of (own := RJ3) (nm := "checkIndex") (by decide +kernel) rfl rfl rfl rfl ?_
  refine J_iload_n dJ3_checkIndex_8e157_0 rfl rfl ?_
  refine J_if_lt (tgt := 9) dJ3_checkIndex_8e157_1 (by decide) (fun h1 => absurd h1 (nI_lt0 (by omega))) (fun h1 => ?_)
  refine J_iload_n dJ3_checkIndex_8e157_4 rfl rfl ?_
  refine J_iload_n dJ3_checkIndex_8e157_5 rfl rfl ?_
  refine J_icmp_lt (tgt := 16) dJ3_checkIndex_8e157_6 (by decide) (fun h6 => ?_) (fun h6 => absurd (Int32.not_le.mp (nI_nle1 hk (by omega))) h6)
  refine J_iload_n dJ3_checkIndex_8e157_16 rfl rfl ?_
  refine r_int dJ3_checkIndex_8e157_17 ?_
  exact ⟨rfl, rfl⟩

set_option maxRecDepth 100000 in
set_option maxHeartbeats 4000000 in
theorem c_chkN {X : jX} {ad : Nat → Nat} {mem : Mem} {k n : Nat} (hk : k < n) (hn : n ≤ 1000) : Cd X yJ3_checkIndex_8e157 cJ3_checkIndex_8e157 3 (some .int) 1 ad [.int (nI k), .int (nI n), .null] mem (some (.int (nI k))) (mem) := by
  refine Cm.of (own := RJ3) (nm := "checkIndex") (by decide +kernel) rfl rfl rfl rfl ?_
  refine J_iload_n dJ3_checkIndex_8e157_0 rfl rfl ?_
  refine J_if_lt (tgt := 9) dJ3_checkIndex_8e157_1 (by decide) (fun h1 => absurd h1 (nI_lt0 (by omega))) (fun h1 => ?_)
  refine J_iload_n dJ3_checkIndex_8e157_4 rfl rfl ?_
  refine J_iload_n dJ3_checkIndex_8e157_5 rfl rfl ?_
  refine J_icmp_lt (tgt := 16) dJ3_checkIndex_8e157_6 (by decide) (fun h6 => ?_) (fun h6 => absurd (Int32.not_le.mp (nI_nle1 hk (by omega))) h6)
  refine J_iload_n dJ3_checkIndex_8e157_16 rfl rfl ?_
  refine r_int dJ3_checkIndex_8e157_17 ?_
  exact ⟨rfl, rfl⟩

set_option maxRecDepth 100000 in
set_option maxHeartbeats 4000000 in
theorem ciR {X : jX} {ad : Nat → Nat} {mem : Mem} {k n : Nat} {q : Nat} (hk : k < n) (hn : n ≤ 1000) : Jg X RJ0 cJ0_checkIndex_df160 2 (none) "checkIndex" 2 0 0 (QF X ad (fun v9 m9 => v9 = none ∧ m9 = mem)) ad 0 0 5 [(0, .int (nI k)), (1, .int (nI n))] [.ref q, .int (nI n), .int (nI k)] (WS X ad mem) := by
  refine cSi ws_J0_1059 (c_chkR hk hn) dJ0_checkIndex_df160_5 (kk := ?_)
  refine J_pop dJ0_checkIndex_df160_8 rfl ?_
  refine r_void dJ0_checkIndex_df160_9 ?_
  exact ⟨rfl, rfl⟩

set_option maxRecDepth 100000 in
set_option maxHeartbeats 4000000 in
theorem ciN {X : jX} {ad : Nat → Nat} {mem : Mem} {k n : Nat} (hk : k < n) (hn : n ≤ 1000) : Jg X RJ0 cJ0_checkIndex_df160 2 (none) "checkIndex" 2 0 0 (QF X ad (fun v9 m9 => v9 = none ∧ m9 = mem)) ad 0 0 5 [(0, .int (nI k)), (1, .int (nI n))] [.null, .int (nI n), .int (nI k)] (WS X ad mem) := by
  refine cSi ws_J0_1059 (c_chkN hk hn) dJ0_checkIndex_df160_5 (kk := ?_)
  refine J_pop dJ0_checkIndex_df160_8 rfl ?_
  refine r_void dJ0_checkIndex_df160_9 ?_
  exact ⟨rfl, rfl⟩

set_option maxRecDepth 100000 in
set_option maxHeartbeats 4000000 in
theorem c_J0_checkIndex_df160 {X : jX} {ad : Nat → Nat} {mem : Mem} {k n : Nat} (hk : k < n) (hn : n ≤ 1000) (had : ∀ k, ad (1000 + k) = jx X k) : Cd X yJ0_checkIndex_df160 cJ0_checkIndex_df160 2 (none) 2 ad [.int (nI k), .int (nI n)] mem none (mem) := by
  refine Cm.of (own := RJ0) (nm := "checkIndex") (by decide +kernel) rfl rfl rfl rfl ?_
  refine J_iload_n dJ0_checkIndex_df160_0 rfl rfl ?_
  refine J_iload_n dJ0_checkIndex_df160_1 rfl rfl ?_
  refine J_getsForm (n := 1003) (had 3) wf_J0_1053 dJ0_checkIndex_df160_2 (fun v9 hv9 => ?_)
  rcases hv9 with rfl | rfl
  · exact ciN hk hn
  · exact ciR hk hn

set_option maxRecDepth 100000 in
set_option maxHeartbeats 4000000 in
theorem c_empty0 {X : jX} {ad : Nat → Nat} {mem : Mem}  (had : ∀ k, ad (1000 + k) = jx X k) : Cd X yJ0_isEmpty_aae02 cJ0_isEmpty_aae02 1 (some .boolean) 0 ad [.ref 1010] mem (some (.int 0)) (mem) := by
  refine Cm.of (own := RJ0) (nm := "isEmpty") (by decide +kernel) rfl rfl rfl rfl ?_
  refine J_aload_n dJ0_isEmpty_aae02_0 rfl rfl ?_
  refine J_sval (q := 1020) 0 (by decide) (had 10) (had 20) wf_J0_9 dJ0_isEmpty_aae02_1 ?_
  refine J_slenb (v := 3) 0 (by decide) (had 20) rfl dJ0_isEmpty_aae02_4 ?_
  refine J_if_ne (tgt := 12) dJ0_isEmpty_aae02_5 (by decide) (fun h5 => ?_) (fun h5 => ?_)
  · refine J_iconst (v := 0) dJ0_isEmpty_aae02_12 (by decide) ?_
    refine r_bool dJ0_isEmpty_aae02_13 (by first | exact Or.inl rfl | exact Or.inr rfl | exact i01 | exact jin01) ?_
    first | exact ⟨rfl, rfl⟩ | exact absurd h5 (by decide)
  · refine J_iconst (v := 1) dJ0_isEmpty_aae02_8 (by decide) ?_
    refine J_goto (tgt := 13) dJ0_isEmpty_aae02_9 (by decide) ?_
    refine r_bool dJ0_isEmpty_aae02_13 (by first | exact Or.inl rfl | exact Or.inr rfl | exact i01 | exact jin01) ?_
    first | exact ⟨rfl, rfl⟩ | exact absurd h5 (by decide)

set_option maxRecDepth 100000 in
set_option maxHeartbeats 4000000 in
theorem c_coder0 {X : jX} {ad : Nat → Nat} {mem : Mem}  (had : ∀ k, ad (1000 + k) = jx X k) : Cd X yJ0_coder_7d493 cJ0_coder_7d493 1 (some .byte) 0 ad [.ref 1010] mem (some (.int 0)) (mem) := by
  refine Cm.of (own := RJ0) (nm := "coder") (by decide +kernel) rfl rfl rfl rfl ?_
  refine J_getsCompact wf_J0_38 dJ0_coder_7d493_0 ?_
  refine J_if_eq (tgt := 13) dJ0_coder_7d493_3 (by decide) (fun h3 => ?_) (fun h3 => ?_)
  · refine J_iconst (v := 1) dJ0_coder_7d493_13 (by decide) ?_
    refine r_lit dJ0_coder_7d493_14 rfl ?_
    first | exact ⟨rfl, rfl⟩ | exact absurd h3 (by decide)
  · refine J_aload_n dJ0_coder_7d493_6 rfl rfl ?_
    refine J_scoder 0 (by decide) (had 10) wf_J0_15 dJ0_coder_7d493_7 ?_
    refine J_goto (tgt := 14) dJ0_coder_7d493_10 (by decide) ?_
    refine r_lit dJ0_coder_7d493_14 rfl ?_
    first | exact ⟨rfl, rfl⟩ | exact absurd h3 (by decide)

set_option maxRecDepth 100000 in
set_option maxHeartbeats 4000000 in
theorem c_latin0 {X : jX} {ad : Nat → Nat} {mem : Mem}  (had : ∀ k, ad (1000 + k) = jx X k) : Cd X yJ0_isLatin1_aae02 cJ0_isLatin1_aae02 1 (some .boolean) 0 ad [.ref 1010] mem (some (.int 1)) (mem) := by
  refine Cm.of (own := RJ0) (nm := "isLatin1") (by decide +kernel) rfl rfl rfl rfl ?_
  refine J_getsCompact wf_J0_38 dJ0_isLatin1_aae02_0 ?_
  refine J_if_eq (tgt := 17) dJ0_isLatin1_aae02_3 (by decide) (fun h3 => ?_) (fun h3 => ?_)
  · refine J_iconst (v := 0) dJ0_isLatin1_aae02_17 (by decide) ?_
    refine r_bool dJ0_isLatin1_aae02_18 (by first | exact Or.inl rfl | exact Or.inr rfl | exact i01 | exact jin01) ?_
    first | exact ⟨rfl, rfl⟩ | exact absurd h3 (by decide) | exact absurd rfl h10
  · refine J_aload_n dJ0_isLatin1_aae02_6 rfl rfl ?_
    refine J_scoder 0 (by decide) (had 10) wf_J0_15 dJ0_isLatin1_aae02_7 ?_
    refine J_if_ne (tgt := 17) dJ0_isLatin1_aae02_10 (by decide) (fun h10 => ?_) (fun h10 => ?_)
    · refine J_iconst (v := 0) dJ0_isLatin1_aae02_17 (by decide) ?_
      refine r_bool dJ0_isLatin1_aae02_18 (by first | exact Or.inl rfl | exact Or.inr rfl | exact i01 | exact jin01) ?_
      first | exact ⟨rfl, rfl⟩ | exact absurd h3 (by decide) | exact absurd rfl h10
    · refine J_iconst (v := 1) dJ0_isLatin1_aae02_13 (by decide) ?_
      refine J_goto (tgt := 18) dJ0_isLatin1_aae02_14 (by decide) ?_
      refine r_bool dJ0_isLatin1_aae02_18 (by first | exact Or.inl rfl | exact Or.inr rfl | exact i01 | exact jin01) ?_
      first | exact ⟨rfl, rfl⟩ | exact absurd h3 (by decide) | exact absurd rfl h10

set_option maxRecDepth 100000 in
set_option maxHeartbeats 4000000 in
theorem c_len0 {X : jX} {ad : Nat → Nat} {mem : Mem}  (had : ∀ k, ad (1000 + k) = jx X k) : Cd X yJ0_length_8abf5 cJ0_length_8abf5 1 (some .int) 1 ad [.ref 1010] mem (some (.int 3)) (mem) := by
  refine Cm.of (own := RJ0) (nm := "length") (by decide +kernel) rfl rfl rfl rfl ?_
  refine J_aload_n dJ0_length_8abf5_0 rfl rfl ?_
  refine J_sval (q := 1020) 0 (by decide) (had 10) (had 20) wf_J0_9 dJ0_length_8abf5_1 ?_
  refine J_slenb (v := 3) 0 (by decide) (had 20) rfl dJ0_length_8abf5_4 ?_
  refine J_aload_n dJ0_length_8abf5_5 rfl rfl ?_
  refine cStri wv_J0_335 (c_coder0 had) dJ0_length_8abf5_6 0 (by decide) (had 10) (kk := ?_)
  refine J_ishr dJ0_length_8abf5_9 ?_
  refine r_int dJ0_length_8abf5_10 ?_
  exact ⟨rfl, rfl⟩

set_option maxRecDepth 100000 in
set_option maxHeartbeats 4000000 in
theorem c_lat0_0 {X : jX} {ad : Nat → Nat} {mem : Mem}  (had : ∀ k, ad (1000 + k) = jx X k) : Cd X yJ1_charAt_3b067 cJ1_charAt_3b067 2 (some .char) 3 ad [.ref 1020, .int 0] mem (some (.int 35)) (mem) := by
  refine Cm.of (own := RJ1) (nm := "charAt") (by decide +kernel) rfl rfl rfl rfl ?_
  refine J_iload_n dJ1_charAt_3b067_0 rfl rfl ?_
  refine J_aload_n dJ1_charAt_3b067_1 rfl rfl ?_
  refine J_slenb (v := 3) 0 (by decide) (had 20) rfl dJ1_charAt_3b067_2 ?_
  refine cSv ws_J1_9 (c_J0_checkIndex_df160 (k := 0) (n := 3) (by decide) (by decide) had) dJ1_charAt_3b067_3 (kk := ?_)
  refine J_aload_n dJ1_charAt_3b067_6 rfl rfl ?_
  refine J_iload_n dJ1_charAt_3b067_7 rfl rfl ?_
  refine J_sbyte (x := 35) 0 (by decide) (had 20) (nIin (k := 0) (by decide) (by decide)) rfl dJ1_charAt_3b067_8 ?_
  refine J_sipush (v := 255) dJ1_charAt_3b067_9 (by decide) ?_
  refine J_iand dJ1_charAt_3b067_12 ?_
  refine J_i2c dJ1_charAt_3b067_13 rfl ?_
  refine J_topi (fun z9 hz9 => ?_)
  obtain rfl : z9 = 35 := hz9.trans (by decide)
  clear hz9
  refine r_lit dJ1_charAt_3b067_14 rfl ?_
  exact ⟨rfl, rfl⟩

set_option maxRecDepth 100000 in
set_option maxHeartbeats 4000000 in
theorem c_char0_0 {X : jX} {ad : Nat → Nat} {mem : Mem}  (had : ∀ k, ad (1000 + k) = jx X k) : Cd X yJ0_charAt_5068e cJ0_charAt_5068e 2 (some .char) 4 ad [.ref 1010, .int 0] mem (some (.int 35)) (mem) := by
  refine Cm.of (own := RJ0) (nm := "charAt") (by decide +kernel) rfl rfl rfl rfl ?_
  refine J_aload_n dJ0_charAt_5068e_0 rfl rfl ?_
  refine cStri wv_J0_492 (c_latin0 had) dJ0_charAt_5068e_1 0 (by decide) (had 10) (kk := ?_)
  refine J_if_eq (tgt := 16) dJ0_charAt_5068e_4 (by decide) (fun h4 => absurd h4 (by decide)) (fun h4 => ?_)
  refine J_aload_n dJ0_charAt_5068e_7 rfl rfl ?_
  refine J_sval (q := 1020) 0 (by decide) (had 10) (had 20) wf_J0_9 dJ0_charAt_5068e_8 ?_
  refine J_iload_n dJ0_charAt_5068e_11 rfl rfl ?_
  refine cSi ws_J0_495 (c_lat0_0 had) dJ0_charAt_5068e_12 (kk := ?_)
  refine r_lit dJ0_charAt_5068e_15 rfl ?_
  exact ⟨rfl, rfl⟩

set_option maxRecDepth 100000 in
set_option maxHeartbeats 4000000 in
theorem c_lat0_1 {X : jX} {ad : Nat → Nat} {mem : Mem}  (had : ∀ k, ad (1000 + k) = jx X k) : Cd X yJ1_charAt_3b067 cJ1_charAt_3b067 2 (some .char) 3 ad [.ref 1020, .int 1] mem (some (.int 46)) (mem) := by
  refine Cm.of (own := RJ1) (nm := "charAt") (by decide +kernel) rfl rfl rfl rfl ?_
  refine J_iload_n dJ1_charAt_3b067_0 rfl rfl ?_
  refine J_aload_n dJ1_charAt_3b067_1 rfl rfl ?_
  refine J_slenb (v := 3) 0 (by decide) (had 20) rfl dJ1_charAt_3b067_2 ?_
  refine cSv ws_J1_9 (c_J0_checkIndex_df160 (k := 1) (n := 3) (by decide) (by decide) had) dJ1_charAt_3b067_3 (kk := ?_)
  refine J_aload_n dJ1_charAt_3b067_6 rfl rfl ?_
  refine J_iload_n dJ1_charAt_3b067_7 rfl rfl ?_
  refine J_sbyte (x := 46) 0 (by decide) (had 20) (nIin (k := 1) (by decide) (by decide)) rfl dJ1_charAt_3b067_8 ?_
  refine J_sipush (v := 255) dJ1_charAt_3b067_9 (by decide) ?_
  refine J_iand dJ1_charAt_3b067_12 ?_
  refine J_i2c dJ1_charAt_3b067_13 rfl ?_
  refine J_topi (fun z9 hz9 => ?_)
  obtain rfl : z9 = 46 := hz9.trans (by decide)
  clear hz9
  refine r_lit dJ1_charAt_3b067_14 rfl ?_
  exact ⟨rfl, rfl⟩

set_option maxRecDepth 100000 in
set_option maxHeartbeats 4000000 in
theorem c_char0_1 {X : jX} {ad : Nat → Nat} {mem : Mem}  (had : ∀ k, ad (1000 + k) = jx X k) : Cd X yJ0_charAt_5068e cJ0_charAt_5068e 2 (some .char) 4 ad [.ref 1010, .int 1] mem (some (.int 46)) (mem) := by
  refine Cm.of (own := RJ0) (nm := "charAt") (by decide +kernel) rfl rfl rfl rfl ?_
  refine J_aload_n dJ0_charAt_5068e_0 rfl rfl ?_
  refine cStri wv_J0_492 (c_latin0 had) dJ0_charAt_5068e_1 0 (by decide) (had 10) (kk := ?_)
  refine J_if_eq (tgt := 16) dJ0_charAt_5068e_4 (by decide) (fun h4 => absurd h4 (by decide)) (fun h4 => ?_)
  refine J_aload_n dJ0_charAt_5068e_7 rfl rfl ?_
  refine J_sval (q := 1020) 0 (by decide) (had 10) (had 20) wf_J0_9 dJ0_charAt_5068e_8 ?_
  refine J_iload_n dJ0_charAt_5068e_11 rfl rfl ?_
  refine cSi ws_J0_495 (c_lat0_1 had) dJ0_charAt_5068e_12 (kk := ?_)
  refine r_lit dJ0_charAt_5068e_15 rfl ?_
  exact ⟨rfl, rfl⟩

set_option maxRecDepth 100000 in
set_option maxHeartbeats 4000000 in
theorem c_lat0_2 {X : jX} {ad : Nat → Nat} {mem : Mem}  (had : ∀ k, ad (1000 + k) = jx X k) : Cd X yJ1_charAt_3b067 cJ1_charAt_3b067 2 (some .char) 3 ad [.ref 1020, .int 2] mem (some (.int 35)) (mem) := by
  refine Cm.of (own := RJ1) (nm := "charAt") (by decide +kernel) rfl rfl rfl rfl ?_
  refine J_iload_n dJ1_charAt_3b067_0 rfl rfl ?_
  refine J_aload_n dJ1_charAt_3b067_1 rfl rfl ?_
  refine J_slenb (v := 3) 0 (by decide) (had 20) rfl dJ1_charAt_3b067_2 ?_
  refine cSv ws_J1_9 (c_J0_checkIndex_df160 (k := 2) (n := 3) (by decide) (by decide) had) dJ1_charAt_3b067_3 (kk := ?_)
  refine J_aload_n dJ1_charAt_3b067_6 rfl rfl ?_
  refine J_iload_n dJ1_charAt_3b067_7 rfl rfl ?_
  refine J_sbyte (x := 35) 0 (by decide) (had 20) (nIin (k := 2) (by decide) (by decide)) rfl dJ1_charAt_3b067_8 ?_
  refine J_sipush (v := 255) dJ1_charAt_3b067_9 (by decide) ?_
  refine J_iand dJ1_charAt_3b067_12 ?_
  refine J_i2c dJ1_charAt_3b067_13 rfl ?_
  refine J_topi (fun z9 hz9 => ?_)
  obtain rfl : z9 = 35 := hz9.trans (by decide)
  clear hz9
  refine r_lit dJ1_charAt_3b067_14 rfl ?_
  exact ⟨rfl, rfl⟩

set_option maxRecDepth 100000 in
set_option maxHeartbeats 4000000 in
theorem c_char0_2 {X : jX} {ad : Nat → Nat} {mem : Mem}  (had : ∀ k, ad (1000 + k) = jx X k) : Cd X yJ0_charAt_5068e cJ0_charAt_5068e 2 (some .char) 4 ad [.ref 1010, .int 2] mem (some (.int 35)) (mem) := by
  refine Cm.of (own := RJ0) (nm := "charAt") (by decide +kernel) rfl rfl rfl rfl ?_
  refine J_aload_n dJ0_charAt_5068e_0 rfl rfl ?_
  refine cStri wv_J0_492 (c_latin0 had) dJ0_charAt_5068e_1 0 (by decide) (had 10) (kk := ?_)
  refine J_if_eq (tgt := 16) dJ0_charAt_5068e_4 (by decide) (fun h4 => absurd h4 (by decide)) (fun h4 => ?_)
  refine J_aload_n dJ0_charAt_5068e_7 rfl rfl ?_
  refine J_sval (q := 1020) 0 (by decide) (had 10) (had 20) wf_J0_9 dJ0_charAt_5068e_8 ?_
  refine J_iload_n dJ0_charAt_5068e_11 rfl rfl ?_
  refine cSi ws_J0_495 (c_lat0_2 had) dJ0_charAt_5068e_12 (kk := ?_)
  refine r_lit dJ0_charAt_5068e_15 rfl ?_
  exact ⟨rfl, rfl⟩

set_option maxRecDepth 100000 in
set_option maxHeartbeats 4000000 in
theorem c_empty1 {X : jX} {ad : Nat → Nat} {mem : Mem}  (had : ∀ k, ad (1000 + k) = jx X k) : Cd X yJ0_isEmpty_aae02 cJ0_isEmpty_aae02 1 (some .boolean) 0 ad [.ref 1011] mem (some (.int 0)) (mem) := by
  refine Cm.of (own := RJ0) (nm := "isEmpty") (by decide +kernel) rfl rfl rfl rfl ?_
  refine J_aload_n dJ0_isEmpty_aae02_0 rfl rfl ?_
  refine J_sval (q := 1021) 1 (by decide) (had 11) (had 21) wf_J0_9 dJ0_isEmpty_aae02_1 ?_
  refine J_slenb (v := 5) 1 (by decide) (had 21) rfl dJ0_isEmpty_aae02_4 ?_
  refine J_if_ne (tgt := 12) dJ0_isEmpty_aae02_5 (by decide) (fun h5 => ?_) (fun h5 => ?_)
  · refine J_iconst (v := 0) dJ0_isEmpty_aae02_12 (by decide) ?_
    refine r_bool dJ0_isEmpty_aae02_13 (by first | exact Or.inl rfl | exact Or.inr rfl | exact i01 | exact jin01) ?_
    first | exact ⟨rfl, rfl⟩ | exact absurd h5 (by decide)
  · refine J_iconst (v := 1) dJ0_isEmpty_aae02_8 (by decide) ?_
    refine J_goto (tgt := 13) dJ0_isEmpty_aae02_9 (by decide) ?_
    refine r_bool dJ0_isEmpty_aae02_13 (by first | exact Or.inl rfl | exact Or.inr rfl | exact i01 | exact jin01) ?_
    first | exact ⟨rfl, rfl⟩ | exact absurd h5 (by decide)

set_option maxRecDepth 100000 in
set_option maxHeartbeats 4000000 in
theorem c_coder1 {X : jX} {ad : Nat → Nat} {mem : Mem}  (had : ∀ k, ad (1000 + k) = jx X k) : Cd X yJ0_coder_7d493 cJ0_coder_7d493 1 (some .byte) 0 ad [.ref 1011] mem (some (.int 0)) (mem) := by
  refine Cm.of (own := RJ0) (nm := "coder") (by decide +kernel) rfl rfl rfl rfl ?_
  refine J_getsCompact wf_J0_38 dJ0_coder_7d493_0 ?_
  refine J_if_eq (tgt := 13) dJ0_coder_7d493_3 (by decide) (fun h3 => ?_) (fun h3 => ?_)
  · refine J_iconst (v := 1) dJ0_coder_7d493_13 (by decide) ?_
    refine r_lit dJ0_coder_7d493_14 rfl ?_
    first | exact ⟨rfl, rfl⟩ | exact absurd h3 (by decide)
  · refine J_aload_n dJ0_coder_7d493_6 rfl rfl ?_
    refine J_scoder 1 (by decide) (had 11) wf_J0_15 dJ0_coder_7d493_7 ?_
    refine J_goto (tgt := 14) dJ0_coder_7d493_10 (by decide) ?_
    refine r_lit dJ0_coder_7d493_14 rfl ?_
    first | exact ⟨rfl, rfl⟩ | exact absurd h3 (by decide)

set_option maxRecDepth 100000 in
set_option maxHeartbeats 4000000 in
theorem c_latin1 {X : jX} {ad : Nat → Nat} {mem : Mem}  (had : ∀ k, ad (1000 + k) = jx X k) : Cd X yJ0_isLatin1_aae02 cJ0_isLatin1_aae02 1 (some .boolean) 0 ad [.ref 1011] mem (some (.int 1)) (mem) := by
  refine Cm.of (own := RJ0) (nm := "isLatin1") (by decide +kernel) rfl rfl rfl rfl ?_
  refine J_getsCompact wf_J0_38 dJ0_isLatin1_aae02_0 ?_
  refine J_if_eq (tgt := 17) dJ0_isLatin1_aae02_3 (by decide) (fun h3 => ?_) (fun h3 => ?_)
  · refine J_iconst (v := 0) dJ0_isLatin1_aae02_17 (by decide) ?_
    refine r_bool dJ0_isLatin1_aae02_18 (by first | exact Or.inl rfl | exact Or.inr rfl | exact i01 | exact jin01) ?_
    first | exact ⟨rfl, rfl⟩ | exact absurd h3 (by decide) | exact absurd rfl h10
  · refine J_aload_n dJ0_isLatin1_aae02_6 rfl rfl ?_
    refine J_scoder 1 (by decide) (had 11) wf_J0_15 dJ0_isLatin1_aae02_7 ?_
    refine J_if_ne (tgt := 17) dJ0_isLatin1_aae02_10 (by decide) (fun h10 => ?_) (fun h10 => ?_)
    · refine J_iconst (v := 0) dJ0_isLatin1_aae02_17 (by decide) ?_
      refine r_bool dJ0_isLatin1_aae02_18 (by first | exact Or.inl rfl | exact Or.inr rfl | exact i01 | exact jin01) ?_
      first | exact ⟨rfl, rfl⟩ | exact absurd h3 (by decide) | exact absurd rfl h10
    · refine J_iconst (v := 1) dJ0_isLatin1_aae02_13 (by decide) ?_
      refine J_goto (tgt := 18) dJ0_isLatin1_aae02_14 (by decide) ?_
      refine r_bool dJ0_isLatin1_aae02_18 (by first | exact Or.inl rfl | exact Or.inr rfl | exact i01 | exact jin01) ?_
      first | exact ⟨rfl, rfl⟩ | exact absurd h3 (by decide) | exact absurd rfl h10

set_option maxRecDepth 100000 in
set_option maxHeartbeats 4000000 in
theorem c_len1 {X : jX} {ad : Nat → Nat} {mem : Mem}  (had : ∀ k, ad (1000 + k) = jx X k) : Cd X yJ0_length_8abf5 cJ0_length_8abf5 1 (some .int) 1 ad [.ref 1011] mem (some (.int 5)) (mem) := by
  refine Cm.of (own := RJ0) (nm := "length") (by decide +kernel) rfl rfl rfl rfl ?_
  refine J_aload_n dJ0_length_8abf5_0 rfl rfl ?_
  refine J_sval (q := 1021) 1 (by decide) (had 11) (had 21) wf_J0_9 dJ0_length_8abf5_1 ?_
  refine J_slenb (v := 5) 1 (by decide) (had 21) rfl dJ0_length_8abf5_4 ?_
  refine J_aload_n dJ0_length_8abf5_5 rfl rfl ?_
  refine cStri wv_J0_335 (c_coder1 had) dJ0_length_8abf5_6 1 (by decide) (had 11) (kk := ?_)
  refine J_ishr dJ0_length_8abf5_9 ?_
  refine r_int dJ0_length_8abf5_10 ?_
  exact ⟨rfl, rfl⟩

set_option maxRecDepth 100000 in
set_option maxHeartbeats 4000000 in
theorem c_lat1_0 {X : jX} {ad : Nat → Nat} {mem : Mem}  (had : ∀ k, ad (1000 + k) = jx X k) : Cd X yJ1_charAt_3b067 cJ1_charAt_3b067 2 (some .char) 3 ad [.ref 1021, .int 0] mem (some (.int 100)) (mem) := by
  refine Cm.of (own := RJ1) (nm := "charAt") (by decide +kernel) rfl rfl rfl rfl ?_
  refine J_iload_n dJ1_charAt_3b067_0 rfl rfl ?_
  refine J_aload_n dJ1_charAt_3b067_1 rfl rfl ?_
  refine J_slenb (v := 5) 1 (by decide) (had 21) rfl dJ1_charAt_3b067_2 ?_
  refine cSv ws_J1_9 (c_J0_checkIndex_df160 (k := 0) (n := 5) (by decide) (by decide) had) dJ1_charAt_3b067_3 (kk := ?_)
  refine J_aload_n dJ1_charAt_3b067_6 rfl rfl ?_
  refine J_iload_n dJ1_charAt_3b067_7 rfl rfl ?_
  refine J_sbyte (x := 100) 1 (by decide) (had 21) (nIin (k := 0) (by decide) (by decide)) rfl dJ1_charAt_3b067_8 ?_
  refine J_sipush (v := 255) dJ1_charAt_3b067_9 (by decide) ?_
  refine J_iand dJ1_charAt_3b067_12 ?_
  refine J_i2c dJ1_charAt_3b067_13 rfl ?_
  refine J_topi (fun z9 hz9 => ?_)
  obtain rfl : z9 = 100 := hz9.trans (by decide)
  clear hz9
  refine r_lit dJ1_charAt_3b067_14 rfl ?_
  exact ⟨rfl, rfl⟩

set_option maxRecDepth 100000 in
set_option maxHeartbeats 4000000 in
theorem c_char1_0 {X : jX} {ad : Nat → Nat} {mem : Mem}  (had : ∀ k, ad (1000 + k) = jx X k) : Cd X yJ0_charAt_5068e cJ0_charAt_5068e 2 (some .char) 4 ad [.ref 1011, .int 0] mem (some (.int 100)) (mem) := by
  refine Cm.of (own := RJ0) (nm := "charAt") (by decide +kernel) rfl rfl rfl rfl ?_
  refine J_aload_n dJ0_charAt_5068e_0 rfl rfl ?_
  refine cStri wv_J0_492 (c_latin1 had) dJ0_charAt_5068e_1 1 (by decide) (had 11) (kk := ?_)
  refine J_if_eq (tgt := 16) dJ0_charAt_5068e_4 (by decide) (fun h4 => absurd h4 (by decide)) (fun h4 => ?_)
  refine J_aload_n dJ0_charAt_5068e_7 rfl rfl ?_
  refine J_sval (q := 1021) 1 (by decide) (had 11) (had 21) wf_J0_9 dJ0_charAt_5068e_8 ?_
  refine J_iload_n dJ0_charAt_5068e_11 rfl rfl ?_
  refine cSi ws_J0_495 (c_lat1_0 had) dJ0_charAt_5068e_12 (kk := ?_)
  refine r_lit dJ0_charAt_5068e_15 rfl ?_
  exact ⟨rfl, rfl⟩

set_option maxRecDepth 100000 in
set_option maxHeartbeats 4000000 in
theorem c_lat1_1 {X : jX} {ad : Nat → Nat} {mem : Mem}  (had : ∀ k, ad (1000 + k) = jx X k) : Cd X yJ1_charAt_3b067 cJ1_charAt_3b067 2 (some .char) 3 ad [.ref 1021, .int 1] mem (some (.int 64)) (mem) := by
  refine Cm.of (own := RJ1) (nm := "charAt") (by decide +kernel) rfl rfl rfl rfl ?_
  refine J_iload_n dJ1_charAt_3b067_0 rfl rfl ?_
  refine J_aload_n dJ1_charAt_3b067_1 rfl rfl ?_
  refine J_slenb (v := 5) 1 (by decide) (had 21) rfl dJ1_charAt_3b067_2 ?_
  refine cSv ws_J1_9 (c_J0_checkIndex_df160 (k := 1) (n := 5) (by decide) (by decide) had) dJ1_charAt_3b067_3 (kk := ?_)
  refine J_aload_n dJ1_charAt_3b067_6 rfl rfl ?_
  refine J_iload_n dJ1_charAt_3b067_7 rfl rfl ?_
  refine J_sbyte (x := 64) 1 (by decide) (had 21) (nIin (k := 1) (by decide) (by decide)) rfl dJ1_charAt_3b067_8 ?_
  refine J_sipush (v := 255) dJ1_charAt_3b067_9 (by decide) ?_
  refine J_iand dJ1_charAt_3b067_12 ?_
  refine J_i2c dJ1_charAt_3b067_13 rfl ?_
  refine J_topi (fun z9 hz9 => ?_)
  obtain rfl : z9 = 64 := hz9.trans (by decide)
  clear hz9
  refine r_lit dJ1_charAt_3b067_14 rfl ?_
  exact ⟨rfl, rfl⟩

set_option maxRecDepth 100000 in
set_option maxHeartbeats 4000000 in
theorem c_char1_1 {X : jX} {ad : Nat → Nat} {mem : Mem}  (had : ∀ k, ad (1000 + k) = jx X k) : Cd X yJ0_charAt_5068e cJ0_charAt_5068e 2 (some .char) 4 ad [.ref 1011, .int 1] mem (some (.int 64)) (mem) := by
  refine Cm.of (own := RJ0) (nm := "charAt") (by decide +kernel) rfl rfl rfl rfl ?_
  refine J_aload_n dJ0_charAt_5068e_0 rfl rfl ?_
  refine cStri wv_J0_492 (c_latin1 had) dJ0_charAt_5068e_1 1 (by decide) (had 11) (kk := ?_)
  refine J_if_eq (tgt := 16) dJ0_charAt_5068e_4 (by decide) (fun h4 => absurd h4 (by decide)) (fun h4 => ?_)
  refine J_aload_n dJ0_charAt_5068e_7 rfl rfl ?_
  refine J_sval (q := 1021) 1 (by decide) (had 11) (had 21) wf_J0_9 dJ0_charAt_5068e_8 ?_
  refine J_iload_n dJ0_charAt_5068e_11 rfl rfl ?_
  refine cSi ws_J0_495 (c_lat1_1 had) dJ0_charAt_5068e_12 (kk := ?_)
  refine r_lit dJ0_charAt_5068e_15 rfl ?_
  exact ⟨rfl, rfl⟩

set_option maxRecDepth 100000 in
set_option maxHeartbeats 4000000 in
theorem c_lat1_2 {X : jX} {ad : Nat → Nat} {mem : Mem}  (had : ∀ k, ad (1000 + k) = jx X k) : Cd X yJ1_charAt_3b067 cJ1_charAt_3b067 2 (some .char) 3 ad [.ref 1021, .int 2] mem (some (.int 100)) (mem) := by
  refine Cm.of (own := RJ1) (nm := "charAt") (by decide +kernel) rfl rfl rfl rfl ?_
  refine J_iload_n dJ1_charAt_3b067_0 rfl rfl ?_
  refine J_aload_n dJ1_charAt_3b067_1 rfl rfl ?_
  refine J_slenb (v := 5) 1 (by decide) (had 21) rfl dJ1_charAt_3b067_2 ?_
  refine cSv ws_J1_9 (c_J0_checkIndex_df160 (k := 2) (n := 5) (by decide) (by decide) had) dJ1_charAt_3b067_3 (kk := ?_)
  refine J_aload_n dJ1_charAt_3b067_6 rfl rfl ?_
  refine J_iload_n dJ1_charAt_3b067_7 rfl rfl ?_
  refine J_sbyte (x := 100) 1 (by decide) (had 21) (nIin (k := 2) (by decide) (by decide)) rfl dJ1_charAt_3b067_8 ?_
  refine J_sipush (v := 255) dJ1_charAt_3b067_9 (by decide) ?_
  refine J_iand dJ1_charAt_3b067_12 ?_
  refine J_i2c dJ1_charAt_3b067_13 rfl ?_
  refine J_topi (fun z9 hz9 => ?_)
  obtain rfl : z9 = 100 := hz9.trans (by decide)
  clear hz9
  refine r_lit dJ1_charAt_3b067_14 rfl ?_
  exact ⟨rfl, rfl⟩

set_option maxRecDepth 100000 in
set_option maxHeartbeats 4000000 in
theorem c_char1_2 {X : jX} {ad : Nat → Nat} {mem : Mem}  (had : ∀ k, ad (1000 + k) = jx X k) : Cd X yJ0_charAt_5068e cJ0_charAt_5068e 2 (some .char) 4 ad [.ref 1011, .int 2] mem (some (.int 100)) (mem) := by
  refine Cm.of (own := RJ0) (nm := "charAt") (by decide +kernel) rfl rfl rfl rfl ?_
  refine J_aload_n dJ0_charAt_5068e_0 rfl rfl ?_
  refine cStri wv_J0_492 (c_latin1 had) dJ0_charAt_5068e_1 1 (by decide) (had 11) (kk := ?_)
  refine J_if_eq (tgt := 16) dJ0_charAt_5068e_4 (by decide) (fun h4 => absurd h4 (by decide)) (fun h4 => ?_)
  refine J_aload_n dJ0_charAt_5068e_7 rfl rfl ?_
  refine J_sval (q := 1021) 1 (by decide) (had 11) (had 21) wf_J0_9 dJ0_charAt_5068e_8 ?_
  refine J_iload_n dJ0_charAt_5068e_11 rfl rfl ?_
  refine cSi ws_J0_495 (c_lat1_2 had) dJ0_charAt_5068e_12 (kk := ?_)
  refine r_lit dJ0_charAt_5068e_15 rfl ?_
  exact ⟨rfl, rfl⟩

set_option maxRecDepth 100000 in
set_option maxHeartbeats 4000000 in
theorem c_lat1_3 {X : jX} {ad : Nat → Nat} {mem : Mem}  (had : ∀ k, ad (1000 + k) = jx X k) : Cd X yJ1_charAt_3b067 cJ1_charAt_3b067 2 (some .char) 3 ad [.ref 1021, .int 3] mem (some (.int 43)) (mem) := by
  refine Cm.of (own := RJ1) (nm := "charAt") (by decide +kernel) rfl rfl rfl rfl ?_
  refine J_iload_n dJ1_charAt_3b067_0 rfl rfl ?_
  refine J_aload_n dJ1_charAt_3b067_1 rfl rfl ?_
  refine J_slenb (v := 5) 1 (by decide) (had 21) rfl dJ1_charAt_3b067_2 ?_
  refine cSv ws_J1_9 (c_J0_checkIndex_df160 (k := 3) (n := 5) (by decide) (by decide) had) dJ1_charAt_3b067_3 (kk := ?_)
  refine J_aload_n dJ1_charAt_3b067_6 rfl rfl ?_
  refine J_iload_n dJ1_charAt_3b067_7 rfl rfl ?_
  refine J_sbyte (x := 43) 1 (by decide) (had 21) (nIin (k := 3) (by decide) (by decide)) rfl dJ1_charAt_3b067_8 ?_
  refine J_sipush (v := 255) dJ1_charAt_3b067_9 (by decide) ?_
  refine J_iand dJ1_charAt_3b067_12 ?_
  refine J_i2c dJ1_charAt_3b067_13 rfl ?_
  refine J_topi (fun z9 hz9 => ?_)
  obtain rfl : z9 = 43 := hz9.trans (by decide)
  clear hz9
  refine r_lit dJ1_charAt_3b067_14 rfl ?_
  exact ⟨rfl, rfl⟩

set_option maxRecDepth 100000 in
set_option maxHeartbeats 4000000 in
theorem c_char1_3 {X : jX} {ad : Nat → Nat} {mem : Mem}  (had : ∀ k, ad (1000 + k) = jx X k) : Cd X yJ0_charAt_5068e cJ0_charAt_5068e 2 (some .char) 4 ad [.ref 1011, .int 3] mem (some (.int 43)) (mem) := by
  refine Cm.of (own := RJ0) (nm := "charAt") (by decide +kernel) rfl rfl rfl rfl ?_
  refine J_aload_n dJ0_charAt_5068e_0 rfl rfl ?_
  refine cStri wv_J0_492 (c_latin1 had) dJ0_charAt_5068e_1 1 (by decide) (had 11) (kk := ?_)
  refine J_if_eq (tgt := 16) dJ0_charAt_5068e_4 (by decide) (fun h4 => absurd h4 (by decide)) (fun h4 => ?_)
  refine J_aload_n dJ0_charAt_5068e_7 rfl rfl ?_
  refine J_sval (q := 1021) 1 (by decide) (had 11) (had 21) wf_J0_9 dJ0_charAt_5068e_8 ?_
  refine J_iload_n dJ0_charAt_5068e_11 rfl rfl ?_
  refine cSi ws_J0_495 (c_lat1_3 had) dJ0_charAt_5068e_12 (kk := ?_)
  refine r_lit dJ0_charAt_5068e_15 rfl ?_
  exact ⟨rfl, rfl⟩

set_option maxRecDepth 100000 in
set_option maxHeartbeats 4000000 in
theorem c_lat1_4 {X : jX} {ad : Nat → Nat} {mem : Mem}  (had : ∀ k, ad (1000 + k) = jx X k) : Cd X yJ1_charAt_3b067 cJ1_charAt_3b067 2 (some .char) 3 ad [.ref 1021, .int 4] mem (some (.int 35)) (mem) := by
  refine Cm.of (own := RJ1) (nm := "charAt") (by decide +kernel) rfl rfl rfl rfl ?_
  refine J_iload_n dJ1_charAt_3b067_0 rfl rfl ?_
  refine J_aload_n dJ1_charAt_3b067_1 rfl rfl ?_
  refine J_slenb (v := 5) 1 (by decide) (had 21) rfl dJ1_charAt_3b067_2 ?_
  refine cSv ws_J1_9 (c_J0_checkIndex_df160 (k := 4) (n := 5) (by decide) (by decide) had) dJ1_charAt_3b067_3 (kk := ?_)
  refine J_aload_n dJ1_charAt_3b067_6 rfl rfl ?_
  refine J_iload_n dJ1_charAt_3b067_7 rfl rfl ?_
  refine J_sbyte (x := 35) 1 (by decide) (had 21) (nIin (k := 4) (by decide) (by decide)) rfl dJ1_charAt_3b067_8 ?_
  refine J_sipush (v := 255) dJ1_charAt_3b067_9 (by decide) ?_
  refine J_iand dJ1_charAt_3b067_12 ?_
  refine J_i2c dJ1_charAt_3b067_13 rfl ?_
  refine J_topi (fun z9 hz9 => ?_)
  obtain rfl : z9 = 35 := hz9.trans (by decide)
  clear hz9
  refine r_lit dJ1_charAt_3b067_14 rfl ?_
  exact ⟨rfl, rfl⟩

set_option maxRecDepth 100000 in
set_option maxHeartbeats 4000000 in
theorem c_char1_4 {X : jX} {ad : Nat → Nat} {mem : Mem}  (had : ∀ k, ad (1000 + k) = jx X k) : Cd X yJ0_charAt_5068e cJ0_charAt_5068e 2 (some .char) 4 ad [.ref 1011, .int 4] mem (some (.int 35)) (mem) := by
  refine Cm.of (own := RJ0) (nm := "charAt") (by decide +kernel) rfl rfl rfl rfl ?_
  refine J_aload_n dJ0_charAt_5068e_0 rfl rfl ?_
  refine cStri wv_J0_492 (c_latin1 had) dJ0_charAt_5068e_1 1 (by decide) (had 11) (kk := ?_)
  refine J_if_eq (tgt := 16) dJ0_charAt_5068e_4 (by decide) (fun h4 => absurd h4 (by decide)) (fun h4 => ?_)
  refine J_aload_n dJ0_charAt_5068e_7 rfl rfl ?_
  refine J_sval (q := 1021) 1 (by decide) (had 11) (had 21) wf_J0_9 dJ0_charAt_5068e_8 ?_
  refine J_iload_n dJ0_charAt_5068e_11 rfl rfl ?_
  refine cSi ws_J0_495 (c_lat1_4 had) dJ0_charAt_5068e_12 (kk := ?_)
  refine r_lit dJ0_charAt_5068e_15 rfl ?_
  exact ⟨rfl, rfl⟩

set_option maxRecDepth 100000 in
set_option maxHeartbeats 4000000 in
theorem c_empty2 {X : jX} {ad : Nat → Nat} {mem : Mem}  (had : ∀ k, ad (1000 + k) = jx X k) : Cd X yJ0_isEmpty_aae02 cJ0_isEmpty_aae02 1 (some .boolean) 0 ad [.ref 1012] mem (some (.int 0)) (mem) := by
  refine Cm.of (own := RJ0) (nm := "isEmpty") (by decide +kernel) rfl rfl rfl rfl ?_
  refine J_aload_n dJ0_isEmpty_aae02_0 rfl rfl ?_
  refine J_sval (q := 1022) 2 (by decide) (had 12) (had 22) wf_J0_9 dJ0_isEmpty_aae02_1 ?_
  refine J_slenb (v := 3) 2 (by decide) (had 22) rfl dJ0_isEmpty_aae02_4 ?_
  refine J_if_ne (tgt := 12) dJ0_isEmpty_aae02_5 (by decide) (fun h5 => ?_) (fun h5 => ?_)
  · refine J_iconst (v := 0) dJ0_isEmpty_aae02_12 (by decide) ?_
    refine r_bool dJ0_isEmpty_aae02_13 (by first | exact Or.inl rfl | exact Or.inr rfl | exact i01 | exact jin01) ?_
    first | exact ⟨rfl, rfl⟩ | exact absurd h5 (by decide)
  · refine J_iconst (v := 1) dJ0_isEmpty_aae02_8 (by decide) ?_
    refine J_goto (tgt := 13) dJ0_isEmpty_aae02_9 (by decide) ?_
    refine r_bool dJ0_isEmpty_aae02_13 (by first | exact Or.inl rfl | exact Or.inr rfl | exact i01 | exact jin01) ?_
    first | exact ⟨rfl, rfl⟩ | exact absurd h5 (by decide)

set_option maxRecDepth 100000 in
set_option maxHeartbeats 4000000 in
theorem c_coder2 {X : jX} {ad : Nat → Nat} {mem : Mem}  (had : ∀ k, ad (1000 + k) = jx X k) : Cd X yJ0_coder_7d493 cJ0_coder_7d493 1 (some .byte) 0 ad [.ref 1012] mem (some (.int 0)) (mem) := by
  refine Cm.of (own := RJ0) (nm := "coder") (by decide +kernel) rfl rfl rfl rfl ?_
  refine J_getsCompact wf_J0_38 dJ0_coder_7d493_0 ?_
  refine J_if_eq (tgt := 13) dJ0_coder_7d493_3 (by decide) (fun h3 => ?_) (fun h3 => ?_)
  · refine J_iconst (v := 1) dJ0_coder_7d493_13 (by decide) ?_
    refine r_lit dJ0_coder_7d493_14 rfl ?_
    first | exact ⟨rfl, rfl⟩ | exact absurd h3 (by decide)
  · refine J_aload_n dJ0_coder_7d493_6 rfl rfl ?_
    refine J_scoder 2 (by decide) (had 12) wf_J0_15 dJ0_coder_7d493_7 ?_
    refine J_goto (tgt := 14) dJ0_coder_7d493_10 (by decide) ?_
    refine r_lit dJ0_coder_7d493_14 rfl ?_
    first | exact ⟨rfl, rfl⟩ | exact absurd h3 (by decide)

set_option maxRecDepth 100000 in
set_option maxHeartbeats 4000000 in
theorem c_latin2 {X : jX} {ad : Nat → Nat} {mem : Mem}  (had : ∀ k, ad (1000 + k) = jx X k) : Cd X yJ0_isLatin1_aae02 cJ0_isLatin1_aae02 1 (some .boolean) 0 ad [.ref 1012] mem (some (.int 1)) (mem) := by
  refine Cm.of (own := RJ0) (nm := "isLatin1") (by decide +kernel) rfl rfl rfl rfl ?_
  refine J_getsCompact wf_J0_38 dJ0_isLatin1_aae02_0 ?_
  refine J_if_eq (tgt := 17) dJ0_isLatin1_aae02_3 (by decide) (fun h3 => ?_) (fun h3 => ?_)
  · refine J_iconst (v := 0) dJ0_isLatin1_aae02_17 (by decide) ?_
    refine r_bool dJ0_isLatin1_aae02_18 (by first | exact Or.inl rfl | exact Or.inr rfl | exact i01 | exact jin01) ?_
    first | exact ⟨rfl, rfl⟩ | exact absurd h3 (by decide) | exact absurd rfl h10
  · refine J_aload_n dJ0_isLatin1_aae02_6 rfl rfl ?_
    refine J_scoder 2 (by decide) (had 12) wf_J0_15 dJ0_isLatin1_aae02_7 ?_
    refine J_if_ne (tgt := 17) dJ0_isLatin1_aae02_10 (by decide) (fun h10 => ?_) (fun h10 => ?_)
    · refine J_iconst (v := 0) dJ0_isLatin1_aae02_17 (by decide) ?_
      refine r_bool dJ0_isLatin1_aae02_18 (by first | exact Or.inl rfl | exact Or.inr rfl | exact i01 | exact jin01) ?_
      first | exact ⟨rfl, rfl⟩ | exact absurd h3 (by decide) | exact absurd rfl h10
    · refine J_iconst (v := 1) dJ0_isLatin1_aae02_13 (by decide) ?_
      refine J_goto (tgt := 18) dJ0_isLatin1_aae02_14 (by decide) ?_
      refine r_bool dJ0_isLatin1_aae02_18 (by first | exact Or.inl rfl | exact Or.inr rfl | exact i01 | exact jin01) ?_
      first | exact ⟨rfl, rfl⟩ | exact absurd h3 (by decide) | exact absurd rfl h10

set_option maxRecDepth 100000 in
set_option maxHeartbeats 4000000 in
theorem c_len2 {X : jX} {ad : Nat → Nat} {mem : Mem}  (had : ∀ k, ad (1000 + k) = jx X k) : Cd X yJ0_length_8abf5 cJ0_length_8abf5 1 (some .int) 1 ad [.ref 1012] mem (some (.int 3)) (mem) := by
  refine Cm.of (own := RJ0) (nm := "length") (by decide +kernel) rfl rfl rfl rfl ?_
  refine J_aload_n dJ0_length_8abf5_0 rfl rfl ?_
  refine J_sval (q := 1022) 2 (by decide) (had 12) (had 22) wf_J0_9 dJ0_length_8abf5_1 ?_
  refine J_slenb (v := 3) 2 (by decide) (had 22) rfl dJ0_length_8abf5_4 ?_
  refine J_aload_n dJ0_length_8abf5_5 rfl rfl ?_
  refine cStri wv_J0_335 (c_coder2 had) dJ0_length_8abf5_6 2 (by decide) (had 12) (kk := ?_)
  refine J_ishr dJ0_length_8abf5_9 ?_
  refine r_int dJ0_length_8abf5_10 ?_
  exact ⟨rfl, rfl⟩

set_option maxRecDepth 100000 in
set_option maxHeartbeats 4000000 in
theorem c_lat2_0 {X : jX} {ad : Nat → Nat} {mem : Mem}  (had : ∀ k, ad (1000 + k) = jx X k) : Cd X yJ1_charAt_3b067 cJ1_charAt_3b067 2 (some .char) 3 ad [.ref 1022, .int 0] mem (some (.int 100)) (mem) := by
  refine Cm.of (own := RJ1) (nm := "charAt") (by decide +kernel) rfl rfl rfl rfl ?_
  refine J_iload_n dJ1_charAt_3b067_0 rfl rfl ?_
  refine J_aload_n dJ1_charAt_3b067_1 rfl rfl ?_
  refine J_slenb (v := 3) 2 (by decide) (had 22) rfl dJ1_charAt_3b067_2 ?_
  refine cSv ws_J1_9 (c_J0_checkIndex_df160 (k := 0) (n := 3) (by decide) (by decide) had) dJ1_charAt_3b067_3 (kk := ?_)
  refine J_aload_n dJ1_charAt_3b067_6 rfl rfl ?_
  refine J_iload_n dJ1_charAt_3b067_7 rfl rfl ?_
  refine J_sbyte (x := 100) 2 (by decide) (had 22) (nIin (k := 0) (by decide) (by decide)) rfl dJ1_charAt_3b067_8 ?_
  refine J_sipush (v := 255) dJ1_charAt_3b067_9 (by decide) ?_
  refine J_iand dJ1_charAt_3b067_12 ?_
  refine J_i2c dJ1_charAt_3b067_13 rfl ?_
  refine J_topi (fun z9 hz9 => ?_)
  obtain rfl : z9 = 100 := hz9.trans (by decide)
  clear hz9
  refine r_lit dJ1_charAt_3b067_14 rfl ?_
  exact ⟨rfl, rfl⟩

set_option maxRecDepth 100000 in
set_option maxHeartbeats 4000000 in
theorem c_char2_0 {X : jX} {ad : Nat → Nat} {mem : Mem}  (had : ∀ k, ad (1000 + k) = jx X k) : Cd X yJ0_charAt_5068e cJ0_charAt_5068e 2 (some .char) 4 ad [.ref 1012, .int 0] mem (some (.int 100)) (mem) := by
  refine Cm.of (own := RJ0) (nm := "charAt") (by decide +kernel) rfl rfl rfl rfl ?_
  refine J_aload_n dJ0_charAt_5068e_0 rfl rfl ?_
  refine cStri wv_J0_492 (c_latin2 had) dJ0_charAt_5068e_1 2 (by decide) (had 12) (kk := ?_)
  refine J_if_eq (tgt := 16) dJ0_charAt_5068e_4 (by decide) (fun h4 => absurd h4 (by decide)) (fun h4 => ?_)
  refine J_aload_n dJ0_charAt_5068e_7 rfl rfl ?_
  refine J_sval (q := 1022) 2 (by decide) (had 12) (had 22) wf_J0_9 dJ0_charAt_5068e_8 ?_
  refine J_iload_n dJ0_charAt_5068e_11 rfl rfl ?_
  refine cSi ws_J0_495 (c_lat2_0 had) dJ0_charAt_5068e_12 (kk := ?_)
  refine r_lit dJ0_charAt_5068e_15 rfl ?_
  exact ⟨rfl, rfl⟩

set_option maxRecDepth 100000 in
set_option maxHeartbeats 4000000 in
theorem c_lat2_1 {X : jX} {ad : Nat → Nat} {mem : Mem}  (had : ∀ k, ad (1000 + k) = jx X k) : Cd X yJ1_charAt_3b067 cJ1_charAt_3b067 2 (some .char) 3 ad [.ref 1022, .int 1] mem (some (.int 45)) (mem) := by
  refine Cm.of (own := RJ1) (nm := "charAt") (by decide +kernel) rfl rfl rfl rfl ?_
  refine J_iload_n dJ1_charAt_3b067_0 rfl rfl ?_
  refine J_aload_n dJ1_charAt_3b067_1 rfl rfl ?_
  refine J_slenb (v := 3) 2 (by decide) (had 22) rfl dJ1_charAt_3b067_2 ?_
  refine cSv ws_J1_9 (c_J0_checkIndex_df160 (k := 1) (n := 3) (by decide) (by decide) had) dJ1_charAt_3b067_3 (kk := ?_)
  refine J_aload_n dJ1_charAt_3b067_6 rfl rfl ?_
  refine J_iload_n dJ1_charAt_3b067_7 rfl rfl ?_
  refine J_sbyte (x := 45) 2 (by decide) (had 22) (nIin (k := 1) (by decide) (by decide)) rfl dJ1_charAt_3b067_8 ?_
  refine J_sipush (v := 255) dJ1_charAt_3b067_9 (by decide) ?_
  refine J_iand dJ1_charAt_3b067_12 ?_
  refine J_i2c dJ1_charAt_3b067_13 rfl ?_
  refine J_topi (fun z9 hz9 => ?_)
  obtain rfl : z9 = 45 := hz9.trans (by decide)
  clear hz9
  refine r_lit dJ1_charAt_3b067_14 rfl ?_
  exact ⟨rfl, rfl⟩

set_option maxRecDepth 100000 in
set_option maxHeartbeats 4000000 in
theorem c_char2_1 {X : jX} {ad : Nat → Nat} {mem : Mem}  (had : ∀ k, ad (1000 + k) = jx X k) : Cd X yJ0_charAt_5068e cJ0_charAt_5068e 2 (some .char) 4 ad [.ref 1012, .int 1] mem (some (.int 45)) (mem) := by
  refine Cm.of (own := RJ0) (nm := "charAt") (by decide +kernel) rfl rfl rfl rfl ?_
  refine J_aload_n dJ0_charAt_5068e_0 rfl rfl ?_
  refine cStri wv_J0_492 (c_latin2 had) dJ0_charAt_5068e_1 2 (by decide) (had 12) (kk := ?_)
  refine J_if_eq (tgt := 16) dJ0_charAt_5068e_4 (by decide) (fun h4 => absurd h4 (by decide)) (fun h4 => ?_)
  refine J_aload_n dJ0_charAt_5068e_7 rfl rfl ?_
  refine J_sval (q := 1022) 2 (by decide) (had 12) (had 22) wf_J0_9 dJ0_charAt_5068e_8 ?_
  refine J_iload_n dJ0_charAt_5068e_11 rfl rfl ?_
  refine cSi ws_J0_495 (c_lat2_1 had) dJ0_charAt_5068e_12 (kk := ?_)
  refine r_lit dJ0_charAt_5068e_15 rfl ?_
  exact ⟨rfl, rfl⟩

set_option maxRecDepth 100000 in
set_option maxHeartbeats 4000000 in
theorem c_lat2_2 {X : jX} {ad : Nat → Nat} {mem : Mem}  (had : ∀ k, ad (1000 + k) = jx X k) : Cd X yJ1_charAt_3b067 cJ1_charAt_3b067 2 (some .char) 3 ad [.ref 1022, .int 2] mem (some (.int 35)) (mem) := by
  refine Cm.of (own := RJ1) (nm := "charAt") (by decide +kernel) rfl rfl rfl rfl ?_
  refine J_iload_n dJ1_charAt_3b067_0 rfl rfl ?_
  refine J_aload_n dJ1_charAt_3b067_1 rfl rfl ?_
  refine J_slenb (v := 3) 2 (by decide) (had 22) rfl dJ1_charAt_3b067_2 ?_
  refine cSv ws_J1_9 (c_J0_checkIndex_df160 (k := 2) (n := 3) (by decide) (by decide) had) dJ1_charAt_3b067_3 (kk := ?_)
  refine J_aload_n dJ1_charAt_3b067_6 rfl rfl ?_
  refine J_iload_n dJ1_charAt_3b067_7 rfl rfl ?_
  refine J_sbyte (x := 35) 2 (by decide) (had 22) (nIin (k := 2) (by decide) (by decide)) rfl dJ1_charAt_3b067_8 ?_
  refine J_sipush (v := 255) dJ1_charAt_3b067_9 (by decide) ?_
  refine J_iand dJ1_charAt_3b067_12 ?_
  refine J_i2c dJ1_charAt_3b067_13 rfl ?_
  refine J_topi (fun z9 hz9 => ?_)
  obtain rfl : z9 = 35 := hz9.trans (by decide)
  clear hz9
  refine r_lit dJ1_charAt_3b067_14 rfl ?_
  exact ⟨rfl, rfl⟩

set_option maxRecDepth 100000 in
set_option maxHeartbeats 4000000 in
theorem c_char2_2 {X : jX} {ad : Nat → Nat} {mem : Mem}  (had : ∀ k, ad (1000 + k) = jx X k) : Cd X yJ0_charAt_5068e cJ0_charAt_5068e 2 (some .char) 4 ad [.ref 1012, .int 2] mem (some (.int 35)) (mem) := by
  refine Cm.of (own := RJ0) (nm := "charAt") (by decide +kernel) rfl rfl rfl rfl ?_
  refine J_aload_n dJ0_charAt_5068e_0 rfl rfl ?_
  refine cStri wv_J0_492 (c_latin2 had) dJ0_charAt_5068e_1 2 (by decide) (had 12) (kk := ?_)
  refine J_if_eq (tgt := 16) dJ0_charAt_5068e_4 (by decide) (fun h4 => absurd h4 (by decide)) (fun h4 => ?_)
  refine J_aload_n dJ0_charAt_5068e_7 rfl rfl ?_
  refine J_sval (q := 1022) 2 (by decide) (had 12) (had 22) wf_J0_9 dJ0_charAt_5068e_8 ?_
  refine J_iload_n dJ0_charAt_5068e_11 rfl rfl ?_
  refine cSi ws_J0_495 (c_lat2_2 had) dJ0_charAt_5068e_12 (kk := ?_)
  refine r_lit dJ0_charAt_5068e_15 rfl ?_
  exact ⟨rfl, rfl⟩

set_option maxRecDepth 100000 in
set_option maxHeartbeats 4000000 in
theorem c_empty3 {X : jX} {ad : Nat → Nat} {mem : Mem}  (had : ∀ k, ad (1000 + k) = jx X k) : Cd X yJ0_isEmpty_aae02 cJ0_isEmpty_aae02 1 (some .boolean) 0 ad [.ref 1013] mem (some (.int 0)) (mem) := by
  refine Cm.of (own := RJ0) (nm := "isEmpty") (by decide +kernel) rfl rfl rfl rfl ?_
  refine J_aload_n dJ0_isEmpty_aae02_0 rfl rfl ?_
  refine J_sval (q := 1023) 3 (by decide) (had 13) (had 23) wf_J0_9 dJ0_isEmpty_aae02_1 ?_
  refine J_slenb (v := 1) 3 (by decide) (had 23) rfl dJ0_isEmpty_aae02_4 ?_
  refine J_if_ne (tgt := 12) dJ0_isEmpty_aae02_5 (by decide) (fun h5 => ?_) (fun h5 => ?_)
  · refine J_iconst (v := 0) dJ0_isEmpty_aae02_12 (by decide) ?_
    refine r_bool dJ0_isEmpty_aae02_13 (by first | exact Or.inl rfl | exact Or.inr rfl | exact i01 | exact jin01) ?_
    first | exact ⟨rfl, rfl⟩ | exact absurd h5 (by decide)
  · refine J_iconst (v := 1) dJ0_isEmpty_aae02_8 (by decide) ?_
    refine J_goto (tgt := 13) dJ0_isEmpty_aae02_9 (by decide) ?_
    refine r_bool dJ0_isEmpty_aae02_13 (by first | exact Or.inl rfl | exact Or.inr rfl | exact i01 | exact jin01) ?_
    first | exact ⟨rfl, rfl⟩ | exact absurd h5 (by decide)

set_option maxRecDepth 100000 in
set_option maxHeartbeats 4000000 in
theorem c_coder3 {X : jX} {ad : Nat → Nat} {mem : Mem}  (had : ∀ k, ad (1000 + k) = jx X k) : Cd X yJ0_coder_7d493 cJ0_coder_7d493 1 (some .byte) 0 ad [.ref 1013] mem (some (.int 0)) (mem) := by
  refine Cm.of (own := RJ0) (nm := "coder") (by decide +kernel) rfl rfl rfl rfl ?_
  refine J_getsCompact wf_J0_38 dJ0_coder_7d493_0 ?_
  refine J_if_eq (tgt := 13) dJ0_coder_7d493_3 (by decide) (fun h3 => ?_) (fun h3 => ?_)
  · refine J_iconst (v := 1) dJ0_coder_7d493_13 (by decide) ?_
    refine r_lit dJ0_coder_7d493_14 rfl ?_
    first | exact ⟨rfl, rfl⟩ | exact absurd h3 (by decide)
  · refine J_aload_n dJ0_coder_7d493_6 rfl rfl ?_
    refine J_scoder 3 (by decide) (had 13) wf_J0_15 dJ0_coder_7d493_7 ?_
    refine J_goto (tgt := 14) dJ0_coder_7d493_10 (by decide) ?_
    refine r_lit dJ0_coder_7d493_14 rfl ?_
    first | exact ⟨rfl, rfl⟩ | exact absurd h3 (by decide)

set_option maxRecDepth 100000 in
set_option maxHeartbeats 4000000 in
theorem c_latin3 {X : jX} {ad : Nat → Nat} {mem : Mem}  (had : ∀ k, ad (1000 + k) = jx X k) : Cd X yJ0_isLatin1_aae02 cJ0_isLatin1_aae02 1 (some .boolean) 0 ad [.ref 1013] mem (some (.int 1)) (mem) := by
  refine Cm.of (own := RJ0) (nm := "isLatin1") (by decide +kernel) rfl rfl rfl rfl ?_
  refine J_getsCompact wf_J0_38 dJ0_isLatin1_aae02_0 ?_
  refine J_if_eq (tgt := 17) dJ0_isLatin1_aae02_3 (by decide) (fun h3 => ?_) (fun h3 => ?_)
  · refine J_iconst (v := 0) dJ0_isLatin1_aae02_17 (by decide) ?_
    refine r_bool dJ0_isLatin1_aae02_18 (by first | exact Or.inl rfl | exact Or.inr rfl | exact i01 | exact jin01) ?_
    first | exact ⟨rfl, rfl⟩ | exact absurd h3 (by decide) | exact absurd rfl h10
  · refine J_aload_n dJ0_isLatin1_aae02_6 rfl rfl ?_
    refine J_scoder 3 (by decide) (had 13) wf_J0_15 dJ0_isLatin1_aae02_7 ?_
    refine J_if_ne (tgt := 17) dJ0_isLatin1_aae02_10 (by decide) (fun h10 => ?_) (fun h10 => ?_)
    · refine J_iconst (v := 0) dJ0_isLatin1_aae02_17 (by decide) ?_
      refine r_bool dJ0_isLatin1_aae02_18 (by first | exact Or.inl rfl | exact Or.inr rfl | exact i01 | exact jin01) ?_
      first | exact ⟨rfl, rfl⟩ | exact absurd h3 (by decide) | exact absurd rfl h10
    · refine J_iconst (v := 1) dJ0_isLatin1_aae02_13 (by decide) ?_
      refine J_goto (tgt := 18) dJ0_isLatin1_aae02_14 (by decide) ?_
      refine r_bool dJ0_isLatin1_aae02_18 (by first | exact Or.inl rfl | exact Or.inr rfl | exact i01 | exact jin01) ?_
      first | exact ⟨rfl, rfl⟩ | exact absurd h3 (by decide) | exact absurd rfl h10

set_option maxRecDepth 100000 in
set_option maxHeartbeats 4000000 in
theorem c_len3 {X : jX} {ad : Nat → Nat} {mem : Mem}  (had : ∀ k, ad (1000 + k) = jx X k) : Cd X yJ0_length_8abf5 cJ0_length_8abf5 1 (some .int) 1 ad [.ref 1013] mem (some (.int 1)) (mem) := by
  refine Cm.of (own := RJ0) (nm := "length") (by decide +kernel) rfl rfl rfl rfl ?_
  refine J_aload_n dJ0_length_8abf5_0 rfl rfl ?_
  refine J_sval (q := 1023) 3 (by decide) (had 13) (had 23) wf_J0_9 dJ0_length_8abf5_1 ?_
  refine J_slenb (v := 1) 3 (by decide) (had 23) rfl dJ0_length_8abf5_4 ?_
  refine J_aload_n dJ0_length_8abf5_5 rfl rfl ?_
  refine cStri wv_J0_335 (c_coder3 had) dJ0_length_8abf5_6 3 (by decide) (had 13) (kk := ?_)
  refine J_ishr dJ0_length_8abf5_9 ?_
  refine r_int dJ0_length_8abf5_10 ?_
  exact ⟨rfl, rfl⟩

set_option maxRecDepth 100000 in
set_option maxHeartbeats 4000000 in
theorem c_lat3_0 {X : jX} {ad : Nat → Nat} {mem : Mem}  (had : ∀ k, ad (1000 + k) = jx X k) : Cd X yJ1_charAt_3b067 cJ1_charAt_3b067 2 (some .char) 3 ad [.ref 1023, .int 0] mem (some (.int 100)) (mem) := by
  refine Cm.of (own := RJ1) (nm := "charAt") (by decide +kernel) rfl rfl rfl rfl ?_
  refine J_iload_n dJ1_charAt_3b067_0 rfl rfl ?_
  refine J_aload_n dJ1_charAt_3b067_1 rfl rfl ?_
  refine J_slenb (v := 1) 3 (by decide) (had 23) rfl dJ1_charAt_3b067_2 ?_
  refine cSv ws_J1_9 (c_J0_checkIndex_df160 (k := 0) (n := 1) (by decide) (by decide) had) dJ1_charAt_3b067_3 (kk := ?_)
  refine J_aload_n dJ1_charAt_3b067_6 rfl rfl ?_
  refine J_iload_n dJ1_charAt_3b067_7 rfl rfl ?_
  refine J_sbyte (x := 100) 3 (by decide) (had 23) (nIin (k := 0) (by decide) (by decide)) rfl dJ1_charAt_3b067_8 ?_
  refine J_sipush (v := 255) dJ1_charAt_3b067_9 (by decide) ?_
  refine J_iand dJ1_charAt_3b067_12 ?_
  refine J_i2c dJ1_charAt_3b067_13 rfl ?_
  refine J_topi (fun z9 hz9 => ?_)
  obtain rfl : z9 = 100 := hz9.trans (by decide)
  clear hz9
  refine r_lit dJ1_charAt_3b067_14 rfl ?_
  exact ⟨rfl, rfl⟩

set_option maxRecDepth 100000 in
set_option maxHeartbeats 4000000 in
theorem c_char3_0 {X : jX} {ad : Nat → Nat} {mem : Mem}  (had : ∀ k, ad (1000 + k) = jx X k) : Cd X yJ0_charAt_5068e cJ0_charAt_5068e 2 (some .char) 4 ad [.ref 1013, .int 0] mem (some (.int 100)) (mem) := by
  refine Cm.of (own := RJ0) (nm := "charAt") (by decide +kernel) rfl rfl rfl rfl ?_
  refine J_aload_n dJ0_charAt_5068e_0 rfl rfl ?_
  refine cStri wv_J0_492 (c_latin3 had) dJ0_charAt_5068e_1 3 (by decide) (had 13) (kk := ?_)
  refine J_if_eq (tgt := 16) dJ0_charAt_5068e_4 (by decide) (fun h4 => absurd h4 (by decide)) (fun h4 => ?_)
  refine J_aload_n dJ0_charAt_5068e_7 rfl rfl ?_
  refine J_sval (q := 1023) 3 (by decide) (had 13) (had 23) wf_J0_9 dJ0_charAt_5068e_8 ?_
  refine J_iload_n dJ0_charAt_5068e_11 rfl rfl ?_
  refine cSi ws_J0_495 (c_lat3_0 had) dJ0_charAt_5068e_12 (kk := ?_)
  refine r_lit dJ0_charAt_5068e_15 rfl ?_
  exact ⟨rfl, rfl⟩

set_option maxRecDepth 100000 in
set_option maxHeartbeats 4000000 in
theorem c_empty4 {X : jX} {ad : Nat → Nat} {mem : Mem}  (had : ∀ k, ad (1000 + k) = jx X k) : Cd X yJ0_isEmpty_aae02 cJ0_isEmpty_aae02 1 (some .boolean) 0 ad [.ref 1014] mem (some (.int 0)) (mem) := by
  refine Cm.of (own := RJ0) (nm := "isEmpty") (by decide +kernel) rfl rfl rfl rfl ?_
  refine J_aload_n dJ0_isEmpty_aae02_0 rfl rfl ?_
  refine J_sval (q := 1024) 4 (by decide) (had 14) (had 24) wf_J0_9 dJ0_isEmpty_aae02_1 ?_
  refine J_slenb (v := 2) 4 (by decide) (had 24) rfl dJ0_isEmpty_aae02_4 ?_
  refine J_if_ne (tgt := 12) dJ0_isEmpty_aae02_5 (by decide) (fun h5 => ?_) (fun h5 => ?_)
  · refine J_iconst (v := 0) dJ0_isEmpty_aae02_12 (by decide) ?_
    refine r_bool dJ0_isEmpty_aae02_13 (by first | exact Or.inl rfl | exact Or.inr rfl | exact i01 | exact jin01) ?_
    first | exact ⟨rfl, rfl⟩ | exact absurd h5 (by decide)
  · refine J_iconst (v := 1) dJ0_isEmpty_aae02_8 (by decide) ?_
    refine J_goto (tgt := 13) dJ0_isEmpty_aae02_9 (by decide) ?_
    refine r_bool dJ0_isEmpty_aae02_13 (by first | exact Or.inl rfl | exact Or.inr rfl | exact i01 | exact jin01) ?_
    first | exact ⟨rfl, rfl⟩ | exact absurd h5 (by decide)

set_option maxRecDepth 100000 in
set_option maxHeartbeats 4000000 in
theorem c_coder4 {X : jX} {ad : Nat → Nat} {mem : Mem}  (had : ∀ k, ad (1000 + k) = jx X k) : Cd X yJ0_coder_7d493 cJ0_coder_7d493 1 (some .byte) 0 ad [.ref 1014] mem (some (.int 0)) (mem) := by
  refine Cm.of (own := RJ0) (nm := "coder") (by decide +kernel) rfl rfl rfl rfl ?_
  refine J_getsCompact wf_J0_38 dJ0_coder_7d493_0 ?_
  refine J_if_eq (tgt := 13) dJ0_coder_7d493_3 (by decide) (fun h3 => ?_) (fun h3 => ?_)
  · refine J_iconst (v := 1) dJ0_coder_7d493_13 (by decide) ?_
    refine r_lit dJ0_coder_7d493_14 rfl ?_
    first | exact ⟨rfl, rfl⟩ | exact absurd h3 (by decide)
  · refine J_aload_n dJ0_coder_7d493_6 rfl rfl ?_
    refine J_scoder 4 (by decide) (had 14) wf_J0_15 dJ0_coder_7d493_7 ?_
    refine J_goto (tgt := 14) dJ0_coder_7d493_10 (by decide) ?_
    refine r_lit dJ0_coder_7d493_14 rfl ?_
    first | exact ⟨rfl, rfl⟩ | exact absurd h3 (by decide)

set_option maxRecDepth 100000 in
set_option maxHeartbeats 4000000 in
theorem c_latin4 {X : jX} {ad : Nat → Nat} {mem : Mem}  (had : ∀ k, ad (1000 + k) = jx X k) : Cd X yJ0_isLatin1_aae02 cJ0_isLatin1_aae02 1 (some .boolean) 0 ad [.ref 1014] mem (some (.int 1)) (mem) := by
  refine Cm.of (own := RJ0) (nm := "isLatin1") (by decide +kernel) rfl rfl rfl rfl ?_
  refine J_getsCompact wf_J0_38 dJ0_isLatin1_aae02_0 ?_
  refine J_if_eq (tgt := 17) dJ0_isLatin1_aae02_3 (by decide) (fun h3 => ?_) (fun h3 => ?_)
  · refine J_iconst (v := 0) dJ0_isLatin1_aae02_17 (by decide) ?_
    refine r_bool dJ0_isLatin1_aae02_18 (by first | exact Or.inl rfl | exact Or.inr rfl | exact i01 | exact jin01) ?_
    first | exact ⟨rfl, rfl⟩ | exact absurd h3 (by decide) | exact absurd rfl h10
  · refine J_aload_n dJ0_isLatin1_aae02_6 rfl rfl ?_
    refine J_scoder 4 (by decide) (had 14) wf_J0_15 dJ0_isLatin1_aae02_7 ?_
    refine J_if_ne (tgt := 17) dJ0_isLatin1_aae02_10 (by decide) (fun h10 => ?_) (fun h10 => ?_)
    · refine J_iconst (v := 0) dJ0_isLatin1_aae02_17 (by decide) ?_
      refine r_bool dJ0_isLatin1_aae02_18 (by first | exact Or.inl rfl | exact Or.inr rfl | exact i01 | exact jin01) ?_
      first | exact ⟨rfl, rfl⟩ | exact absurd h3 (by decide) | exact absurd rfl h10
    · refine J_iconst (v := 1) dJ0_isLatin1_aae02_13 (by decide) ?_
      refine J_goto (tgt := 18) dJ0_isLatin1_aae02_14 (by decide) ?_
      refine r_bool dJ0_isLatin1_aae02_18 (by first | exact Or.inl rfl | exact Or.inr rfl | exact i01 | exact jin01) ?_
      first | exact ⟨rfl, rfl⟩ | exact absurd h3 (by decide) | exact absurd rfl h10

set_option maxRecDepth 100000 in
set_option maxHeartbeats 4000000 in
theorem c_len4 {X : jX} {ad : Nat → Nat} {mem : Mem}  (had : ∀ k, ad (1000 + k) = jx X k) : Cd X yJ0_length_8abf5 cJ0_length_8abf5 1 (some .int) 1 ad [.ref 1014] mem (some (.int 2)) (mem) := by
  refine Cm.of (own := RJ0) (nm := "length") (by decide +kernel) rfl rfl rfl rfl ?_
  refine J_aload_n dJ0_length_8abf5_0 rfl rfl ?_
  refine J_sval (q := 1024) 4 (by decide) (had 14) (had 24) wf_J0_9 dJ0_length_8abf5_1 ?_
  refine J_slenb (v := 2) 4 (by decide) (had 24) rfl dJ0_length_8abf5_4 ?_
  refine J_aload_n dJ0_length_8abf5_5 rfl rfl ?_
  refine cStri wv_J0_335 (c_coder4 had) dJ0_length_8abf5_6 4 (by decide) (had 14) (kk := ?_)
  refine J_ishr dJ0_length_8abf5_9 ?_
  refine r_int dJ0_length_8abf5_10 ?_
  exact ⟨rfl, rfl⟩

set_option maxRecDepth 100000 in
set_option maxHeartbeats 4000000 in
theorem c_lat4_0 {X : jX} {ad : Nat → Nat} {mem : Mem}  (had : ∀ k, ad (1000 + k) = jx X k) : Cd X yJ1_charAt_3b067 cJ1_charAt_3b067 2 (some .char) 3 ad [.ref 1024, .int 0] mem (some (.int 100)) (mem) := by
  refine Cm.of (own := RJ1) (nm := "charAt") (by decide +kernel) rfl rfl rfl rfl ?_
  refine J_iload_n dJ1_charAt_3b067_0 rfl rfl ?_
  refine J_aload_n dJ1_charAt_3b067_1 rfl rfl ?_
  refine J_slenb (v := 2) 4 (by decide) (had 24) rfl dJ1_charAt_3b067_2 ?_
  refine cSv ws_J1_9 (c_J0_checkIndex_df160 (k := 0) (n := 2) (by decide) (by decide) had) dJ1_charAt_3b067_3 (kk := ?_)
  refine J_aload_n dJ1_charAt_3b067_6 rfl rfl ?_
  refine J_iload_n dJ1_charAt_3b067_7 rfl rfl ?_
  refine J_sbyte (x := 100) 4 (by decide) (had 24) (nIin (k := 0) (by decide) (by decide)) rfl dJ1_charAt_3b067_8 ?_
  refine J_sipush (v := 255) dJ1_charAt_3b067_9 (by decide) ?_
  refine J_iand dJ1_charAt_3b067_12 ?_
  refine J_i2c dJ1_charAt_3b067_13 rfl ?_
  refine J_topi (fun z9 hz9 => ?_)
  obtain rfl : z9 = 100 := hz9.trans (by decide)
  clear hz9
  refine r_lit dJ1_charAt_3b067_14 rfl ?_
  exact ⟨rfl, rfl⟩

set_option maxRecDepth 100000 in
set_option maxHeartbeats 4000000 in
theorem c_char4_0 {X : jX} {ad : Nat → Nat} {mem : Mem}  (had : ∀ k, ad (1000 + k) = jx X k) : Cd X yJ0_charAt_5068e cJ0_charAt_5068e 2 (some .char) 4 ad [.ref 1014, .int 0] mem (some (.int 100)) (mem) := by
  refine Cm.of (own := RJ0) (nm := "charAt") (by decide +kernel) rfl rfl rfl rfl ?_
  refine J_aload_n dJ0_charAt_5068e_0 rfl rfl ?_
  refine cStri wv_J0_492 (c_latin4 had) dJ0_charAt_5068e_1 4 (by decide) (had 14) (kk := ?_)
  refine J_if_eq (tgt := 16) dJ0_charAt_5068e_4 (by decide) (fun h4 => absurd h4 (by decide)) (fun h4 => ?_)
  refine J_aload_n dJ0_charAt_5068e_7 rfl rfl ?_
  refine J_sval (q := 1024) 4 (by decide) (had 14) (had 24) wf_J0_9 dJ0_charAt_5068e_8 ?_
  refine J_iload_n dJ0_charAt_5068e_11 rfl rfl ?_
  refine cSi ws_J0_495 (c_lat4_0 had) dJ0_charAt_5068e_12 (kk := ?_)
  refine r_lit dJ0_charAt_5068e_15 rfl ?_
  exact ⟨rfl, rfl⟩

set_option maxRecDepth 100000 in
set_option maxHeartbeats 4000000 in
theorem c_lat4_1 {X : jX} {ad : Nat → Nat} {mem : Mem}  (had : ∀ k, ad (1000 + k) = jx X k) : Cd X yJ1_charAt_3b067 cJ1_charAt_3b067 2 (some .char) 3 ad [.ref 1024, .int 1] mem (some (.int 100)) (mem) := by
  refine Cm.of (own := RJ1) (nm := "charAt") (by decide +kernel) rfl rfl rfl rfl ?_
  refine J_iload_n dJ1_charAt_3b067_0 rfl rfl ?_
  refine J_aload_n dJ1_charAt_3b067_1 rfl rfl ?_
  refine J_slenb (v := 2) 4 (by decide) (had 24) rfl dJ1_charAt_3b067_2 ?_
  refine cSv ws_J1_9 (c_J0_checkIndex_df160 (k := 1) (n := 2) (by decide) (by decide) had) dJ1_charAt_3b067_3 (kk := ?_)
  refine J_aload_n dJ1_charAt_3b067_6 rfl rfl ?_
  refine J_iload_n dJ1_charAt_3b067_7 rfl rfl ?_
  refine J_sbyte (x := 100) 4 (by decide) (had 24) (nIin (k := 1) (by decide) (by decide)) rfl dJ1_charAt_3b067_8 ?_
  refine J_sipush (v := 255) dJ1_charAt_3b067_9 (by decide) ?_
  refine J_iand dJ1_charAt_3b067_12 ?_
  refine J_i2c dJ1_charAt_3b067_13 rfl ?_
  refine J_topi (fun z9 hz9 => ?_)
  obtain rfl : z9 = 100 := hz9.trans (by decide)
  clear hz9
  refine r_lit dJ1_charAt_3b067_14 rfl ?_
  exact ⟨rfl, rfl⟩

set_option maxRecDepth 100000 in
set_option maxHeartbeats 4000000 in
theorem c_char4_1 {X : jX} {ad : Nat → Nat} {mem : Mem}  (had : ∀ k, ad (1000 + k) = jx X k) : Cd X yJ0_charAt_5068e cJ0_charAt_5068e 2 (some .char) 4 ad [.ref 1014, .int 1] mem (some (.int 100)) (mem) := by
  refine Cm.of (own := RJ0) (nm := "charAt") (by decide +kernel) rfl rfl rfl rfl ?_
  refine J_aload_n dJ0_charAt_5068e_0 rfl rfl ?_
  refine cStri wv_J0_492 (c_latin4 had) dJ0_charAt_5068e_1 4 (by decide) (had 14) (kk := ?_)
  refine J_if_eq (tgt := 16) dJ0_charAt_5068e_4 (by decide) (fun h4 => absurd h4 (by decide)) (fun h4 => ?_)
  refine J_aload_n dJ0_charAt_5068e_7 rfl rfl ?_
  refine J_sval (q := 1024) 4 (by decide) (had 14) (had 24) wf_J0_9 dJ0_charAt_5068e_8 ?_
  refine J_iload_n dJ0_charAt_5068e_11 rfl rfl ?_
  refine cSi ws_J0_495 (c_lat4_1 had) dJ0_charAt_5068e_12 (kk := ?_)
  refine r_lit dJ0_charAt_5068e_15 rfl ?_
  exact ⟨rfl, rfl⟩

set_option maxRecDepth 100000 in
set_option maxHeartbeats 4000000 in
theorem c_empty5 {X : jX} {ad : Nat → Nat} {mem : Mem}  (had : ∀ k, ad (1000 + k) = jx X k) : Cd X yJ0_isEmpty_aae02 cJ0_isEmpty_aae02 1 (some .boolean) 0 ad [.ref 1015] mem (some (.int 0)) (mem) := by
  refine Cm.of (own := RJ0) (nm := "isEmpty") (by decide +kernel) rfl rfl rfl rfl ?_
  refine J_aload_n dJ0_isEmpty_aae02_0 rfl rfl ?_
  refine J_sval (q := 1025) 5 (by decide) (had 15) (had 25) wf_J0_9 dJ0_isEmpty_aae02_1 ?_
  refine J_slenb (v := 1) 5 (by decide) (had 25) rfl dJ0_isEmpty_aae02_4 ?_
  refine J_if_ne (tgt := 12) dJ0_isEmpty_aae02_5 (by decide) (fun h5 => ?_) (fun h5 => ?_)
  · refine J_iconst (v := 0) dJ0_isEmpty_aae02_12 (by decide) ?_
    refine r_bool dJ0_isEmpty_aae02_13 (by first | exact Or.inl rfl | exact Or.inr rfl | exact i01 | exact jin01) ?_
    first | exact ⟨rfl, rfl⟩ | exact absurd h5 (by decide)
  · refine J_iconst (v := 1) dJ0_isEmpty_aae02_8 (by decide) ?_
    refine J_goto (tgt := 13) dJ0_isEmpty_aae02_9 (by decide) ?_
    refine r_bool dJ0_isEmpty_aae02_13 (by first | exact Or.inl rfl | exact Or.inr rfl | exact i01 | exact jin01) ?_
    first | exact ⟨rfl, rfl⟩ | exact absurd h5 (by decide)

set_option maxRecDepth 100000 in
set_option maxHeartbeats 4000000 in
theorem c_coder5 {X : jX} {ad : Nat → Nat} {mem : Mem}  (had : ∀ k, ad (1000 + k) = jx X k) : Cd X yJ0_coder_7d493 cJ0_coder_7d493 1 (some .byte) 0 ad [.ref 1015] mem (some (.int 0)) (mem) := by
  refine Cm.of (own := RJ0) (nm := "coder") (by decide +kernel) rfl rfl rfl rfl ?_
  refine J_getsCompact wf_J0_38 dJ0_coder_7d493_0 ?_
  refine J_if_eq (tgt := 13) dJ0_coder_7d493_3 (by decide) (fun h3 => ?_) (fun h3 => ?_)
  · refine J_iconst (v := 1) dJ0_coder_7d493_13 (by decide) ?_
    refine r_lit dJ0_coder_7d493_14 rfl ?_
    first | exact ⟨rfl, rfl⟩ | exact absurd h3 (by decide)
  · refine J_aload_n dJ0_coder_7d493_6 rfl rfl ?_
    refine J_scoder 5 (by decide) (had 15) wf_J0_15 dJ0_coder_7d493_7 ?_
    refine J_goto (tgt := 14) dJ0_coder_7d493_10 (by decide) ?_
    refine r_lit dJ0_coder_7d493_14 rfl ?_
    first | exact ⟨rfl, rfl⟩ | exact absurd h3 (by decide)

set_option maxRecDepth 100000 in
set_option maxHeartbeats 4000000 in
theorem c_latin5 {X : jX} {ad : Nat → Nat} {mem : Mem}  (had : ∀ k, ad (1000 + k) = jx X k) : Cd X yJ0_isLatin1_aae02 cJ0_isLatin1_aae02 1 (some .boolean) 0 ad [.ref 1015] mem (some (.int 1)) (mem) := by
  refine Cm.of (own := RJ0) (nm := "isLatin1") (by decide +kernel) rfl rfl rfl rfl ?_
  refine J_getsCompact wf_J0_38 dJ0_isLatin1_aae02_0 ?_
  refine J_if_eq (tgt := 17) dJ0_isLatin1_aae02_3 (by decide) (fun h3 => ?_) (fun h3 => ?_)
  · refine J_iconst (v := 0) dJ0_isLatin1_aae02_17 (by decide) ?_
    refine r_bool dJ0_isLatin1_aae02_18 (by first | exact Or.inl rfl | exact Or.inr rfl | exact i01 | exact jin01) ?_
    first | exact ⟨rfl, rfl⟩ | exact absurd h3 (by decide) | exact absurd rfl h10
  · refine J_aload_n dJ0_isLatin1_aae02_6 rfl rfl ?_
    refine J_scoder 5 (by decide) (had 15) wf_J0_15 dJ0_isLatin1_aae02_7 ?_
    refine J_if_ne (tgt := 17) dJ0_isLatin1_aae02_10 (by decide) (fun h10 => ?_) (fun h10 => ?_)
    · refine J_iconst (v := 0) dJ0_isLatin1_aae02_17 (by decide) ?_
      refine r_bool dJ0_isLatin1_aae02_18 (by first | exact Or.inl rfl | exact Or.inr rfl | exact i01 | exact jin01) ?_
      first | exact ⟨rfl, rfl⟩ | exact absurd h3 (by decide) | exact absurd rfl h10
    · refine J_iconst (v := 1) dJ0_isLatin1_aae02_13 (by decide) ?_
      refine J_goto (tgt := 18) dJ0_isLatin1_aae02_14 (by decide) ?_
      refine r_bool dJ0_isLatin1_aae02_18 (by first | exact Or.inl rfl | exact Or.inr rfl | exact i01 | exact jin01) ?_
      first | exact ⟨rfl, rfl⟩ | exact absurd h3 (by decide) | exact absurd rfl h10

set_option maxRecDepth 100000 in
set_option maxHeartbeats 4000000 in
theorem c_len5 {X : jX} {ad : Nat → Nat} {mem : Mem}  (had : ∀ k, ad (1000 + k) = jx X k) : Cd X yJ0_length_8abf5 cJ0_length_8abf5 1 (some .int) 1 ad [.ref 1015] mem (some (.int 1)) (mem) := by
  refine Cm.of (own := RJ0) (nm := "length") (by decide +kernel) rfl rfl rfl rfl ?_
  refine J_aload_n dJ0_length_8abf5_0 rfl rfl ?_
  refine J_sval (q := 1025) 5 (by decide) (had 15) (had 25) wf_J0_9 dJ0_length_8abf5_1 ?_
  refine J_slenb (v := 1) 5 (by decide) (had 25) rfl dJ0_length_8abf5_4 ?_
  refine J_aload_n dJ0_length_8abf5_5 rfl rfl ?_
  refine cStri wv_J0_335 (c_coder5 had) dJ0_length_8abf5_6 5 (by decide) (had 15) (kk := ?_)
  refine J_ishr dJ0_length_8abf5_9 ?_
  refine r_int dJ0_length_8abf5_10 ?_
  exact ⟨rfl, rfl⟩

set_option maxRecDepth 100000 in
set_option maxHeartbeats 4000000 in
theorem c_lat5_0 {X : jX} {ad : Nat → Nat} {mem : Mem}  (had : ∀ k, ad (1000 + k) = jx X k) : Cd X yJ1_charAt_3b067 cJ1_charAt_3b067 2 (some .char) 3 ad [.ref 1025, .int 0] mem (some (.int 35)) (mem) := by
  refine Cm.of (own := RJ1) (nm := "charAt") (by decide +kernel) rfl rfl rfl rfl ?_
  refine J_iload_n dJ1_charAt_3b067_0 rfl rfl ?_
  refine J_aload_n dJ1_charAt_3b067_1 rfl rfl ?_
  refine J_slenb (v := 1) 5 (by decide) (had 25) rfl dJ1_charAt_3b067_2 ?_
  refine cSv ws_J1_9 (c_J0_checkIndex_df160 (k := 0) (n := 1) (by decide) (by decide) had) dJ1_charAt_3b067_3 (kk := ?_)
  refine J_aload_n dJ1_charAt_3b067_6 rfl rfl ?_
  refine J_iload_n dJ1_charAt_3b067_7 rfl rfl ?_
  refine J_sbyte (x := 35) 5 (by decide) (had 25) (nIin (k := 0) (by decide) (by decide)) rfl dJ1_charAt_3b067_8 ?_
  refine J_sipush (v := 255) dJ1_charAt_3b067_9 (by decide) ?_
  refine J_iand dJ1_charAt_3b067_12 ?_
  refine J_i2c dJ1_charAt_3b067_13 rfl ?_
  refine J_topi (fun z9 hz9 => ?_)
  obtain rfl : z9 = 35 := hz9.trans (by decide)
  clear hz9
  refine r_lit dJ1_charAt_3b067_14 rfl ?_
  exact ⟨rfl, rfl⟩

set_option maxRecDepth 100000 in
set_option maxHeartbeats 4000000 in
theorem c_char5_0 {X : jX} {ad : Nat → Nat} {mem : Mem}  (had : ∀ k, ad (1000 + k) = jx X k) : Cd X yJ0_charAt_5068e cJ0_charAt_5068e 2 (some .char) 4 ad [.ref 1015, .int 0] mem (some (.int 35)) (mem) := by
  refine Cm.of (own := RJ0) (nm := "charAt") (by decide +kernel) rfl rfl rfl rfl ?_
  refine J_aload_n dJ0_charAt_5068e_0 rfl rfl ?_
  refine cStri wv_J0_492 (c_latin5 had) dJ0_charAt_5068e_1 5 (by decide) (had 15) (kk := ?_)
  refine J_if_eq (tgt := 16) dJ0_charAt_5068e_4 (by decide) (fun h4 => absurd h4 (by decide)) (fun h4 => ?_)
  refine J_aload_n dJ0_charAt_5068e_7 rfl rfl ?_
  refine J_sval (q := 1025) 5 (by decide) (had 15) (had 25) wf_J0_9 dJ0_charAt_5068e_8 ?_
  refine J_iload_n dJ0_charAt_5068e_11 rfl rfl ?_
  refine cSi ws_J0_495 (c_lat5_0 had) dJ0_charAt_5068e_12 (kk := ?_)
  refine r_lit dJ0_charAt_5068e_15 rfl ?_
  exact ⟨rfl, rfl⟩

set_option maxRecDepth 100000 in
set_option maxHeartbeats 4000000 in
theorem c_empty6 {X : jX} {ad : Nat → Nat} {mem : Mem}  (had : ∀ k, ad (1000 + k) = jx X k) : Cd X yJ0_isEmpty_aae02 cJ0_isEmpty_aae02 1 (some .boolean) 0 ad [.ref 1016] mem (some (.int 1)) (mem) := by
  refine Cm.of (own := RJ0) (nm := "isEmpty") (by decide +kernel) rfl rfl rfl rfl ?_
  refine J_aload_n dJ0_isEmpty_aae02_0 rfl rfl ?_
  refine J_sval (q := 1026) 6 (by decide) (had 16) (had 26) wf_J0_9 dJ0_isEmpty_aae02_1 ?_
  refine J_slenb (v := 0) 6 (by decide) (had 26) rfl dJ0_isEmpty_aae02_4 ?_
  refine J_if_ne (tgt := 12) dJ0_isEmpty_aae02_5 (by decide) (fun h5 => ?_) (fun h5 => ?_)
  · refine J_iconst (v := 0) dJ0_isEmpty_aae02_12 (by decide) ?_
    refine r_bool dJ0_isEmpty_aae02_13 (by first | exact Or.inl rfl | exact Or.inr rfl | exact i01 | exact jin01) ?_
    first | exact ⟨rfl, rfl⟩ | exact absurd h5 (by decide)
  · refine J_iconst (v := 1) dJ0_isEmpty_aae02_8 (by decide) ?_
    refine J_goto (tgt := 13) dJ0_isEmpty_aae02_9 (by decide) ?_
    refine r_bool dJ0_isEmpty_aae02_13 (by first | exact Or.inl rfl | exact Or.inr rfl | exact i01 | exact jin01) ?_
    first | exact ⟨rfl, rfl⟩ | exact absurd h5 (by decide)

