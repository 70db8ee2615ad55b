theorem cpy0 {m : Mem} {c : Nat} {f : Nat → Int32} {sp dp : Nat} : upC m c (va_cpy f (m c) sp dp (0 : Int32).toNatClampNeg) = m := by
  funext c' k
  unfold upC va_cpy
  by_cases h : c' = c
  · subst h
    rw [if_pos rfl, if_neg (by rintro ⟨h1, h2⟩; have : (0 : Int32).toNatClampNeg = 0 := by decide
                               omega)]
  · rw [if_neg h]
theorem lk0 {x : Int32} (h : x = 0) : ¬ x < 0 := by subst h; decide
theorem jin_in {s : Int32} (h : ¬ jin s 0 4 = 0) : vp_in s 5 := by
  unfold jin at h
  split at h
  · exact absurd rfl h
  · next h0 =>
    split at h
    · exact absurd rfl h
    · next h4 =>
      rintro (h1 | h1)
      · exact h0 h1
      · have h5 := Int32.not_lt.mp h4
        rw [Int32.le_iff_toInt_le] at h5
        have h6 : s.toInt ≤ 4 := h5
        have h7 : s.toNatClampNeg = s.toInt.toNat := rfl
        omega
set_option maxRecDepth 100000 in
set_option maxHeartbeats 4000000 in
theorem c_X2_copyFrom {X : jX} {ad : Nat → Nat} {mem : Mem} {b b2 : Nat} (hb : isB b) (h2 : isB b2) (hne : b ≠ b2) (hz4 : mem (b2 + 11) 4 = 0) (hz6 : mem (b2 + 11) 6 = 0) : Cm X yX2_copyFrom cX2_copyFrom 2 (none) 1 ad [.ref (b + 11), .ref (b2 + 11)] mem (fun v m => v = none ∧ (∀ c, c ≠ b + 11 → m c = mem c) ∧ m (b + 11) 4 = 0 ∧ m (b + 11) 6 = 0 ∧ m (b + 11) 7 = mem (b2 + 11) 7) := by
  refine Cm.of (own := RX2) (nm := "copyFrom") (by decide +kernel) rfl rfl rfl rfl ?_
  have n11 : ¬ (b2 + 11 = b + 11) := fun e => hne (by omega)
  have hne' : ¬ (b2 = b) := fun e => hne e.symm
  refine J_aload_n dX2_copyFrom_0 rfl rfl ?_
  refine J_aload_n dX2_copyFrom_1 rfl rfl ?_
  refine gX2_sent (by first | assumption | exact isB1 | exact isB18) wf_X2_31 dX2_copyFrom_2 ?_
  refine pX2_sent (by first | assumption | exact isB1 | exact isB18) wf_X2_31 dX2_copyFrom_5 ?_
  refine J_aload_n dX2_copyFrom_8 rfl rfl ?_
  refine gX2_senders (by first | assumption | exact isB1 | exact isB18) wf_X2_9 dX2_copyFrom_9 ?_
  refine J_iconst (v := 0) dX2_copyFrom_12 (by decide) ?_
  refine J_aload_n dX2_copyFrom_13 rfl rfl ?_
  refine gX2_senders (by first | assumption | exact isB1 | exact isB18) wf_X2_9 dX2_copyFrom_14 ?_
  refine J_iconst (v := 0) dX2_copyFrom_17 (by decide) ?_
  refine J_aload_n dX2_copyFrom_18 rfl rfl ?_
  refine gX2_sent (by first | assumption | exact isB1 | exact isB18) wf_X2_31 dX2_copyFrom_19 ?_
  refine J_topi (fun n hn => ?_)
  obtain rfl : n = 0 := hn.trans (by simp [up_apply, upC_apply, hz4, hz6, n11])
  refine a_copy wm_X2_34 dX2_copyFrom_22 rfl rfl (by have := h2.lt; omega) (by have := hb.lt; omega) (CEa_w12 h2) (CEa_w12 hb) (by decide) (by decide) (by decide) (by decide) (by decide) ?_
  rw [cpy0]
  refine J_aload_n dX2_copyFrom_25 rfl rfl ?_
  refine gX2_receivers (by first | assumption | exact isB1 | exact isB18) wf_X2_15 dX2_copyFrom_26 ?_
  refine J_iconst (v := 0) dX2_copyFrom_29 (by decide) ?_
  refine J_aload_n dX2_copyFrom_30 rfl rfl ?_
  refine gX2_receivers (by first | assumption | exact isB1 | exact isB18) wf_X2_15 dX2_copyFrom_31 ?_
  refine J_iconst (v := 0) dX2_copyFrom_34 (by decide) ?_
  refine J_aload_n dX2_copyFrom_35 rfl rfl ?_
  refine gX2_sent (by first | assumption | exact isB1 | exact isB18) wf_X2_31 dX2_copyFrom_36 ?_
  refine J_topi (fun n hn => ?_)
  obtain rfl : n = 0 := hn.trans (by simp [up_apply, upC_apply, hz4, hz6, n11])
  refine a_copy wm_X2_34 dX2_copyFrom_39 rfl rfl (by have := h2.lt; omega) (by have := hb.lt; omega) (CEa_w13 h2) (CEa_w13 hb) (by decide) (by decide) (by decide) (by decide) (by decide) ?_
  rw [cpy0]
  refine J_aload_n dX2_copyFrom_42 rfl rfl ?_
  refine gX2_conditions (by first | assumption | exact isB1 | exact isB18) wf_X2_18 dX2_copyFrom_43 ?_
  refine J_iconst (v := 0) dX2_copyFrom_46 (by decide) ?_
  refine J_aload_n dX2_copyFrom_47 rfl rfl ?_
  refine gX2_conditions (by first | assumption | exact isB1 | exact isB18) wf_X2_18 dX2_copyFrom_48 ?_
  refine J_iconst (v := 0) dX2_copyFrom_51 (by decide) ?_
  refine J_aload_n dX2_copyFrom_52 rfl rfl ?_
  refine gX2_sent (by first | assumption | exact isB1 | exact isB18) wf_X2_31 dX2_copyFrom_53 ?_
  refine J_topi (fun n hn => ?_)
  obtain rfl : n = 0 := hn.trans (by simp [up_apply, upC_apply, hz4, hz6, n11])
  refine a_copy wm_X2_34 dX2_copyFrom_56 rfl rfl (by have := h2.lt; omega) (by have := hb.lt; omega) (CEa_w14 h2) (CEa_w14 hb) (by decide) (by decide) (by decide) (by decide) (by decide) ?_
  rw [cpy0]
  refine J_aload_n dX2_copyFrom_59 rfl rfl ?_
  refine gX2_hurts (by first | assumption | exact isB1 | exact isB18) wf_X2_21 dX2_copyFrom_60 ?_
  refine J_iconst (v := 0) dX2_copyFrom_63 (by decide) ?_
  refine J_aload_n dX2_copyFrom_64 rfl rfl ?_
  refine gX2_hurts (by first | assumption | exact isB1 | exact isB18) wf_X2_21 dX2_copyFrom_65 ?_
  refine J_iconst (v := 0) dX2_copyFrom_68 (by decide) ?_
  refine J_aload_n dX2_copyFrom_69 rfl rfl ?_
  refine gX2_sent (by first | assumption | exact isB1 | exact isB18) wf_X2_31 dX2_copyFrom_70 ?_
  refine J_topi (fun n hn => ?_)
  obtain rfl : n = 0 := hn.trans (by simp [up_apply, upC_apply, hz4, hz6, n11])
  refine a_copy wm_X2_34 dX2_copyFrom_73 rfl rfl (by have := h2.lt; omega) (by have := hb.lt; omega) (CEa_w15 h2) (CEa_w15 hb) (by decide) (by decide) (by decide) (by decide) (by decide) ?_
  rw [cpy0]
  refine J_aload_n dX2_copyFrom_76 rfl rfl ?_
  refine J_aload_n dX2_copyFrom_77 rfl rfl ?_
  refine gX2_queued (by first | assumption | exact isB1 | exact isB18) wf_X2_40 dX2_copyFrom_78 ?_
  refine pX2_queued (by first | assumption | exact isB1 | exact isB18) wf_X2_40 dX2_copyFrom_81 ?_
  refine J_aload_n dX2_copyFrom_84 rfl rfl ?_
  refine gX2_queue (by first | assumption | exact isB1 | exact isB18) wf_X2_24 dX2_copyFrom_85 ?_
  refine J_iconst (v := 0) dX2_copyFrom_88 (by decide) ?_
  refine J_aload_n dX2_copyFrom_89 rfl rfl ?_
  refine gX2_queue (by first | assumption | exact isB1 | exact isB18) wf_X2_24 dX2_copyFrom_90 ?_
  refine J_iconst (v := 0) dX2_copyFrom_93 (by decide) ?_
  refine J_aload_n dX2_copyFrom_94 rfl rfl ?_
  refine gX2_queued (by first | assumption | exact isB1 | exact isB18) wf_X2_40 dX2_copyFrom_95 ?_
  refine J_topi (fun n hn => ?_)
  obtain rfl : n = 0 := hn.trans (by simp [up_apply, upC_apply, hz4, hz6, n11])
  refine a_copy wm_X2_34 dX2_copyFrom_98 rfl rfl (by have := h2.lt; omega) (by have := hb.lt; omega) (CEa_w16 h2) (CEa_w16 hb) (by decide) (by decide) (by decide) (by decide) (by decide) ?_
  rw [cpy0]
  refine J_aload_n dX2_copyFrom_101 rfl rfl ?_
  refine J_aload_n dX2_copyFrom_102 rfl rfl ?_
  refine gX2_onBus (by first | assumption | exact isB1 | exact isB18) wf_X2_27 dX2_copyFrom_103 ?_
  refine pX2_onBus (by first | assumption | exact isB1 | exact isB18) wf_X2_27 dX2_copyFrom_106 ?_
  refine J_aload_n dX2_copyFrom_109 rfl rfl ?_
  refine J_aload_n dX2_copyFrom_110 rfl rfl ?_
  refine gX2_ticksLeft (by first | assumption | exact isB1 | exact isB18) wf_X2_43 dX2_copyFrom_111 ?_
  refine pX2_ticksLeft (by first | assumption | exact isB1 | exact isB18) wf_X2_43 dX2_copyFrom_114 ?_
  refine J_aload_n dX2_copyFrom_117 rfl rfl ?_
  refine J_aload_n dX2_copyFrom_118 rfl rfl ?_
  refine gX2_delivered (by first | assumption | exact isB1 | exact isB18) wf_X2_46 dX2_copyFrom_119 ?_
  refine pX2_delivered (by first | assumption | exact isB1 | exact isB18) wf_X2_46 dX2_copyFrom_122 ?_
  refine J_aload_n dX2_copyFrom_125 rfl rfl ?_
  refine J_aload_n dX2_copyFrom_126 rfl rfl ?_
  refine gX2_lost (by first | assumption | exact isB1 | exact isB18) wf_X2_49 dX2_copyFrom_127 ?_
  refine pX2_lost (by first | assumption | exact isB1 | exact isB18) wf_X2_49 dX2_copyFrom_130 ?_
  refine J_aload_n dX2_copyFrom_133 rfl rfl ?_
  refine J_aload_n dX2_copyFrom_134 rfl rfl ?_
  refine gX2_hurtSoFar (by first | assumption | exact isB1 | exact isB18) wf_X2_52 dX2_copyFrom_135 ?_
  refine pX2_hurtSoFar (by first | assumption | exact isB1 | exact isB18) wf_X2_52 dX2_copyFrom_138 ?_
  refine r_void dX2_copyFrom_141 ?_
  refine ⟨rfl, fun c hc => ?_, ?_, ?_, ?_⟩
  · simp only [up_ne hc]
  · simp [up_apply, upC_apply, hz4, hz6, n11]
  · simp [up_apply, upC_apply, hz4, hz6, n11]
  · simp [up_apply, upC_apply, hz4, hz6, n11, hne']

set_option maxRecDepth 100000 in
set_option maxHeartbeats 4000000 in
theorem c_X0_copyFrom {X : jX} {ad : Nat → Nat} {mem : Mem} {b b2 : Nat} (hb : isB b) (h2 : isB b2) (hne : b ≠ b2) (hz : Fz mem b2) : Cm X yX0_copyFrom cX0_copyFrom 3 (none) 2 ad [.ref b, .ref b2] mem (fun v m => v = none ∧ Out mem m b ∧ Fz m b) := by
  refine Cm.of (own := RX0) (nm := "copyFrom") (by decide +kernel) rfl rfl rfl rfl ?_
  obtain ⟨hz3, hz4, hz6, hz7⟩ := hz
  have n0 : ¬ (b2 = b) := by have := @apart_of b b2 hb h2 hne; intro e; exact this (r := 0) (r2 := 0) (by decide) (by decide) (by omega)
  have n1 : ¬ (b2 = b + 1) := by have := @apart_of b b2 hb h2 hne; intro e; exact this (r := 1) (r2 := 0) (by decide) (by decide) (by omega)
  have n2 : ¬ (b2 + 11 = b) := by have := @apart_of b b2 hb h2 hne; intro e; exact this (r := 0) (r2 := 11) (by decide) (by decide) (by omega)
  have n3 : ¬ (b2 + 11 = b + 1) := by have := @apart_of b b2 hb h2 hne; intro e; exact this (r := 1) (r2 := 11) (by decide) (by decide) (by omega)
  refine J_aload_n dX0_copyFrom_0 rfl rfl ?_
  refine gX0_settings (by first | assumption | exact isB1 | exact isB18) wf_X0_18 dX0_copyFrom_1 ?_
  refine J_iconst (v := 0) dX0_copyFrom_4 (by decide) ?_
  refine J_aload_n dX0_copyFrom_5 rfl rfl ?_
  refine gX0_settings (by first | assumption | exact isB1 | exact isB18) wf_X0_18 dX0_copyFrom_6 ?_
  refine J_iconst (v := 0) dX0_copyFrom_9 (by decide) ?_
  refine J_iconst (v := 5) dX0_copyFrom_10 (by decide) ?_
  refine a_copy wm_X0_37 dX0_copyFrom_11 rfl rfl (by have := h2.lt; omega) (by have := hb.lt; omega) (CEa_set h2) (CEa_set hb) (by decide) (by decide) (by decide) (by decide) (by decide) ?_
  refine J_aload_n dX0_copyFrom_14 rfl rfl ?_
  refine J_aload_n dX0_copyFrom_15 rfl rfl ?_
  refine gX0_boardCount (by first | assumption | exact isB1 | exact isB18) wf_X0_43 dX0_copyFrom_16 ?_
  refine pX0_boardCount (by first | assumption | exact isB1 | exact isB18) wf_X0_43 dX0_copyFrom_19 ?_
  refine J_iconst (v := 0) dX0_copyFrom_22 (by decide) ?_
  refine J_istore_n dX0_copyFrom_23 rfl rfl rfl ?_
  refine J_iload_n dX0_copyFrom_24 rfl rfl ?_
  refine J_aload_n dX0_copyFrom_25 rfl rfl ?_
  refine gX0_boardCount (by first | assumption | exact isB1 | exact isB18) wf_X0_43 dX0_copyFrom_26 ?_
  refine J_icmp_ge (tgt := 53) dX0_copyFrom_29 (by decide) (fun h29 => ?_) (fun h29 => absurd (le0 (by simp [up_apply, upC_apply, n0, n1, hz3])) h29)
  refine J_aload_n dX0_copyFrom_53 rfl rfl ?_
  refine gX0_bus (by first | assumption | exact isB1 | exact isB18) wf_X0_33 dX0_copyFrom_54 ?_
  refine J_aload_n dX0_copyFrom_57 rfl rfl ?_
  refine gX0_bus (by first | assumption | exact isB1 | exact isB18) wf_X0_33 dX0_copyFrom_58 ?_
  refine cVg wv_X0_51 (c_X2_copyFrom hb h2 hne (by simp [up_apply, upC_apply, n0, n1, n2, n3, hz4]) (by simp [up_apply, upC_apply, n0, n1, n2, n3, hz6])) dX0_copyFrom_61 (ob2 (by first | assumption | exact isB1 | exact isB18)) rfl rfl (kk := (fun v m1 hf => ?_))
  obtain ⟨rfl, hO, k4, k6, k7⟩ := hf
  refine J_ws (ws' := WS X ad m1) rfl ?_
  refine J_aload_n dX0_copyFrom_64 rfl rfl ?_
  refine J_aload_n dX0_copyFrom_65 rfl rfl ?_
  refine gX0_time (by first | assumption | exact isB1 | exact isB18) wf_X0_54 dX0_copyFrom_66 ?_
  refine pX0_time (by first | assumption | exact isB1 | exact isB18) wf_X0_54 dX0_copyFrom_69 ?_
  refine J_aload_n dX0_copyFrom_72 rfl rfl ?_
  refine J_aload_n dX0_copyFrom_73 rfl rfl ?_
  refine gX0_plugs (by first | assumption | exact isB1 | exact isB18) wf_X0_57 dX0_copyFrom_74 ?_
  refine pX0_plugs (by first | assumption | exact isB1 | exact isB18) wf_X0_57 dX0_copyFrom_77 ?_
  refine r_void dX0_copyFrom_80 ?_
  refine ⟨rfl, fun c hc => ?_, ?_, ?_, ?_, ?_⟩
  · rw [up_ne (by omega), up_ne (by omega), hO c (by omega), up_ne (by omega), upC_ne (by omega)]
  · simp [up_apply, upC_apply, hO b (by omega), n0, n1, hz3]
  · simp [up_apply, upC_apply, k4]
  · simp [up_apply, upC_apply, k6]
  · simp [up_apply, upC_apply, k7, n2, n3, hz7]

set_option maxRecDepth 100000 in
set_option maxHeartbeats 4000000 in
theorem c_X3_prepare {X : jX} {ad : Nat → Nat} {mem : Mem} {b2 k : Nat} (h2 : isB b2) (hk : k < 13) (hr : mem 188 1 + mem 188 2 = nI k) (hne : 35 + 17 * (k % 7) ≠ b2) (hz : Fz mem b2) : Cm X yX3_prepare cX3_prepare 2 (none) 3 ad [.ref 188, .ref b2] mem (fun v m => v = none ∧ Out mem m (35 + 17 * (k % 7))) := by
  refine Cm.of (own := RX3) (nm := "prepare") (by decide +kernel) rfl rfl rfl rfl ?_
  refine J_aload_n dX3_prepare_0 rfl rfl ?_
  refine J_aload_n dX3_prepare_1 rfl rfl ?_
  refine gX3_size wf_X3_28 dX3_prepare_2 ?_
  refine cVr wv_X3_31 (c_X3_stateAt hk hr) dX3_prepare_5 ob3 rfl rfl (kk := ?_)
  refine J_aload_n dX3_prepare_8 rfl rfl ?_
  refine cVg wv_X3_35 (c_X0_copyFrom isBk h2 hne hz) dX3_prepare_9 (ob0 (by first | assumption | exact isBk)) rfl rfl (kk := (fun v m1 hf => ?_))
  obtain ⟨rfl, hO, -⟩ := hf
  refine r_void dX3_prepare_12 ?_
  exact ⟨rfl, hO⟩

set_option maxRecDepth 100000 in
set_option maxHeartbeats 4000000 in
theorem c_X3_settle {X : jX} {ad : Nat → Nat} {mem : Mem} {a : Int32} (h2 : mem 188 2 = 0) : Cm X yX3_settle cX3_settle 2 (some .int) 1 ad [.ref 188, .int a] mem (fun v m => v = some (.int a) ∧ ∀ c, c ≠ 188 → m c = mem c) := by
  refine Cm.of (own := RX3) (nm := "settle") (by decide +kernel) rfl rfl rfl rfl ?_
  refine J_iload_n dX3_settle_0 rfl rfl ?_
  refine J_if_ge (tgt := 6) dX3_settle_1 (by decide) (fun h1 => ?_) (fun h1 => ?_)
  · refine J_aload_n dX3_settle_6 rfl rfl ?_
    refine gX3_size wf_X3_28 dX3_settle_7 ?_
    refine J_bipush (v := 6) dX3_settle_10 (by decide) ?_
    refine J_icmp_ge (tgt := 28) dX3_settle_12 (by decide) (fun h12 => absurd h12 (by rw [h2]; decide)) (fun h12 => ?_)
    refine J_aload_n dX3_settle_15 rfl rfl ?_
    refine J_dup dX3_settle_16 rfl ?_
    refine gX3_size wf_X3_28 dX3_settle_17 ?_
    refine J_iconst (v := 1) dX3_settle_20 (by decide) ?_
    refine J_iadd dX3_settle_21 ?_
    refine pX3_size wf_X3_28 dX3_settle_22 ?_
    refine J_goto (tgt := 43) dX3_settle_25 (by decide) ?_
    refine J_iload_n dX3_settle_43 rfl rfl ?_
    refine r_int dX3_settle_44 ?_
    exact ⟨rfl, fun c hc => by first | rfl | rw [up_ne hc]⟩
  · refine J_iload_n dX3_settle_4 rfl rfl ?_
    refine r_int dX3_settle_5 ?_
    exact ⟨rfl, fun c hc => by first | rfl | rw [up_ne hc]⟩

set_option maxRecDepth 100000 in
set_option maxHeartbeats 4000000 in
theorem c_X3_takeBack {X : jX} {ad : Nat → Nat} {mem : Mem} {b2 : Nat} (h2 : mem 188 2 = 0) : Cd X yX3_takeBack cX3_takeBack 2 (some .int) 3 ad [.ref 188, .ref b2] mem (some (.int (-5))) (mem) := by
  refine Cm.of (own := RX3) (nm := "takeBack") (by decide +kernel) rfl rfl rfl rfl ?_
  refine J_aload_n dX3_takeBack_0 rfl rfl ?_
  refine gX3_size wf_X3_28 dX3_takeBack_1 ?_
  refine J_if_ne (tgt := 10) dX3_takeBack_4 (by decide) (fun h4 => absurd h2 h4) (fun h4 => ?_)
  refine J_bipush (v := -5) dX3_takeBack_7 (by decide) ?_
  refine r_int dX3_takeBack_9 ?_
  exact ⟨rfl, rfl⟩

def chg (m : Mem) (b : Nat) (s v : Int32) : Int32 := if jin s 0 4 = 0 then -2 else if jin v ([0, 1, 1, 1, 10].getD s.toNatClampNeg 0) ([1, 50, 9, 9, 300].getD s.toNatClampNeg 0) = 0 then -2 else m (b + 1) s.toNatClampNeg
set_option maxRecDepth 100000 in
set_option maxHeartbeats 4000000 in
theorem c_X0_changeSetting {X : jX} {ad : Nat → Nat} {mem : Mem} {b : Nat} {s v : Int32} (hb : isB b) (had : ∀ k, ad (1000 + k) = jx X k) : Cm X yX0_changeSetting cX0_changeSetting 4 (some .int) 1 ad [.ref b, .int s, .int v] mem (fun r m => r = some (.int (chg mem b s v)) ∧ Out mem m b) := by
  refine Cm.of (own := RX0) (nm := "changeSetting") (by decide +kernel) rfl rfl rfl rfl ?_
  refine J_iload_n dX0_changeSetting_0 rfl rfl ?_
  refine J_iconst (v := 0) dX0_changeSetting_1 (by decide) ?_
  refine J_iconst (v := 4) dX0_changeSetting_2 (by decide) ?_
  refine cSNi ws_X0_103 c_X5_isIn dX0_changeSetting_3 (kk := ?_)
  refine J_if_ne (tgt := 12) dX0_changeSetting_6 (by decide) (fun h6 => ?_) (fun h6 => ?_)
  · refine J_iload_n dX0_changeSetting_12 rfl rfl ?_
    refine J_getsN (n := 1000 + 1) (nme := "LOWEST_SETTINGS") 1 (by rw [had 1]; rfl) wn_X0_107 dX0_changeSetting_13 ?_
    refine J_iload_n dX0_changeSetting_16 rfl rfl ?_
    refine J_ti 0 (by rw [had 1]; rfl) (jin_in h6) rfl dX0_changeSetting_17 ?_
    refine J_getsN (n := 1000 + 2) (nme := "HIGHEST_SETTINGS") 2 (by rw [had 2]; rfl) wn_X0_110 dX0_changeSetting_18 ?_
    refine J_iload_n dX0_changeSetting_21 rfl rfl ?_
    refine J_ti 1 (by rw [had 2]; rfl) (jin_in h6) rfl dX0_changeSetting_22 ?_
    refine cSNi ws_X0_103 c_X5_isIn dX0_changeSetting_23 (kk := ?_)
    refine J_if_ne (tgt := 32) dX0_changeSetting_26 (by decide) (fun h26 => ?_) (fun h26 => ?_)
    · refine J_aload_n dX0_changeSetting_32 rfl rfl ?_
      refine gX0_settings (by first | assumption | exact isB1 | exact isB18) wf_X0_18 dX0_changeSetting_33 ?_
      refine J_iload_n dX0_changeSetting_36 rfl rfl ?_
      refine al_set hb dX0_changeSetting_37 (jin_in h6) ?_
      refine J_istore_n dX0_changeSetting_38 rfl rfl rfl ?_
      refine J_aload_n dX0_changeSetting_39 rfl rfl ?_
      refine gX0_settings (by first | assumption | exact isB1 | exact isB18) wf_X0_18 dX0_changeSetting_40 ?_
      refine J_iload_n dX0_changeSetting_43 rfl rfl ?_
      refine J_iload_n dX0_changeSetting_44 rfl rfl ?_
      refine as_set hb dX0_changeSetting_45 (jin_in h6) ?_
      refine J_iload_n dX0_changeSetting_46 rfl rfl ?_
      refine r_int dX0_changeSetting_47 ?_
      refine ⟨?_, fun c hc => up_ne (by omega)⟩
      simp only [chg, *, reduceIte]
    · refine J_bipush (v := -2) dX0_changeSetting_29 (by decide) ?_
      refine r_int dX0_changeSetting_31 ?_
      refine ⟨?_, fun c hc => rfl⟩
      simp only [chg, *, reduceIte]
  · refine J_bipush (v := -2) dX0_changeSetting_9 (by decide) ?_
    refine r_int dX0_changeSetting_11 ?_
    refine ⟨?_, fun c hc => rfl⟩
    simp only [chg, *, reduceIte]

set_option maxRecDepth 100000 in
set_option maxHeartbeats 4000000 in
theorem c_X1_begin {X : jX} {ad : Nat → Nat} {mem : Mem} {b i : Nat} {x y : Int32} (hb : isB b) (hi : i < 8) : Cm X yX1_begin cX1_begin 3 (none) 0 ad [.ref (b + (3 + i)), .int x, .int y] mem (fun v m => v = none ∧ ∀ c, c ≠ b + (3 + i) → m c = mem c) := by
  refine Cm.of (own := RX1) (nm := "begin") (by decide +kernel) rfl rfl rfl rfl ?_
  refine J_aload_n dX1_begin_0 rfl rfl ?_
  refine J_iload_n dX1_begin_1 rfl rfl ?_
  refine pX1_code (by first | assumption | exact isB1 | exact isB18) (by first | assumption | omega) wf_X1_9 dX1_begin_2 ?_
  refine J_aload_n dX1_begin_5 rfl rfl ?_
  refine J_iload_n dX1_begin_6 rfl rfl ?_
  refine pX1_current (by first | assumption | exact isB1 | exact isB18) (by first | assumption | omega) wf_X1_15 dX1_begin_7 ?_
  refine J_aload_n dX1_begin_10 rfl rfl ?_
  refine J_bipush (v := -6) dX1_begin_11 (by decide) ?_
  refine pX1_slot (by first | assumption | exact isB1 | exact isB18) (by first | assumption | omega) wf_X1_18 dX1_begin_13 ?_
  refine J_aload_n dX1_begin_16 rfl rfl ?_
  refine J_iconst (v := 0) dX1_begin_17 (by decide) ?_
  refine pX1_depth (by first | assumption | exact isB1 | exact isB18) (by first | assumption | omega) wf_X1_21 dX1_begin_18 ?_
  refine J_aload_n dX1_begin_21 rfl rfl ?_
  refine J_iconst (v := 0) dX1_begin_22 (by decide) ?_
  refine pX1_speed (by first | assumption | exact isB1 | exact isB18) (by first | assumption | omega) wf_X1_24 dX1_begin_23 ?_
  refine J_aload_n dX1_begin_26 rfl rfl ?_
  refine J_iconst (v := 0) dX1_begin_27 (by decide) ?_
  refine pX1_power (by first | assumption | exact isB1 | exact isB18) (by first | assumption | omega) wf_X1_27 dX1_begin_28 ?_
  refine J_aload_n dX1_begin_31 rfl rfl ?_
  refine J_iconst (v := 0) dX1_begin_32 (by decide) ?_
  refine pX1_isKnown (by first | assumption | exact isB1 | exact isB18) (by first | assumption | omega) wf_X1_30 dX1_begin_33 (by first | exact Or.inl rfl | exact Or.inr rfl | exact i01 | exact jin01) ?_
  refine J_aload_n dX1_begin_36 rfl rfl ?_
  refine J_iconst (v := 0) dX1_begin_37 (by decide) ?_
  refine pX1_hasAsked (by first | assumption | exact isB1 | exact isB18) (by first | assumption | omega) wf_X1_34 dX1_begin_38 (by first | exact Or.inl rfl | exact Or.inr rfl | exact i01 | exact jin01) ?_
  refine J_aload_n dX1_begin_41 rfl rfl ?_
  refine J_iconst (v := 0) dX1_begin_42 (by decide) ?_
  refine pX1_greeted (by first | assumption | exact isB1 | exact isB18) (by first | assumption | omega) wf_X1_37 dX1_begin_43 ?_
  refine J_aload_n dX1_begin_46 rfl rfl ?_
  refine J_iconst (v := 0) dX1_begin_47 (by decide) ?_
  refine pX1_pulledTooSoon (by first | assumption | exact isB1 | exact isB18) (by first | assumption | omega) wf_X1_40 dX1_begin_48 ?_
  refine r_void dX1_begin_51 ?_
  exact ⟨rfl, fun c hc => by simp only [up_ne hc]⟩

def addr (x y : Int32) : Int32 := if jin x 0 99 = 0 then -2 else if jin y 1 60 = 0 then -2 else 0
set_option maxRecDepth 100000 in
set_option maxHeartbeats 4000000 in
theorem c_X0_addBoard {X : jX} {ad : Nat → Nat} {mem : Mem} {b : Nat} {x y : Int32} (hb : isB b) (hz3 : mem b 3 = 0) : Cm X yX0_addBoard cX0_addBoard 4 (some .int) 1 ad [.ref b, .int x, .int y] mem (fun v m => v = some (.int (addr x y)) ∧ Out mem m b) := by
  refine Cm.of (own := RX0) (nm := "addBoard") (by decide +kernel) rfl rfl rfl rfl ?_
  refine J_iload_n dX0_addBoard_0 rfl rfl ?_
  refine J_iconst (v := 0) dX0_addBoard_1 (by decide) ?_
  refine J_bipush (v := 99) dX0_addBoard_2 (by decide) ?_
  refine cSNi ws_X0_103 c_X5_isIn dX0_addBoard_4 (kk := ?_)
  refine J_if_eq (tgt := 20) dX0_addBoard_7 (by decide) (fun h7 => ?_) (fun h7 => ?_)
  · refine J_bipush (v := -2) dX0_addBoard_20 (by decide) ?_
    refine r_int dX0_addBoard_22 ?_
    exact ⟨by simp only [addr, *, reduceIte], fun c hc => rfl⟩
  · refine J_iload_n dX0_addBoard_10 rfl rfl ?_
    refine J_iconst (v := 1) dX0_addBoard_11 (by decide) ?_
    refine J_bipush (v := 60) dX0_addBoard_12 (by decide) ?_
    refine cSNi ws_X0_103 c_X5_isIn dX0_addBoard_14 (kk := ?_)
    refine J_if_ne (tgt := 23) dX0_addBoard_17 (by decide) (fun h17 => ?_) (fun h17 => ?_)
    · refine J_aload_n dX0_addBoard_23 rfl rfl ?_
      refine gX0_boardCount (by first | assumption | exact isB1 | exact isB18) wf_X0_43 dX0_addBoard_24 ?_
      refine J_bipush (v := 8) dX0_addBoard_27 (by decide) ?_
      refine J_icmp_lt (tgt := 35) dX0_addBoard_29 (by decide) (fun h29 => ?_) (fun h29 => absurd (by rw [hz3]; decide) h29)
      refine J_aload_n dX0_addBoard_35 rfl rfl ?_
      refine gX0_boardCount (by first | assumption | exact isB1 | exact isB18) wf_X0_43 dX0_addBoard_36 ?_
      refine J_istore_n dX0_addBoard_39 rfl rfl rfl ?_
      refine J_aload_n dX0_addBoard_40 rfl rfl ?_
      refine gX0_boards (by first | assumption | exact isB1 | exact isB18) wf_X0_25 dX0_addBoard_41 ?_
      refine J_iload_n dX0_addBoard_44 rfl rfl ?_
      refine al_boards hb (k := 0) (by rw [hz3]; decide) dX0_addBoard_45 (by rw [hz3]; exact nIin (k := 0) (by decide) (by decide)) ?_
      refine J_iload_n dX0_addBoard_46 rfl rfl ?_
      refine J_iload_n dX0_addBoard_47 rfl rfl ?_
      refine cVg wv_X0_113 (c_X1_begin (i := 0) hb (by decide)) dX0_addBoard_48 (ob1 (by first | assumption | exact isB1 | exact isB18) (by first | assumption | omega)) rfl rfl (kk := (fun v m1 hf => ?_))
      obtain ⟨rfl, hO⟩ := hf
      refine J_aload_n dX0_addBoard_51 rfl rfl ?_
      refine J_dup dX0_addBoard_52 rfl ?_
      refine gX0_boardCount (by first | assumption | exact isB1 | exact isB18) wf_X0_43 dX0_addBoard_53 ?_
      refine J_iconst (v := 1) dX0_addBoard_56 (by decide) ?_
      refine J_iadd dX0_addBoard_57 ?_
      refine pX0_boardCount (by first | assumption | exact isB1 | exact isB18) wf_X0_43 dX0_addBoard_58 ?_
      refine J_iload_n dX0_addBoard_61 rfl rfl ?_
      refine r_int dX0_addBoard_62 ?_
      exact ⟨by rw [hz3]; simp only [addr, *, reduceIte], fun c hc => by rw [up_ne (by omega), hO c (by omega)]⟩
    · refine J_bipush (v := -2) dX0_addBoard_20 (by decide) ?_
      refine r_int dX0_addBoard_22 ?_
      exact ⟨by simp only [addr, *, reduceIte], fun c hc => rfl⟩

set_option maxRecDepth 100000 in
set_option maxHeartbeats 4000000 in
theorem c_boardAtN {X : jX} {ad : Nat → Nat} {mem : Mem} {b : Nat} {n : Int32} (hb : isB b) (hz3 : mem b 3 = 0) : Cd X yX0_boardAt cX0_boardAt 2 (some (.object "PlugPins$Board")) 0 ad [.ref b, .int n] mem (some .null) (mem) := by
  refine Cm.of (own := RX0) (nm := "boardAt") (by decide +kernel) rfl rfl rfl rfl ?_
  refine J_iload_n dX0_boardAt_0 rfl rfl ?_
  refine J_if_lt (tgt := 21) dX0_boardAt_1 (by decide) (fun h1 => ?_) (fun h1 => ?_)
  · refine J_null dX0_boardAt_21 ?_
    refine r_null dX0_boardAt_22 ?_
    exact ⟨rfl, rfl⟩
  · refine J_iload_n dX0_boardAt_4 rfl rfl ?_
    refine J_aload_n dX0_boardAt_5 rfl rfl ?_
    refine gX0_boardCount (by first | assumption | exact isB1 | exact isB18) wf_X0_43 dX0_boardAt_6 ?_
    refine J_icmp_ge (tgt := 21) dX0_boardAt_9 (by decide) (fun h9 => ?_) (fun h9 => absurd (by rw [hz3]; exact Int32.not_lt.mp (by assumption)) h9)
    refine J_null dX0_boardAt_21 ?_
    refine r_null dX0_boardAt_22 ?_
    exact ⟨rfl, rfl⟩

set_option maxRecDepth 100000 in
set_option maxHeartbeats 4000000 in
theorem c_X0_boardIn {X : jX} {ad : Nat → Nat} {mem : Mem} {b : Nat} {s : Int32} (hb : isB b) (hz3 : mem b 3 = 0) : Cd X yX0_boardIn cX0_boardIn 3 (some .int) 0 ad [.ref b, .int s] mem (some (.int (-6))) (mem) := by
  refine Cm.of (own := RX0) (nm := "boardIn") (by decide +kernel) rfl rfl rfl rfl ?_
  refine J_iconst (v := 0) dX0_boardIn_0 (by decide) ?_
  refine J_istore_n dX0_boardIn_1 rfl rfl rfl ?_
  refine J_iload_n dX0_boardIn_2 rfl rfl ?_
  refine J_aload_n dX0_boardIn_3 rfl rfl ?_
  refine gX0_boardCount (by first | assumption | exact isB1 | exact isB18) wf_X0_43 dX0_boardIn_4 ?_
  refine J_icmp_ge (tgt := 31) dX0_boardIn_7 (by decide) (fun h7 => ?_) (fun h7 => absurd (le0 hz3) h7)
  refine J_bipush (v := -6) dX0_boardIn_31 (by decide) ?_
  refine r_int dX0_boardIn_33 ?_
  exact ⟨rfl, rfl⟩

set_option maxRecDepth 100000 in
set_option maxHeartbeats 4000000 in
theorem c_X0_inwardError {X : jX} {ad : Nat → Nat} {mem : Mem} {b : Nat} {n s v : Int32} (hb : isB b) (hz3 : mem b 3 = 0) : Cd X yX0_inwardError cX0_inwardError 8 (some .int) 2 ad [.ref b, .int n, .int s, .int v] mem (some (.int (-1))) (mem) := by
  refine Cm.of (own := RX0) (nm := "inwardError") (by decide +kernel) rfl rfl rfl rfl ?_
  refine J_aload_n dX0_inwardError_0 rfl rfl ?_
  refine J_iload_n dX0_inwardError_1 rfl rfl ?_
  refine cVn wv_X0_83 (c_boardAtN hb hz3) dX0_inwardError_2 (ob0 (by first | assumption | exact isB1 | exact isB18)) rfl rfl (kk := ?_)
  refine J_astoreN dX0_inwardError_5 rfl rfl ?_
  refine J_aloadN dX0_inwardError_7 rfl ?_
  refine J_ifnullN (tgt := 19) dX0_inwardError_9 (by decide) ?_
  refine J_iconst (v := -1) dX0_inwardError_19 (by decide) ?_
  refine r_int dX0_inwardError_20 ?_
  exact ⟨rfl, rfl⟩

set_option maxRecDepth 100000 in
set_option maxHeartbeats 4000000 in
theorem c_X0_moveInward {X : jX} {ad : Nat → Nat} {mem : Mem} {b : Nat} {n s v : Int32} (hb : isB b) (hz3 : mem b 3 = 0) : Cd X yX0_moveInward cX0_moveInward 6 (some .int) 3 ad [.ref b, .int n, .int s, .int v] mem (some (.int (-1))) (mem) := by
  refine Cm.of (own := RX0) (nm := "moveInward") (by decide +kernel) rfl rfl rfl rfl ?_
  refine J_aload_n dX0_moveInward_0 rfl rfl ?_
  refine J_iload_n dX0_moveInward_1 rfl rfl ?_
  refine J_iload_n dX0_moveInward_2 rfl rfl ?_
  refine J_iload_n dX0_moveInward_3 rfl rfl ?_
  refine cVi wv_X0_124 (c_X0_inwardError hb hz3) dX0_moveInward_4 (ob0 (by first | assumption | exact isB1 | exact isB18)) rfl rfl (kk := ?_)
  refine J_istore dX0_moveInward_7 rfl rfl ?_
  refine J_aload_n dX0_moveInward_9 rfl rfl ?_
  refine J_iload_n dX0_moveInward_10 rfl rfl ?_
  refine cVn wv_X0_83 (c_boardAtN hb hz3) dX0_moveInward_11 (ob0 (by first | assumption | exact isB1 | exact isB18)) rfl rfl (kk := ?_)
  refine J_astoreN dX0_moveInward_14 rfl rfl ?_
  refine J_iload dX0_moveInward_16 rfl ?_
  refine J_if_lt (tgt := 26) dX0_moveInward_18 (by decide) (fun h18 => ?_) (fun h18 => absurd (by decide) h18)
  refine J_iload dX0_moveInward_26 rfl ?_
  refine r_int dX0_moveInward_28 ?_
  exact ⟨rfl, rfl⟩

set_option maxRecDepth 100000 in
set_option maxHeartbeats 4000000 in
theorem c_X0_moveOutward {X : jX} {ad : Nat → Nat} {mem : Mem} {b : Nat} {n v : Int32} (hb : isB b) (hz3 : mem b 3 = 0) : Cd X yX0_moveOutward cX0_moveOutward 4 (some .int) 1 ad [.ref b, .int n, .int v] mem (some (.int (-1))) (mem) := by
  refine Cm.of (own := RX0) (nm := "moveOutward") (by decide +kernel) rfl rfl rfl rfl ?_
  refine J_aload_n dX0_moveOutward_0 rfl rfl ?_
  refine J_iload_n dX0_moveOutward_1 rfl rfl ?_
  refine cVn wv_X0_83 (c_boardAtN hb hz3) dX0_moveOutward_2 (ob0 (by first | assumption | exact isB1 | exact isB18)) rfl rfl (kk := ?_)
  refine J_astore_nN dX0_moveOutward_5 rfl rfl rfl ?_
  refine J_aload_nN dX0_moveOutward_6 rfl rfl ?_
  refine J_ifnonnullN dX0_moveOutward_7 ?_
  refine J_iconst (v := -1) dX0_moveOutward_10 (by decide) ?_
  refine r_int dX0_moveOutward_11 ?_
  exact ⟨rfl, rfl⟩

set_option maxRecDepth 100000 in
set_option maxHeartbeats 4000000 in
theorem c_X0_askToLeave {X : jX} {ad : Nat → Nat} {mem : Mem} {b : Nat} {n : Int32} (hb : isB b) (hz3 : mem b 3 = 0) : Cd X yX0_askToLeave cX0_askToLeave 3 (some .int) 2 ad [.ref b, .int n] mem (some (.int (-1))) (mem) := by
  refine Cm.of (own := RX0) (nm := "askToLeave") (by decide +kernel) rfl rfl rfl rfl ?_
  refine J_aload_n dX0_askToLeave_0 rfl rfl ?_
  refine J_iload_n dX0_askToLeave_1 rfl rfl ?_
  refine cVn wv_X0_83 (c_boardAtN hb hz3) dX0_askToLeave_2 (ob0 (by first | assumption | exact isB1 | exact isB18)) rfl rfl (kk := ?_)
  refine J_astore_nN dX0_askToLeave_5 rfl rfl rfl ?_
  refine J_aload_nN dX0_askToLeave_6 rfl rfl ?_
  refine J_ifnonnullN dX0_askToLeave_7 ?_
  refine J_iconst (v := -1) dX0_askToLeave_10 (by decide) ?_
  refine r_int dX0_askToLeave_11 ?_
  exact ⟨rfl, rfl⟩

set_option maxRecDepth 100000 in
set_option maxHeartbeats 4000000 in
theorem c_X0_whyNot {X : jX} {ad : Nat → Nat} {mem : Mem} {b : Nat} {n k : Int32} (hb : isB b) (hz3 : mem b 3 = 0) : Cd X yX0_whyNot cX0_whyNot 5 (some .int) 1 ad [.ref b, .int n, .int k] mem (some (.int (-1))) (mem) := by
  refine Cm.of (own := RX0) (nm := "whyNot") (by decide +kernel) rfl rfl rfl rfl ?_
  refine J_aload_n dX0_whyNot_0 rfl rfl ?_
  refine J_iload_n dX0_whyNot_1 rfl rfl ?_
  refine cVn wv_X0_83 (c_boardAtN hb hz3) dX0_whyNot_2 (ob0 (by first | assumption | exact isB1 | exact isB18)) rfl rfl (kk := ?_)
  refine J_astore_nN dX0_whyNot_5 rfl rfl rfl ?_
  refine J_aload_n dX0_whyNot_6 rfl rfl ?_
  refine J_iload_n dX0_whyNot_7 rfl rfl ?_
  refine cVn wv_X0_83 (c_boardAtN hb hz3) dX0_whyNot_8 (ob0 (by first | assumption | exact isB1 | exact isB18)) rfl rfl (kk := ?_)
  refine J_astoreN dX0_whyNot_11 rfl rfl ?_
  refine J_aload_nN dX0_whyNot_13 rfl rfl ?_
  refine J_ifnullN (tgt := 22) dX0_whyNot_14 (by decide) ?_
  refine J_iconst (v := -1) dX0_whyNot_22 (by decide) ?_
  refine r_int dX0_whyNot_23 ?_
  exact ⟨rfl, rfl⟩

set_option maxRecDepth 100000 in
set_option maxHeartbeats 4000000 in
theorem c_X0_sendWord {X : jX} {ad : Nat → Nat} {mem : Mem} {b : Nat} {n k : Int32} (hb : isB b) (hz3 : mem b 3 = 0) : Cd X yX0_sendWord cX0_sendWord 4 (some .int) 3 ad [.ref b, .int n, .int k] mem (some (.int (-1))) (mem) := by
  refine Cm.of (own := RX0) (nm := "sendWord") (by decide +kernel) rfl rfl rfl rfl ?_
  refine J_aload_n dX0_sendWord_0 rfl rfl ?_
  refine J_iload_n dX0_sendWord_1 rfl rfl ?_
  refine J_iload_n dX0_sendWord_2 rfl rfl ?_
  refine cVi wv_X0_131 (c_X0_whyNot hb hz3) dX0_sendWord_3 (ob0 (by first | assumption | exact isB1 | exact isB18)) rfl rfl (kk := ?_)
  refine J_istore_n dX0_sendWord_6 rfl rfl rfl ?_
  refine J_iload_n dX0_sendWord_7 rfl rfl ?_
  refine J_if_ge (tgt := 13) dX0_sendWord_8 (by decide) (fun h8 => absurd h8 (by decide)) (fun h8 => ?_)
  refine J_iload_n dX0_sendWord_11 rfl rfl ?_
  refine r_int dX0_sendWord_12 ?_
  exact ⟨rfl, rfl⟩

set_option maxRecDepth 100000 in
set_option maxHeartbeats 4000000 in
theorem c_X0_aboutBoard {X : jX} {ad : Nat → Nat} {mem : Mem} {b : Nat} {n k : Int32} (hb : isB b) (hz3 : mem b 3 = 0) : Cd X yX0_aboutBoard cX0_aboutBoard 4 (some .int) 1 ad [.ref b, .int n, .int k] mem (some (.int (-1))) (mem) := by
  refine Cm.of (own := RX0) (nm := "aboutBoard") (by decide +kernel) rfl rfl rfl rfl ?_
  refine J_aload_n dX0_aboutBoard_0 rfl rfl ?_
  refine J_iload_n dX0_aboutBoard_1 rfl rfl ?_
  refine cVn wv_X0_83 (c_boardAtN hb hz3) dX0_aboutBoard_2 (ob0 (by first | assumption | exact isB1 | exact isB18)) rfl rfl (kk := ?_)
  refine J_astore_nN dX0_aboutBoard_5 rfl rfl rfl ?_
  refine J_aload_nN dX0_aboutBoard_6 rfl rfl ?_
  refine J_ifnonnullN dX0_aboutBoard_7 ?_
  refine J_iconst (v := -1) dX0_aboutBoard_10 (by decide) ?_
  refine r_int dX0_aboutBoard_11 ?_
  exact ⟨rfl, rfl⟩

set_option maxRecDepth 100000 in
set_option maxHeartbeats 4000000 in
theorem c_X0_pluggedSet {X : jX} {ad : Nat → Nat} {mem : Mem} {b : Nat}  (hb : isB b) (hz3 : mem b 3 = 0) : Cd X yX0_pluggedSet cX0_pluggedSet 3 (some .int) 0 ad [.ref b] mem (some (.int 0)) (mem) := by
  refine Cm.of (own := RX0) (nm := "pluggedSet") (by decide +kernel) rfl rfl rfl rfl ?_
  refine J_iconst (v := 0) dX0_pluggedSet_0 (by decide) ?_
  refine J_istore_n dX0_pluggedSet_1 rfl rfl rfl ?_
  refine J_iconst (v := 0) dX0_pluggedSet_2 (by decide) ?_
  refine J_istore_n dX0_pluggedSet_3 rfl rfl rfl ?_
  refine J_iload_n dX0_pluggedSet_4 rfl rfl ?_
  refine J_aload_n dX0_pluggedSet_5 rfl rfl ?_
  refine gX0_boardCount (by first | assumption | exact isB1 | exact isB18) wf_X0_43 dX0_pluggedSet_6 ?_
  refine J_icmp_ge (tgt := 38) dX0_pluggedSet_9 (by decide) (fun h9 => ?_) (fun h9 => absurd (le0 hz3) h9)
  refine J_iload_n dX0_pluggedSet_38 rfl rfl ?_
  refine r_int dX0_pluggedSet_39 ?_
  exact ⟨rfl, rfl⟩

set_option maxRecDepth 100000 in
set_option maxHeartbeats 4000000 in
theorem c_X0_knownSet {X : jX} {ad : Nat → Nat} {mem : Mem} {b : Nat}  (hb : isB b) (hz3 : mem b 3 = 0) : Cd X yX0_knownSet cX0_knownSet 3 (some .int) 0 ad [.ref b] mem (some (.int 0)) (mem) := by
  refine Cm.of (own := RX0) (nm := "knownSet") (by decide +kernel) rfl rfl rfl rfl ?_
  refine J_iconst (v := 0) dX0_knownSet_0 (by decide) ?_
  refine J_istore_n dX0_knownSet_1 rfl rfl rfl ?_
  refine J_iconst (v := 0) dX0_knownSet_2 (by decide) ?_
  refine J_istore_n dX0_knownSet_3 rfl rfl rfl ?_
  refine J_iload_n dX0_knownSet_4 rfl rfl ?_
  refine J_aload_n dX0_knownSet_5 rfl rfl ?_
  refine gX0_boardCount (by first | assumption | exact isB1 | exact isB18) wf_X0_43 dX0_knownSet_6 ?_
  refine J_icmp_ge (tgt := 36) dX0_knownSet_9 (by decide) (fun h9 => ?_) (fun h9 => absurd (le0 hz3) h9)
  refine J_iload_n dX0_knownSet_36 rfl rfl ?_
  refine r_int dX0_knownSet_37 ?_
  exact ⟨rfl, rfl⟩

set_option maxRecDepth 100000 in
set_option maxHeartbeats 4000000 in
theorem c_X0_drawn {X : jX} {ad : Nat → Nat} {mem : Mem} {b : Nat}  (hb : isB b) (hz3 : mem b 3 = 0) : Cd X yX0_drawn cX0_drawn 3 (some .int) 0 ad [.ref b] mem (some (.int 0)) (mem) := by
  refine Cm.of (own := RX0) (nm := "drawn") (by decide +kernel) rfl rfl rfl rfl ?_
  refine J_iconst (v := 0) dX0_drawn_0 (by decide) ?_
  refine J_istore_n dX0_drawn_1 rfl rfl rfl ?_
  refine J_iconst (v := 0) dX0_drawn_2 (by decide) ?_
  refine J_istore_n dX0_drawn_3 rfl rfl rfl ?_
  refine J_iload_n dX0_drawn_4 rfl rfl ?_
  refine J_aload_n dX0_drawn_5 rfl rfl ?_
  refine gX0_boardCount (by first | assumption | exact isB1 | exact isB18) wf_X0_43 dX0_drawn_6 ?_
  refine J_icmp_ge (tgt := 43) dX0_drawn_9 (by decide) (fun h9 => ?_) (fun h9 => absurd (le0 hz3) h9)
  refine J_iload_n dX0_drawn_43 rfl rfl ?_
  refine r_int dX0_drawn_44 ?_
  exact ⟨rfl, rfl⟩

set_option maxRecDepth 100000 in
set_option maxHeartbeats 4000000 in
theorem c_X0_pulledTooSoon {X : jX} {ad : Nat → Nat} {mem : Mem} {b : Nat}  (hb : isB b) (hz3 : mem b 3 = 0) : Cd X yX0_pulledTooSoon cX0_pulledTooSoon 3 (some .int) 0 ad [.ref b] mem (some (.int 0)) (mem) := by
  refine Cm.of (own := RX0) (nm := "pulledTooSoon") (by decide +kernel) rfl rfl rfl rfl ?_
  refine J_iconst (v := 0) dX0_pulledTooSoon_0 (by decide) ?_
  refine J_istore_n dX0_pulledTooSoon_1 rfl rfl rfl ?_
  refine J_iconst (v := 0) dX0_pulledTooSoon_2 (by decide) ?_
  refine J_istore_n dX0_pulledTooSoon_3 rfl rfl rfl ?_
  refine J_iload_n dX0_pulledTooSoon_4 rfl rfl ?_
  refine J_aload_n dX0_pulledTooSoon_5 rfl rfl ?_
  refine gX0_boardCount (by first | assumption | exact isB1 | exact isB18) wf_X0_43 dX0_pulledTooSoon_6 ?_
  refine J_icmp_ge (tgt := 30) dX0_pulledTooSoon_9 (by decide) (fun h9 => ?_) (fun h9 => absurd (le0 hz3) h9)
  refine J_iload_n dX0_pulledTooSoon_30 rfl rfl ?_
  refine r_int dX0_pulledTooSoon_31 ?_
  exact ⟨rfl, rfl⟩

set_option maxRecDepth 100000 in
set_option maxHeartbeats 4000000 in
theorem c_X0_knownWithCode {X : jX} {ad : Nat → Nat} {mem : Mem} {b : Nat} {k : Int32} (hb : isB b) (hz3 : mem b 3 = 0) : Cd X yX0_knownWithCode cX0_knownWithCode 3 (some .int) 0 ad [.ref b, .int k] mem (some (.int (-6))) (mem) := by
  refine Cm.of (own := RX0) (nm := "knownWithCode") (by decide +kernel) rfl rfl rfl rfl ?_
  refine J_iconst (v := 0) dX0_knownWithCode_0 (by decide) ?_
  refine J_istore_n dX0_knownWithCode_1 rfl rfl rfl ?_
  refine J_iload_n dX0_knownWithCode_2 rfl rfl ?_
  refine J_aload_n dX0_knownWithCode_3 rfl rfl ?_
  refine gX0_boardCount (by first | assumption | exact isB1 | exact isB18) wf_X0_43 dX0_knownWithCode_4 ?_
  refine J_icmp_ge (tgt := 43) dX0_knownWithCode_7 (by decide) (fun h7 => ?_) (fun h7 => absurd (le0 hz3) h7)
  refine J_bipush (v := -6) dX0_knownWithCode_43 (by decide) ?_
  refine r_int dX0_knownWithCode_45 ?_
  exact ⟨rfl, rfl⟩

set_option maxRecDepth 100000 in
set_option maxHeartbeats 4000000 in
theorem c_X0_boardSet {X : jX} {ad : Nat → Nat} {mem : Mem} {b : Nat}  (hb : isB b) (hz3 : mem b 3 = 0) : Cd X yX0_boardSet cX0_boardSet 1 (some .int) 0 ad [.ref b] mem (some (.int 0)) (mem) := by
  refine Cm.of (own := RX0) (nm := "boardSet") (by decide +kernel) rfl rfl rfl rfl ?_
  refine J_iconst (v := 1) dX0_boardSet_0 (by decide) ?_
  refine J_aload_n dX0_boardSet_1 rfl rfl ?_
  refine gX0_boardCount (by first | assumption | exact isB1 | exact isB18) wf_X0_43 dX0_boardSet_2 ?_
  refine J_ishl dX0_boardSet_5 ?_
  refine J_iconst (v := 1) dX0_boardSet_6 (by decide) ?_
  refine J_isub dX0_boardSet_7 ?_
  refine r_int dX0_boardSet_8 ?_
  exact ⟨by rw [hz3]; rfl, rfl⟩

set_option maxRecDepth 100000 in
set_option maxHeartbeats 4000000 in
theorem c_X0_isHeld {X : jX} {ad : Nat → Nat} {mem : Mem} {b : Nat}  (hb : isB b) (hz3 : mem b 3 = 0) : Cd X yX0_isHeld cX0_isHeld 2 (some .boolean) 2 ad [.ref b] mem (some (.int 0)) (mem) := by
  refine Cm.of (own := RX0) (nm := "isHeld") (by decide +kernel) rfl rfl rfl rfl ?_
  refine J_aload_n dX0_isHeld_0 rfl rfl ?_
  refine gX0_settings (by first | assumption | exact isB1 | exact isB18) wf_X0_18 dX0_isHeld_1 ?_
  refine J_iconst (v := 0) dX0_isHeld_4 (by decide) ?_
  refine al_set hb dX0_isHeld_5 (nIin (k := 0) (by decide) (by decide)) ?_
  refine J_if_ne (tgt := 11) dX0_isHeld_6 (by decide) (fun h6 => ?_) (fun h6 => ?_)
  · refine J_iconst (v := 0) dX0_isHeld_11 (by decide) ?_
    refine J_istore_n dX0_isHeld_12 rfl rfl rfl ?_
    refine J_iload_n dX0_isHeld_13 rfl rfl ?_
    refine J_aload_n dX0_isHeld_14 rfl rfl ?_
    refine gX0_boardCount (by first | assumption | exact isB1 | exact isB18) wf_X0_43 dX0_isHeld_15 ?_
    refine J_icmp_ge (tgt := 41) dX0_isHeld_18 (by decide) (fun h18 => ?_) (fun h18 => absurd (le0 hz3) h18)
    refine J_iconst (v := 0) dX0_isHeld_41 (by decide) ?_
    refine r_bool dX0_isHeld_42 (by first | exact Or.inl rfl | exact Or.inr rfl | exact i01 | exact jin01) ?_
    exact ⟨rfl, rfl⟩
  · refine J_iconst (v := 0) dX0_isHeld_9 (by decide) ?_
    refine r_bool dX0_isHeld_10 (by first | exact Or.inl rfl | exact Or.inr rfl | exact i01 | exact jin01) ?_
    exact ⟨rfl, rfl⟩

set_option maxRecDepth 100000 in
set_option maxHeartbeats 4000000 in
theorem c_X0_moveBoards {X : jX} {ad : Nat → Nat} {mem : Mem} {b : Nat}  (hb : isB b) (hz3 : mem b 3 = 0) : Cd X yX0_moveBoards cX0_moveBoards 4 (some .boolean) 2 ad [.ref b] mem (some (.int 0)) (mem) := by
  refine Cm.of (own := RX0) (nm := "moveBoards") (by decide +kernel) rfl rfl rfl rfl ?_
  refine J_iconst (v := 0) dX0_moveBoards_0 (by decide) ?_
  refine J_istore_n dX0_moveBoards_1 rfl rfl rfl ?_
  refine J_iconst (v := 0) dX0_moveBoards_2 (by decide) ?_
  refine J_istore_n dX0_moveBoards_3 rfl rfl rfl ?_
  refine J_iload_n dX0_moveBoards_4 rfl rfl ?_
  refine J_iconst (v := 5) dX0_moveBoards_5 (by decide) ?_
  refine J_icmp_ge (tgt := 38) dX0_moveBoards_6 (by decide) (fun h6 => absurd h6 (by decide)) (fun h6 => ?_)
  refine J_aload_n dX0_moveBoards_9 rfl rfl ?_
  refine J_aload_n dX0_moveBoards_10 rfl rfl ?_
  refine J_iload_n dX0_moveBoards_11 rfl rfl ?_
  refine cVi wv_X0_121 (c_X0_boardIn hb hz3) dX0_moveBoards_12 (ob0 (by first | assumption | exact isB1 | exact isB18)) rfl rfl (kk := ?_)
  refine cVn wv_X0_83 (c_boardAtN hb hz3) dX0_moveBoards_15 (ob0 (by first | assumption | exact isB1 | exact isB18)) rfl rfl (kk := ?_)
  refine J_astore_nN dX0_moveBoards_18 rfl rfl rfl ?_
  refine J_aload_nN dX0_moveBoards_19 rfl rfl ?_
  refine J_ifnullN (tgt := 32) dX0_moveBoards_20 (by decide) ?_
  refine J_iinc (v := 1) dX0_moveBoards_32 rfl (by decide) rfl rfl ?_
  refine J_goto (tgt := 4) dX0_moveBoards_35 (by decide) ?_
  refine J_iload_n dX0_moveBoards_4 rfl rfl ?_
  refine J_iconst (v := 5) dX0_moveBoards_5 (by decide) ?_
  refine J_icmp_ge (tgt := 38) dX0_moveBoards_6 (by decide) (fun h6 => absurd h6 (by decide)) (fun h6 => ?_)
  refine J_aload_n dX0_moveBoards_9 rfl rfl ?_
  refine J_aload_n dX0_moveBoards_10 rfl rfl ?_
  refine J_iload_n dX0_moveBoards_11 rfl rfl ?_
  refine cVi wv_X0_121 (c_X0_boardIn hb hz3) dX0_moveBoards_12 (ob0 (by first | assumption | exact isB1 | exact isB18)) rfl rfl (kk := ?_)
  refine cVn wv_X0_83 (c_boardAtN hb hz3) dX0_moveBoards_15 (ob0 (by first | assumption | exact isB1 | exact isB18)) rfl rfl (kk := ?_)
  refine J_astore_nN dX0_moveBoards_18 rfl rfl rfl ?_
  refine J_aload_nN dX0_moveBoards_19 rfl rfl ?_
  refine J_ifnullN (tgt := 32) dX0_moveBoards_20 (by decide) ?_
  refine J_iinc (v := 2) dX0_moveBoards_32 rfl (by decide) rfl rfl ?_
  refine J_goto (tgt := 4) dX0_moveBoards_35 (by decide) ?_
  refine J_iload_n dX0_moveBoards_4 rfl rfl ?_
  refine J_iconst (v := 5) dX0_moveBoards_5 (by decide) ?_
  refine J_icmp_ge (tgt := 38) dX0_moveBoards_6 (by decide) (fun h6 => absurd h6 (by decide)) (fun h6 => ?_)
  refine J_aload_n dX0_moveBoards_9 rfl rfl ?_
  refine J_aload_n dX0_moveBoards_10 rfl rfl ?_
  refine J_iload_n dX0_moveBoards_11 rfl rfl ?_
  refine cVi wv_X0_121 (c_X0_boardIn hb hz3) dX0_moveBoards_12 (ob0 (by first | assumption | exact isB1 | exact isB18)) rfl rfl (kk := ?_)
  refine cVn wv_X0_83 (c_boardAtN hb hz3) dX0_moveBoards_15 (ob0 (by first | assumption | exact isB1 | exact isB18)) rfl rfl (kk := ?_)
  refine J_astore_nN dX0_moveBoards_18 rfl rfl rfl ?_
  refine J_aload_nN dX0_moveBoards_19 rfl rfl ?_
  refine J_ifnullN (tgt := 32) dX0_moveBoards_20 (by decide) ?_
  refine J_iinc (v := 3) dX0_moveBoards_32 rfl (by decide) rfl rfl ?_
  refine J_goto (tgt := 4) dX0_moveBoards_35 (by decide) ?_
  refine J_iload_n dX0_moveBoards_4 rfl rfl ?_
  refine J_iconst (v := 5) dX0_moveBoards_5 (by decide) ?_
  refine J_icmp_ge (tgt := 38) dX0_moveBoards_6 (by decide) (fun h6 => absurd h6 (by decide)) (fun h6 => ?_)
  refine J_aload_n dX0_moveBoards_9 rfl rfl ?_
  refine J_aload_n dX0_moveBoards_10 rfl rfl ?_
  refine J_iload_n dX0_moveBoards_11 rfl rfl ?_
  refine cVi wv_X0_121 (c_X0_boardIn hb hz3) dX0_moveBoards_12 (ob0 (by first | assumption | exact isB1 | exact isB18)) rfl rfl (kk := ?_)
  refine cVn wv_X0_83 (c_boardAtN hb hz3) dX0_moveBoards_15 (ob0 (by first | assumption | exact isB1 | exact isB18)) rfl rfl (kk := ?_)
  refine J_astore_nN dX0_moveBoards_18 rfl rfl rfl ?_
  refine J_aload_nN dX0_moveBoards_19 rfl rfl ?_
  refine J_ifnullN (tgt := 32) dX0_moveBoards_20 (by decide) ?_
  refine J_iinc (v := 4) dX0_moveBoards_32 rfl (by decide) rfl rfl ?_
  refine J_goto (tgt := 4) dX0_moveBoards_35 (by decide) ?_
  refine J_iload_n dX0_moveBoards_4 rfl rfl ?_
  refine J_iconst (v := 5) dX0_moveBoards_5 (by decide) ?_
  refine J_icmp_ge (tgt := 38) dX0_moveBoards_6 (by decide) (fun h6 => absurd h6 (by decide)) (fun h6 => ?_)
  refine J_aload_n dX0_moveBoards_9 rfl rfl ?_
  refine J_aload_n dX0_moveBoards_10 rfl rfl ?_
  refine J_iload_n dX0_moveBoards_11 rfl rfl ?_
  refine cVi wv_X0_121 (c_X0_boardIn hb hz3) dX0_moveBoards_12 (ob0 (by first | assumption | exact isB1 | exact isB18)) rfl rfl (kk := ?_)
  refine cVn wv_X0_83 (c_boardAtN hb hz3) dX0_moveBoards_15 (ob0 (by first | assumption | exact isB1 | exact isB18)) rfl rfl (kk := ?_)
  refine J_astore_nN dX0_moveBoards_18 rfl rfl rfl ?_
  refine J_aload_nN dX0_moveBoards_19 rfl rfl ?_
  refine J_ifnullN (tgt := 32) dX0_moveBoards_20 (by decide) ?_
  refine J_iinc (v := 5) dX0_moveBoards_32 rfl (by decide) rfl rfl ?_
  refine J_goto (tgt := 4) dX0_moveBoards_35 (by decide) ?_
  refine J_iload_n dX0_moveBoards_4 rfl rfl ?_
  refine J_iconst (v := 5) dX0_moveBoards_5 (by decide) ?_
  refine J_icmp_ge (tgt := 38) dX0_moveBoards_6 (by decide) (fun h6 => ?_) (fun h6 => absurd (by decide) h6)
  refine J_iload_n dX0_moveBoards_38 rfl rfl ?_
  refine r_bool dX0_moveBoards_39 (by first | exact Or.inl rfl | exact Or.inr rfl | exact i01 | exact jin01) ?_
  exact ⟨rfl, rfl⟩

set_option maxRecDepth 100000 in
set_option maxHeartbeats 4000000 in
theorem c_X0_powerBoards {X : jX} {ad : Nat → Nat} {mem : Mem} {b : Nat}  (hb : isB b) (hz3 : mem b 3 = 0) : Cd X yX0_powerBoards cX0_powerBoards 3 (none) 2 ad [.ref b] mem none (mem) := by
  refine Cm.of (own := RX0) (nm := "powerBoards") (by decide +kernel) rfl rfl rfl rfl ?_
  refine J_iconst (v := 0) dX0_powerBoards_0 (by decide) ?_
  refine J_istore_n dX0_powerBoards_1 rfl rfl rfl ?_
  refine J_iload_n dX0_powerBoards_2 rfl rfl ?_
  refine J_iconst (v := 5) dX0_powerBoards_3 (by decide) ?_
  refine J_icmp_ge (tgt := 32) dX0_powerBoards_4 (by decide) (fun h4 => absurd h4 (by decide)) (fun h4 => ?_)
  refine J_aload_n dX0_powerBoards_7 rfl rfl ?_
  refine J_aload_n dX0_powerBoards_8 rfl rfl ?_
  refine J_iload_n dX0_powerBoards_9 rfl rfl ?_
  refine cVi wv_X0_121 (c_X0_boardIn hb hz3) dX0_powerBoards_10 (ob0 (by first | assumption | exact isB1 | exact isB18)) rfl rfl (kk := ?_)
  refine cVn wv_X0_83 (c_boardAtN hb hz3) dX0_powerBoards_13 (ob0 (by first | assumption | exact isB1 | exact isB18)) rfl rfl (kk := ?_)
  refine J_astore_nN dX0_powerBoards_16 rfl rfl rfl ?_
  refine J_aload_nN dX0_powerBoards_17 rfl rfl ?_
  refine J_ifnullN (tgt := 26) dX0_powerBoards_18 (by decide) ?_
  refine J_iinc (v := 1) dX0_powerBoards_26 rfl (by decide) rfl rfl ?_
  refine J_goto (tgt := 2) dX0_powerBoards_29 (by decide) ?_
  refine J_iload_n dX0_powerBoards_2 rfl rfl ?_
  refine J_iconst (v := 5) dX0_powerBoards_3 (by decide) ?_
  refine J_icmp_ge (tgt := 32) dX0_powerBoards_4 (by decide) (fun h4 => absurd h4 (by decide)) (fun h4 => ?_)
  refine J_aload_n dX0_powerBoards_7 rfl rfl ?_
  refine J_aload_n dX0_powerBoards_8 rfl rfl ?_
  refine J_iload_n dX0_powerBoards_9 rfl rfl ?_
  refine cVi wv_X0_121 (c_X0_boardIn hb hz3) dX0_powerBoards_10 (ob0 (by first | assumption | exact isB1 | exact isB18)) rfl rfl (kk := ?_)
  refine cVn wv_X0_83 (c_boardAtN hb hz3) dX0_powerBoards_13 (ob0 (by first | assumption | exact isB1 | exact isB18)) rfl rfl (kk := ?_)
  refine J_astore_nN dX0_powerBoards_16 rfl rfl rfl ?_
  refine J_aload_nN dX0_powerBoards_17 rfl rfl ?_
  refine J_ifnullN (tgt := 26) dX0_powerBoards_18 (by decide) ?_
  refine J_iinc (v := 2) dX0_powerBoards_26 rfl (by decide) rfl rfl ?_
  refine J_goto (tgt := 2) dX0_powerBoards_29 (by decide) ?_
  refine J_iload_n dX0_powerBoards_2 rfl rfl ?_
  refine J_iconst (v := 5) dX0_powerBoards_3 (by decide) ?_
  refine J_icmp_ge (tgt := 32) dX0_powerBoards_4 (by decide) (fun h4 => absurd h4 (by decide)) (fun h4 => ?_)
  refine J_aload_n dX0_powerBoards_7 rfl rfl ?_
  refine J_aload_n dX0_powerBoards_8 rfl rfl ?_
  refine J_iload_n dX0_powerBoards_9 rfl rfl ?_
  refine cVi wv_X0_121 (c_X0_boardIn hb hz3) dX0_powerBoards_10 (ob0 (by first | assumption | exact isB1 | exact isB18)) rfl rfl (kk := ?_)
  refine cVn wv_X0_83 (c_boardAtN hb hz3) dX0_powerBoards_13 (ob0 (by first | assumption | exact isB1 | exact isB18)) rfl rfl (kk := ?_)
  refine J_astore_nN dX0_powerBoards_16 rfl rfl rfl ?_
  refine J_aload_nN dX0_powerBoards_17 rfl rfl ?_
  refine J_ifnullN (tgt := 26) dX0_powerBoards_18 (by decide) ?_
  refine J_iinc (v := 3) dX0_powerBoards_26 rfl (by decide) rfl rfl ?_
  refine J_goto (tgt := 2) dX0_powerBoards_29 (by decide) ?_
  refine J_iload_n dX0_powerBoards_2 rfl rfl ?_
  refine J_iconst (v := 5) dX0_powerBoards_3 (by decide) ?_
  refine J_icmp_ge (tgt := 32) dX0_powerBoards_4 (by decide) (fun h4 => absurd h4 (by decide)) (fun h4 => ?_)
  refine J_aload_n dX0_powerBoards_7 rfl rfl ?_
  refine J_aload_n dX0_powerBoards_8 rfl rfl ?_
  refine J_iload_n dX0_powerBoards_9 rfl rfl ?_
  refine cVi wv_X0_121 (c_X0_boardIn hb hz3) dX0_powerBoards_10 (ob0 (by first | assumption | exact isB1 | exact isB18)) rfl rfl (kk := ?_)
  refine cVn wv_X0_83 (c_boardAtN hb hz3) dX0_powerBoards_13 (ob0 (by first | assumption | exact isB1 | exact isB18)) rfl rfl (kk := ?_)
  refine J_astore_nN dX0_powerBoards_16 rfl rfl rfl ?_
  refine J_aload_nN dX0_powerBoards_17 rfl rfl ?_
  refine J_ifnullN (tgt := 26) dX0_powerBoards_18 (by decide) ?_
  refine J_iinc (v := 4) dX0_powerBoards_26 rfl (by decide) rfl rfl ?_
  refine J_goto (tgt := 2) dX0_powerBoards_29 (by decide) ?_
  refine J_iload_n dX0_powerBoards_2 rfl rfl ?_
  refine J_iconst (v := 5) dX0_powerBoards_3 (by decide) ?_
  refine J_icmp_ge (tgt := 32) dX0_powerBoards_4 (by decide) (fun h4 => absurd h4 (by decide)) (fun h4 => ?_)
  refine J_aload_n dX0_powerBoards_7 rfl rfl ?_
  refine J_aload_n dX0_powerBoards_8 rfl rfl ?_
  refine J_iload_n dX0_powerBoards_9 rfl rfl ?_
  refine cVi wv_X0_121 (c_X0_boardIn hb hz3) dX0_powerBoards_10 (ob0 (by first | assumption | exact isB1 | exact isB18)) rfl rfl (kk := ?_)
  refine cVn wv_X0_83 (c_boardAtN hb hz3) dX0_powerBoards_13 (ob0 (by first | assumption | exact isB1 | exact isB18)) rfl rfl (kk := ?_)
  refine J_astore_nN dX0_powerBoards_16 rfl rfl rfl ?_
  refine J_aload_nN dX0_powerBoards_17 rfl rfl ?_
  refine J_ifnullN (tgt := 26) dX0_powerBoards_18 (by decide) ?_
  refine J_iinc (v := 5) dX0_powerBoards_26 rfl (by decide) rfl rfl ?_
  refine J_goto (tgt := 2) dX0_powerBoards_29 (by decide) ?_
  refine J_iload_n dX0_powerBoards_2 rfl rfl ?_
  refine J_iconst (v := 5) dX0_powerBoards_3 (by decide) ?_
  refine J_icmp_ge (tgt := 32) dX0_powerBoards_4 (by decide) (fun h4 => ?_) (fun h4 => absurd (by decide) h4)
  refine r_void dX0_powerBoards_32 ?_
  exact ⟨rfl, rfl⟩

set_option maxRecDepth 100000 in
set_option maxHeartbeats 4000000 in
theorem c_X0_greetBoards {X : jX} {ad : Nat → Nat} {mem : Mem} {b : Nat}  (hb : isB b) (hz3 : mem b 3 = 0) : Cd X yX0_greetBoards cX0_greetBoards 2 (none) 2 ad [.ref b] mem none (mem) := by
  refine Cm.of (own := RX0) (nm := "greetBoards") (by decide +kernel) rfl rfl rfl rfl ?_
  refine J_iconst (v := 0) dX0_greetBoards_0 (by decide) ?_
  refine J_istore_n dX0_greetBoards_1 rfl rfl rfl ?_
  refine J_iload_n dX0_greetBoards_2 rfl rfl ?_
  refine J_aload_n dX0_greetBoards_3 rfl rfl ?_
  refine gX0_boardCount (by first | assumption | exact isB1 | exact isB18) wf_X0_43 dX0_greetBoards_4 ?_
  refine J_icmp_ge (tgt := 77) dX0_greetBoards_7 (by decide) (fun h7 => ?_) (fun h7 => absurd (le0 hz3) h7)
  refine r_void dX0_greetBoards_77 ?_
  exact ⟨rfl, rfl⟩

set_option maxRecDepth 100000 in
set_option maxHeartbeats 4000000 in
theorem c_X2_isWord {X : jX} {ad : Nat → Nat} {mem : Mem} {b : Nat} {k : Int32} (hb : isB b) (hz4 : mem (b + 11) 4 = 0) : Cd X yX2_isWord cX2_isWord 2 (some .boolean) 0 ad [.ref (b + 11), .int k] mem (some (.int 0)) (mem) := by
  refine Cm.of (own := RX2) (nm := "isWord") (by decide +kernel) rfl rfl rfl rfl ?_
  refine J_iload_n dX2_isWord_0 rfl rfl ?_
  refine J_if_lt (tgt := 16) dX2_isWord_1 (by decide) (fun h1 => ?_) (fun h1 => ?_)
  · refine J_iconst (v := 0) dX2_isWord_16 (by decide) ?_
    refine r_bool dX2_isWord_17 (by first | exact Or.inl rfl | exact Or.inr rfl | exact i01 | exact jin01) ?_
    exact ⟨rfl, rfl⟩
  · refine J_iload_n dX2_isWord_4 rfl rfl ?_
    refine J_aload_n dX2_isWord_5 rfl rfl ?_
    refine gX2_sent (by first | assumption | exact isB1 | exact isB18) wf_X2_31 dX2_isWord_6 ?_
    refine J_icmp_ge (tgt := 16) dX2_isWord_9 (by decide) (fun h9 => ?_) (fun h9 => absurd (by rw [hz4]; exact Int32.not_lt.mp (by assumption)) h9)
    refine J_iconst (v := 0) dX2_isWord_16 (by decide) ?_
    refine r_bool dX2_isWord_17 (by first | exact Or.inl rfl | exact Or.inr rfl | exact i01 | exact jin01) ?_
    exact ⟨rfl, rfl⟩

set_option maxRecDepth 100000 in
set_option maxHeartbeats 4000000 in
theorem c_X2_aboutWord {X : jX} {ad : Nat → Nat} {mem : Mem} {b : Nat} {k n : Int32} (hb : isB b) (hz4 : mem (b + 11) 4 = 0) : Cd X yX2_aboutWord cX2_aboutWord 3 (some .int) 1 ad [.ref (b + 11), .int k, .int n] mem (some (.int (-1))) (mem) := by
  refine Cm.of (own := RX2) (nm := "aboutWord") (by decide +kernel) rfl rfl rfl rfl ?_
  refine J_aload_n dX2_aboutWord_0 rfl rfl ?_
  refine J_iload_n dX2_aboutWord_1 rfl rfl ?_
  refine cVi wv_X2_55 (c_X2_isWord hb hz4) dX2_aboutWord_2 (ob2 (by first | assumption | exact isB1 | exact isB18)) rfl rfl (kk := ?_)
  refine J_if_ne (tgt := 10) dX2_aboutWord_5 (by decide) (fun h5 => absurd rfl h5) (fun h5 => ?_)
  refine J_iconst (v := -1) dX2_aboutWord_8 (by decide) ?_
  refine r_int dX2_aboutWord_9 ?_
  exact ⟨rfl, rfl⟩

set_option maxRecDepth 100000 in
set_option maxHeartbeats 4000000 in
theorem c_X2_wordAtRank {X : jX} {ad : Nat → Nat} {mem : Mem} {b : Nat} {k : Int32} (hb : isB b) (hz6 : mem (b + 11) 6 = 0) : Cd X yX2_wordAtRank cX2_wordAtRank 2 (some .int) 0 ad [.ref (b + 11), .int k] mem (some (.int (-6))) (mem) := by
  refine Cm.of (own := RX2) (nm := "wordAtRank") (by decide +kernel) rfl rfl rfl rfl ?_
  refine J_iload_n dX2_wordAtRank_0 rfl rfl ?_
  refine J_if_lt (tgt := 21) dX2_wordAtRank_1 (by decide) (fun h1 => ?_) (fun h1 => ?_)
  · refine J_bipush (v := -6) dX2_wordAtRank_21 (by decide) ?_
    refine r_int dX2_wordAtRank_23 ?_
    exact ⟨rfl, rfl⟩
  · refine J_iload_n dX2_wordAtRank_4 rfl rfl ?_
    refine J_aload_n dX2_wordAtRank_5 rfl rfl ?_
    refine gX2_queued (by first | assumption | exact isB1 | exact isB18) wf_X2_40 dX2_wordAtRank_6 ?_
    refine J_icmp_ge (tgt := 21) dX2_wordAtRank_9 (by decide) (fun h9 => ?_) (fun h9 => absurd (by rw [hz6]; exact Int32.not_lt.mp (by assumption)) h9)
    refine J_bipush (v := -6) dX2_wordAtRank_21 (by decide) ?_
    refine r_int dX2_wordAtRank_23 ?_
    exact ⟨rfl, rfl⟩

set_option maxRecDepth 100000 in
set_option maxHeartbeats 4000000 in
theorem c_X2_openWords {X : jX} {ad : Nat → Nat} {mem : Mem} {b : Nat}  (hb : isB b) (hz4 : mem (b + 11) 4 = 0) (hz6 : mem (b + 11) 6 = 0) : Cd X yX2_openWords cX2_openWords 1 (some .int) 1 ad [.ref (b + 11)] mem (some (.int 0)) (mem) := by
  refine Cm.of (own := RX2) (nm := "openWords") (by decide +kernel) rfl rfl rfl rfl ?_
  refine J_aload_n dX2_openWords_0 rfl rfl ?_
  refine J_aload_n dX2_openWords_1 rfl rfl ?_
  refine gX2_onBus (by first | assumption | exact isB1 | exact isB18) wf_X2_27 dX2_openWords_2 ?_
  refine cVi wv_X2_55 (c_X2_isWord hb hz4) dX2_openWords_5 (ob2 (by first | assumption | exact isB1 | exact isB18)) rfl rfl (kk := ?_)
  refine J_if_eq (tgt := 20) dX2_openWords_8 (by decide) (fun h8 => ?_) (fun h8 => absurd rfl h8)
  refine J_aload_n dX2_openWords_20 rfl rfl ?_
  refine gX2_queued (by first | assumption | exact isB1 | exact isB18) wf_X2_40 dX2_openWords_21 ?_
  refine r_int dX2_openWords_24 ?_
  exact ⟨by rw [hz6], rfl⟩

set_option maxRecDepth 100000 in
set_option maxHeartbeats 4000000 in
theorem c_X2_carryWordOnBus {X : jX} {ad : Nat → Nat} {mem : Mem} {b : Nat}  (hb : isB b) (hz4 : mem (b + 11) 4 = 0) : Cd X yX2_carryWordOnBus cX2_carryWordOnBus 1 (none) 1 ad [.ref (b + 11)] mem none (mem) := by
  refine Cm.of (own := RX2) (nm := "carryWordOnBus") (by decide +kernel) rfl rfl rfl rfl ?_
  refine J_aload_n dX2_carryWordOnBus_0 rfl rfl ?_
  refine J_aload_n dX2_carryWordOnBus_1 rfl rfl ?_
  refine gX2_onBus (by first | assumption | exact isB1 | exact isB18) wf_X2_27 dX2_carryWordOnBus_2 ?_
  refine cVi wv_X2_55 (c_X2_isWord hb hz4) dX2_carryWordOnBus_5 (ob2 (by first | assumption | exact isB1 | exact isB18)) rfl rfl (kk := ?_)
  refine J_if_ne (tgt := 12) dX2_carryWordOnBus_8 (by decide) (fun h8 => absurd rfl h8) (fun h8 => ?_)
  refine r_void dX2_carryWordOnBus_11 ?_
  exact ⟨rfl, rfl⟩

set_option maxRecDepth 100000 in
set_option maxHeartbeats 4000000 in
theorem c_X2_takeNextWord {X : jX} {ad : Nat → Nat} {mem : Mem} {b : Nat} {k n : Int32} (hb : isB b) (hz6 : mem (b + 11) 6 = 0) : Cd X yX2_takeNextWord cX2_takeNextWord 5 (none) 1 ad [.ref (b + 11), .int k, .int n] mem none (mem) := by
  refine Cm.of (own := RX2) (nm := "takeNextWord") (by decide +kernel) rfl rfl rfl rfl ?_
  refine J_iconst (v := 0) dX2_takeNextWord_0 (by decide) ?_
  refine J_istore_n dX2_takeNextWord_1 rfl rfl rfl ?_
  refine J_iload_n dX2_takeNextWord_2 rfl rfl ?_
  refine J_aload_n dX2_takeNextWord_3 rfl rfl ?_
  refine gX2_queued (by first | assumption | exact isB1 | exact isB18) wf_X2_40 dX2_takeNextWord_4 ?_
  refine J_icmp_ge (tgt := 86) dX2_takeNextWord_7 (by decide) (fun h7 => ?_) (fun h7 => absurd (le0 hz6) h7)
  refine r_void dX2_takeNextWord_86 ?_
  exact ⟨rfl, rfl⟩

set_option maxRecDepth 100000 in
set_option maxHeartbeats 4000000 in
theorem c_X0_ticksUntilQuiet {X : jX} {ad : Nat → Nat} {mem : Mem} {b : Nat}  (hb : isB b) (hz4 : mem (b + 11) 4 = 0) (hz6 : mem (b + 11) 6 = 0) : Cd X yX0_ticksUntilQuiet cX0_ticksUntilQuiet 2 (some .int) 4 ad [.ref b] mem (some (.int 0)) (mem) := by
  refine Cm.of (own := RX0) (nm := "ticksUntilQuiet") (by decide +kernel) rfl rfl rfl rfl ?_
  refine J_iconst (v := 0) dX0_ticksUntilQuiet_0 (by decide) ?_
  refine J_istore_n dX0_ticksUntilQuiet_1 rfl rfl rfl ?_
  refine J_iload_n dX0_ticksUntilQuiet_2 rfl rfl ?_
  refine J_sipush (v := 200) dX0_ticksUntilQuiet_3 (by decide) ?_
  refine J_icmp_gt (tgt := 31) dX0_ticksUntilQuiet_6 (by decide) (fun h6 => absurd h6 (by decide)) (fun h6 => ?_)
  refine J_aload_n dX0_ticksUntilQuiet_9 rfl rfl ?_
  refine gX0_bus (by first | assumption | exact isB1 | exact isB18) wf_X0_33 dX0_ticksUntilQuiet_10 ?_
  refine cVi wv_X0_144 (c_X2_openWords hb hz4 hz6) dX0_ticksUntilQuiet_13 (ob2 (by first | assumption | exact isB1 | exact isB18)) rfl rfl (kk := ?_)
  refine J_if_ne (tgt := 21) dX0_ticksUntilQuiet_16 (by decide) (fun h16 => absurd rfl h16) (fun h16 => ?_)
  refine J_iload_n dX0_ticksUntilQuiet_19 rfl rfl ?_
  refine r_int dX0_ticksUntilQuiet_20 ?_
  exact ⟨rfl, rfl⟩

set_option maxRecDepth 100000 in
set_option maxHeartbeats 4000000 in
theorem c_X0_tick {X : jX} {ad : Nat → Nat} {mem : Mem} {b : Nat} (hb : isB b) (hz : Fz mem b) : Cd X yX0_tick cX0_tick 2 (none) 3 ad [.ref b] mem none (up mem b 4 (mem b 4 + 1)) := by
  refine Cm.of (own := RX0) (nm := "tick") (by decide +kernel) rfl rfl rfl rfl ?_
  obtain ⟨hz3, hz4, hz6, hz7⟩ := hz
  refine J_aload_n dX0_tick_0 rfl rfl ?_
  refine cVi wv_X0_151 (c_X0_moveBoards hb hz3) dX0_tick_1 (ob0 (by first | assumption | exact isB1 | exact isB18)) rfl rfl (kk := ?_)
  refine J_istore_n dX0_tick_4 rfl rfl rfl ?_
  refine J_aload_n dX0_tick_5 rfl rfl ?_
  refine cVv wv_X0_154 (c_X0_powerBoards hb hz3) dX0_tick_6 (ob0 (by first | assumption | exact isB1 | exact isB18)) rfl rfl (kk := ?_)
  refine J_aload_n dX0_tick_9 rfl rfl ?_
  refine cVv wv_X0_157 (c_X0_greetBoards hb hz3) dX0_tick_10 (ob0 (by first | assumption | exact isB1 | exact isB18)) rfl rfl (kk := ?_)
  refine J_iload_n dX0_tick_13 rfl rfl ?_
  refine J_if_eq (tgt := 43) dX0_tick_14 (by decide) (fun h14 => ?_) (fun h14 => absurd rfl h14)
  refine J_aload_n dX0_tick_43 rfl rfl ?_
  refine gX0_bus (by first | assumption | exact isB1 | exact isB18) wf_X0_33 dX0_tick_44 ?_
  refine cVv wv_X0_164 (c_X2_carryWordOnBus hb hz4) dX0_tick_47 (ob2 (by first | assumption | exact isB1 | exact isB18)) rfl rfl (kk := ?_)
  refine J_aload_n dX0_tick_50 rfl rfl ?_
  refine gX0_bus (by first | assumption | exact isB1 | exact isB18) wf_X0_33 dX0_tick_51 ?_
  refine gX2_onBus (by first | assumption | exact isB1 | exact isB18) wf_X0_167 dX0_tick_54 ?_
  refine J_bipush (v := -6) dX0_tick_57 (by decide) ?_
  refine J_icmp_ne (tgt := 86) dX0_tick_59 (by decide) (fun h59 => absurd (by rw [hz7]) h59) (fun h59 => ?_)
  refine J_aload_n dX0_tick_62 rfl rfl ?_
  refine cVi wv_X0_170 (c_X0_isHeld hb hz3) dX0_tick_63 (ob0 (by first | assumption | exact isB1 | exact isB18)) rfl rfl (kk := ?_)
  refine J_if_ne (tgt := 86) dX0_tick_66 (by decide) (fun h66 => absurd rfl h66) (fun h66 => ?_)
  refine J_aload_n dX0_tick_69 rfl rfl ?_
  refine gX0_bus (by first | assumption | exact isB1 | exact isB18) wf_X0_33 dX0_tick_70 ?_
  refine J_aload_n dX0_tick_73 rfl rfl ?_
  refine cVi wv_X0_173 (c_X0_knownSet hb hz3) dX0_tick_74 (ob0 (by first | assumption | exact isB1 | exact isB18)) rfl rfl (kk := ?_)
  refine J_aload_n dX0_tick_77 rfl rfl ?_
  refine gX0_settings (by first | assumption | exact isB1 | exact isB18) wf_X0_18 dX0_tick_78 ?_
  refine J_iconst (v := 2) dX0_tick_81 (by decide) ?_
  refine al_set hb dX0_tick_82 (nIin (k := 2) (by decide) (by decide)) ?_
  refine cVv wv_X0_176 (c_X2_takeNextWord hb hz6) dX0_tick_83 (ob2 (by first | assumption | exact isB1 | exact isB18)) rfl rfl (kk := ?_)
  refine J_aload_n dX0_tick_86 rfl rfl ?_
  refine J_dup dX0_tick_87 rfl ?_
  refine gX0_time (by first | assumption | exact isB1 | exact isB18) wf_X0_54 dX0_tick_88 ?_
  refine J_iconst (v := 1) dX0_tick_91 (by decide) ?_
  refine J_iadd dX0_tick_92 ?_
  refine pX0_time (by first | assumption | exact isB1 | exact isB18) wf_X0_54 dX0_tick_93 ?_
  refine r_void dX0_tick_96 ?_
  exact ⟨rfl, rfl⟩

