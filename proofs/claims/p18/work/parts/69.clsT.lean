set_option maxRecDepth 100000 in
set_option maxHeartbeats 4000000 in
theorem clsPassLoop {X : jX} {ad : Nat → Nat} {m : Mem} {b : Nat} {s : Rw} {n w : Nat} {T : Nat} {D : Int32} (hb : isB b) (hV : Rv s n w) (hT : T ≤ 99) : ∀ (j i : Nat) (B : Mem), i + j = T → Rep B (tks s n w i) n w → Jg X RX0 cX0_passTicks 4 (some .int) "passTicks" 4 0 0 (QF X ad (fun v m9 => v = some (.int (tks s n w T 300 - D)) ∧ ∃ B9, m9 = SB m b B9 ∧ Rep B9 (tks s n w T) n w)) ad 0 0 38 [(0, .ref b), (1, .int (nI T)), (2, .int D), (3, .int (nI i))] [] (WS X ad (SB m b B)) := by
  intro j
  induction j with
  | zero =>
    intro i B hi hR
    obtain rfl : i = T := by omega
    refine J_iload_n dX0_passTicks_38 rfl rfl ?_
    refine J_iload_n dX0_passTicks_39 rfl rfl ?_
    refine J_icmp_ge (tgt := 53) dX0_passTicks_40 (by decide) (fun h40 => ?_) (fun h40 => absurd (nI_le1 (Nat.le_refl _) (by omega)) h40)
    refine J_aload_n dX0_passTicks_53 rfl rfl ?_
    refine gX0_bus (by first | assumption | exact isB1 | exact isB18) wf_X0_33 dX0_passTicks_54 ?_
    refine gB_delivered (by first | assumption | exact isB1 | exact isB18) wf_X0_138 dX0_passTicks_57 ?_
    refine J_topi (fun z9 hz9 => ?_)
    obtain rfl : z9 = (tks s n w i 300) := hz9.trans (by exact hR.2.1.2.2.2.2.2.1)
    clear hz9
    refine J_iload_n dX0_passTicks_60 rfl rfl ?_
    refine J_isub dX0_passTicks_61 ?_
    refine r_int dX0_passTicks_62 ?_
    exact ⟨rfl, B, rfl, hR⟩
  | succ j ih =>
    intro i B hi hR
    refine J_iload_n dX0_passTicks_38 rfl rfl ?_
    refine J_iload_n dX0_passTicks_39 rfl rfl ?_
    refine J_icmp_ge (tgt := 53) dX0_passTicks_40 (by decide) (fun h40 => absurd h40 (nI_nle1 (by omega) (by omega))) (fun h40 => ?_)
    refine J_aload_n dX0_passTicks_43 rfl rfl ?_
    refine cVg wv_X0_141 (c_X0_tick hb (Rv_tks hV i) hR) dX0_passTicks_44 (ob0 (by first | assumption | exact isB1 | exact isB18)) rfl rfl (kk := (fun v m9 hf9 => ?_))
    obtain ⟨rfl, B9, rfl, hR9⟩ := hf9
    refine J_iinc (v := _ + 1) dX0_passTicks_47 rfl rfl rfl rfl ?_
    rw [show nI i + 1 = nI (i + 1) from (nI_succ i).symm]
    refine J_goto (tgt := 38) dX0_passTicks_50 (by decide) ?_
    exact ih (i + 1) B9 (by omega) hR9

set_option maxRecDepth 100000 in
set_option maxHeartbeats 4000000 in
theorem c_X0_passTicks {X : jX} {ad : Nat → Nat} {m B : Mem} {b : Nat} {s : Rw} {n w : Nat} {t : Int32} (hb : isB b) (hV : Rv s n w) (hRp : Rep B s n w) : Cm X yX0_passTicks cX0_passTicks 4 (some .int) 4 ad [.ref b, .int t] (SB m b B) (ChFin m b (paF s n w t) n w) := by
  refine Cm.of (own := RX0) (nm := "passTicks") (by decide +kernel) rfl rfl rfl rfl ?_
  refine J_iload_n dX0_passTicks_0 rfl rfl ?_
  refine J_iconst (v := 1) dX0_passTicks_1 (by decide) ?_
  refine J_bipush (v := 99) dX0_passTicks_2 (by decide) ?_
  refine cSNi ws_X0_103 c_X5_isIn dX0_passTicks_4 (kk := ?_)
  refine J_if_ne (tgt := 13) dX0_passTicks_7 (by decide) (fun h7 => ?_) (fun h7 => ?_)
  · refine J_aload_n dX0_passTicks_13 rfl rfl ?_
    refine gB_time (by first | assumption | exact isB1 | exact isB18) wf_X0_54 dX0_passTicks_14 ?_
    refine J_topi (fun z9 hz9 => ?_)
    obtain rfl : z9 = (s 297) := hz9.trans (by exact hRp.2.2.1)
    clear hz9
    refine J_iload_n dX0_passTicks_17 rfl rfl ?_
    refine J_iadd dX0_passTicks_18 ?_
    refine J_sipush (v := 9999) dX0_passTicks_19 (by decide) ?_
    refine J_icmp_le (tgt := 28) dX0_passTicks_22 (by decide) (fun h22 => ?_) (fun h22 => ?_)
    · refine J_aload_n dX0_passTicks_28 rfl rfl ?_
      refine gX0_bus (by first | assumption | exact isB1 | exact isB18) wf_X0_33 dX0_passTicks_29 ?_
      refine gB_delivered (by first | assumption | exact isB1 | exact isB18) wf_X0_138 dX0_passTicks_32 ?_
      refine J_topi (fun z9 hz9 => ?_)
      obtain rfl : z9 = (s 300) := hz9.trans (by exact hRp.2.1.2.2.2.2.2.1)
      clear hz9
      refine J_istore_n dX0_passTicks_35 rfl rfl rfl ?_
      refine J_iconst (v := 0) dX0_passTicks_36 (by decide) ?_
      refine J_istore_n dX0_passTicks_37 rfl rfl rfl ?_
      obtain ⟨T, hT, rfl⟩ := jin_nat (n := 99) (by decide) rfl h7
      have e : paF s n w (nI T) = (tks s n w T 300 - s 300, tks s n w T) := by unfold paF; rw [if_neg h7, if_pos h22, show (nI T).toNatClampNeg = T from nI_cl (by omega)]
      rw [e]
      exact clsPassLoop (D := s 300) hb hV hT T 0 B (Nat.zero_add _) hRp
    · refine J_bipush (v := -5) dX0_passTicks_25 (by decide) ?_
      refine r_int dX0_passTicks_27 ?_
      rw [show paF s n w t = (-5, s) by unfold paF; rw [if_neg h7, if_neg h22]]
      exact ch_err hRp
  · refine J_bipush (v := -2) dX0_passTicks_10 (by decide) ?_
    refine r_int dX0_passTicks_12 ?_
    rw [show paF s n w t = (-2, s) by unfold paF; rw [if_pos h7]]
    exact ch_err hRp

set_option maxRecDepth 100000 in
set_option maxHeartbeats 4000000 in
theorem clsUntilKnown {X : jX} {ad : Nat → Nat} {m : Mem} {b : Nat} {s : Rw} {n w : Nat} {q r : Nat} (hb : isB b) (hV : Rv s n w) (hq : q < n) : ∀ (j i : Nat) (B : Mem), i + j = 201 → Rep B (tks s n w i) n w → r = lk1 (fun i => tks s n w i (fb q 6)) j i → Jg X RX0 cX0_ticksUntilKnown 4 (some .int) "ticksUntilKnown" 4 0 0 (QF X ad (fun v m9 => v = some (.int (farA r)) ∧ ∃ B9, m9 = SB m b B9)) ad 0 0 14 [(0, .ref b), (1, .int (nI q)), (2, .ref (b + (3 + q))), (3, .int (nI i))] [] (WS X ad (SB m b B)) := by
  have hn8 := hV.1.1
  intro j
  induction j with
  | zero =>
    intro i B hi hR hr
    obtain rfl : i = 201 := by omega
    have hr : r = 201 := hr
    refine J_iload_n dX0_ticksUntilKnown_14 rfl rfl ?_
    refine J_sipush (v := 200) dX0_ticksUntilKnown_15 (by decide) ?_
    refine J_icmp_gt (tgt := 40) dX0_ticksUntilKnown_18 (by decide) (fun h18 => ?_) (fun h18 => absurd ((gt200 201 (by decide)).2 (by decide)) h18)
    refine J_bipush (v := -6) dX0_ticksUntilKnown_40 (by decide) ?_
    refine r_int dX0_ticksUntilKnown_42 ?_
    exact ⟨by rw [hr]; rfl, B, rfl⟩
  | succ j ih =>
    intro i B hi hR hr
    obtain ⟨r1, -⟩ := hR.1.2.2 q hq
    have hr2 : r = if tks s n w i (fb q 6) = 0 then lk1 (fun i => tks s n w i (fb q 6)) j (i + 1) else i := hr
    refine J_iload_n dX0_ticksUntilKnown_14 rfl rfl ?_
    refine J_sipush (v := 200) dX0_ticksUntilKnown_15 (by decide) ?_
    refine J_icmp_gt (tgt := 40) dX0_ticksUntilKnown_18 (by decide) (fun h18 => absurd ((gt200 i (by omega)).1 h18) (by omega)) (fun h18 => ?_)
    refine J_aload_n dX0_ticksUntilKnown_21 rfl rfl ?_
    refine gB_isKnown (by first | assumption | exact isB1 | exact isB18) (by first | assumption | omega) wf_X0_63 dX0_ticksUntilKnown_22 ?_
    refine J_topi (fun z9 hz9 => ?_)
    obtain rfl : z9 = (tks s n w i (fb q 6)) := hz9.trans (by exact r1 6 (by decide))
    clear hz9
    refine J_if_eq (tgt := 30) dX0_ticksUntilKnown_25 (by decide) (fun h25 => ?_) (fun h25 => ?_)
    · refine J_aload_n dX0_ticksUntilKnown_30 rfl rfl ?_
      refine cVg wv_X0_141 (c_X0_tick hb (Rv_tks hV i) hR) dX0_ticksUntilKnown_31 (ob0 (by first | assumption | exact isB1 | exact isB18)) rfl rfl (kk := (fun v m9 hf9 => ?_))
      obtain ⟨rfl, B9, rfl, hR9⟩ := hf9
      refine J_iinc (v := _ + 1) dX0_ticksUntilKnown_34 rfl rfl rfl rfl ?_
      rw [show nI i + 1 = nI (i + 1) from (nI_succ i).symm]
      refine J_goto (tgt := 14) dX0_ticksUntilKnown_37 (by decide) ?_
      rw [if_pos h25] at hr2
      exact ih (i + 1) B9 (by omega) hR9 hr2
    · refine J_iload_n dX0_ticksUntilKnown_28 rfl rfl ?_
      refine r_int dX0_ticksUntilKnown_29 ?_
      rw [if_neg h25] at hr2
      exact ⟨by rw [hr2, farA, if_pos (by omega)], B, rfl⟩

set_option maxRecDepth 100000 in
set_option maxHeartbeats 4000000 in
theorem c_X0_ticksUntilKnown {X : jX} {ad : Nat → Nat} {m B : Mem} {b : Nat} {s : Rw} {n w : Nat} {q : Nat} (hb : isB b) (hV : Rv s n w) (hRp : Rep B s n w) (hq : q < n) : Cm X yX0_ticksUntilKnown cX0_ticksUntilKnown 4 (some .int) 4 ad [.ref b, .int (nI q)] (SB m b B) (fun v m9 => v = some (.int (farA (lk1 (fun i => tks s n w i (fb q 6)) 201 0))) ∧ ∃ B9, m9 = SB m b B9) := by
  refine Cm.of (own := RX0) (nm := "ticksUntilKnown") (by decide +kernel) rfl rfl rfl rfl ?_
  have hn8 := hV.1.1
  refine J_aload_n dX0_ticksUntilKnown_0 rfl rfl ?_
  refine J_iload_n dX0_ticksUntilKnown_1 rfl rfl ?_
  refine cVr wv_X0_83 (c_boardAt hb hRp.1 hn8 (i := q) hq) dX0_ticksUntilKnown_2 (ob0 (by first | assumption | exact isB1 | exact isB18)) rfl rfl (kk := ?_)
  refine J_astore_n dX0_ticksUntilKnown_5 rfl rfl rfl ?_
  refine J_aload_n dX0_ticksUntilKnown_6 rfl rfl ?_
  refine J_ifnonnull (tgt := 12) dX0_ticksUntilKnown_7 (by decide) ?_
  refine J_iconst (v := 0) dX0_ticksUntilKnown_12 (by decide) ?_
  refine J_istore_n dX0_ticksUntilKnown_13 rfl rfl rfl ?_
  exact clsUntilKnown hb hV hq 201 0 B rfl hRp rfl

theorem op0 : ∀ x, x < 11 → (nI x = 0 ↔ nI x ≤ 0) := by decide
set_option maxRecDepth 100000 in
set_option maxHeartbeats 4000000 in
theorem clsUntilQuiet {X : jX} {ad : Nat → Nat} {m : Mem} {b : Nat} {s : Rw} {n w : Nat} {r : Nat} (hb : isB b) (hV : Rv s n w) : ∀ (j i : Nat) (B : Mem), i + j = 201 → Rep B (tks s n w i) n w → r = lk1 (fun i => if goN (tks s n w i) w ≤ 0 then 1 else 0) j i → Jg X RX0 cX0_ticksUntilQuiet 2 (some .int) "ticksUntilQuiet" 4 0 0 (QF X ad (fun v m9 => v = some (.int (farA r)) ∧ ∃ B9, m9 = SB m b B9)) ad 0 0 2 [(0, .ref b), (1, .int (nI i))] [] (WS X ad (SB m b B)) := by
  have hn8 := hV.1.1
  have hw := hV.1.2.2.1.1.1
  intro j
  induction j with
  | zero =>
    intro i B hi hR hr
    obtain rfl : i = 201 := by omega
    have hr : r = 201 := hr
    refine J_iload_n dX0_ticksUntilQuiet_2 rfl rfl ?_
    refine J_sipush (v := 200) dX0_ticksUntilQuiet_3 (by decide) ?_
    refine J_icmp_gt (tgt := 31) dX0_ticksUntilQuiet_6 (by decide) (fun h6 => ?_) (fun h6 => absurd ((gt200 201 (by decide)).2 (by decide)) h6)
    refine J_bipush (v := -6) dX0_ticksUntilQuiet_31 (by decide) ?_
    refine r_int dX0_ticksUntilQuiet_33 ?_
    exact ⟨by rw [hr]; rfl, B, rfl⟩
  | succ j ih =>
    intro i B hi hR hr
    have hVi := Rv_tks hV i
    have hSi := hVi.1.2.2.1
    have eg := goN_opA hSi.1 hSi.2.2 hVi.2.2.2
    have h10 := hVi.2.2.2.2.1
    have hr2 : r = if (if goN (tks s n w i) w ≤ 0 then (1 : Int32) else 0) = 0 then lk1 (fun i => if goN (tks s n w i) w ≤ 0 then 1 else 0) j (i + 1) else i := hr
    rw [eg] at hr2
    refine J_iload_n dX0_ticksUntilQuiet_2 rfl rfl ?_
    refine J_sipush (v := 200) dX0_ticksUntilQuiet_3 (by decide) ?_
    refine J_icmp_gt (tgt := 31) dX0_ticksUntilQuiet_6 (by decide) (fun h6 => absurd ((gt200 i (by omega)).1 h6) (by omega)) (fun h6 => ?_)
    refine J_aload_n dX0_ticksUntilQuiet_9 rfl rfl ?_
    refine gX0_bus (by first | assumption | exact isB1 | exact isB18) wf_X0_33 dX0_ticksUntilQuiet_10 ?_
    refine cVi wv_X0_144 (c_X2_openWords hb hR.2.1 hw hSi.2.2) dX0_ticksUntilQuiet_13 (ob2 (by first | assumption | exact isB1 | exact isB18)) rfl rfl (kk := ?_)
    refine J_if_ne (tgt := 21) dX0_ticksUntilQuiet_16 (by decide) (fun h16 => ?_) (fun h16 => ?_)
    · refine J_aload_n dX0_ticksUntilQuiet_21 rfl rfl ?_
      refine cVg wv_X0_141 (c_X0_tick hb (Rv_tks hV i) hR) dX0_ticksUntilQuiet_22 (ob0 (by first | assumption | exact isB1 | exact isB18)) rfl rfl (kk := (fun v m9 hf9 => ?_))
      obtain ⟨rfl, B9, rfl, hR9⟩ := hf9
      refine J_iinc (v := _ + 1) dX0_ticksUntilQuiet_25 rfl rfl rfl rfl ?_
      rw [show nI i + 1 = nI (i + 1) from (nI_succ i).symm]
      refine J_goto (tgt := 2) dX0_ticksUntilQuiet_28 (by decide) ?_
      rw [if_neg (show ¬ nI (opA (tks s n w i) w) ≤ 0 from fun g => h16 ((op0 _ (by omega)).2 g)), if_pos rfl] at hr2
      exact ih (i + 1) B9 (by omega) hR9 hr2
    · refine J_iload_n dX0_ticksUntilQuiet_19 rfl rfl ?_
      refine r_int dX0_ticksUntilQuiet_20 ?_
      rw [if_pos ((op0 _ (by omega)).1 h16), if_neg n10] at hr2
      exact ⟨by rw [hr2, farA, if_pos (by omega)], B, rfl⟩

set_option maxRecDepth 100000 in
set_option maxHeartbeats 4000000 in
theorem c_X0_ticksUntilQuiet {X : jX} {ad : Nat → Nat} {m B : Mem} {b : Nat} {s : Rw} {n w : Nat}  (hb : isB b) (hV : Rv s n w) (hRp : Rep B s n w) : Cm X yX0_ticksUntilQuiet cX0_ticksUntilQuiet 2 (some .int) 4 ad [.ref b] (SB m b B) (fun v m9 => v = some (.int (quA s n w)) ∧ ∃ B9, m9 = SB m b B9) := by
  refine Cm.of (own := RX0) (nm := "ticksUntilQuiet") (by decide +kernel) rfl rfl rfl rfl ?_
  refine J_iconst (v := 0) dX0_ticksUntilQuiet_0 (by decide) ?_
  refine J_istore_n dX0_ticksUntilQuiet_1 rfl rfl rfl ?_
  exact clsUntilQuiet hb hV 201 0 B rfl hRp rfl

set_option maxRecDepth 100000 in
set_option maxHeartbeats 4000000 in
theorem clsStands {X : jX} {ad : Nat → Nat} {m : Mem} {b : Nat} {s : Rw} {n w : Nat} {q r : Nat} {D : Int32} (hb : isB b) (hV : Rv s n w) (hq : q < n) : ∀ (j i : Nat) (B : Mem), i + j = 24 → Rep B (tks s n w i) n w → r = lk1 (fun i => if tks s n w i (fb q 4) = 0 then 1 else 0) j i → Jg X RX0 cX0_hurtsUntilStanding 5 (some .int) "hurtsUntilStanding" 4 0 0 (QF X ad (fun v m9 => v = some (.int (tks s n w r 299 - D)) ∧ ∃ B9, m9 = SB m b B9)) ad 0 0 23 [(0, .ref b), (1, .int (nI q)), (2, .ref (b + (3 + q))), (3, .int D), (4, .int (nI i))] [] (WS X ad (SB m b B)) := by
  have hn8 := hV.1.1
  intro j
  induction j with
  | zero =>
    intro i B hi hR hr
    obtain rfl : i = 24 := by omega
    have hr : r = 24 := hr
    refine J_iload dX0_hurtsUntilStanding_23 rfl ?_
    refine J_bipush (v := 24) dX0_hurtsUntilStanding_25 (by decide) ?_
    refine J_icmp_ge (tgt := 47) dX0_hurtsUntilStanding_27 (by decide) (fun h27 => ?_) (fun h27 => absurd (nI_le1 (a := 24) (b := 24) (Nat.le_refl _) (by decide)) h27)
    refine J_aload_n dX0_hurtsUntilStanding_47 rfl rfl ?_
    refine gX0_bus (by first | assumption | exact isB1 | exact isB18) wf_X0_33 dX0_hurtsUntilStanding_48 ?_
    refine gB_hurtSoFar (by first | assumption | exact isB1 | exact isB18) wf_X0_148 dX0_hurtsUntilStanding_51 ?_
    refine J_topi (fun z9 hz9 => ?_)
    obtain rfl : z9 = (tks s n w r 299) := hz9.trans (by rw [hr]; exact hR.2.1.2.2.2.2.2.2.2)
    clear hz9
    refine J_iload_n dX0_hurtsUntilStanding_54 rfl rfl ?_
    refine J_isub dX0_hurtsUntilStanding_55 ?_
    refine r_int dX0_hurtsUntilStanding_56 ?_
    exact ⟨rfl, B, rfl⟩
  | succ j ih =>
    intro i B hi hR hr
    obtain ⟨r1, -⟩ := hR.1.2.2 q hq
    have hr2 : r = if (if tks s n w i (fb q 4) = 0 then (1 : Int32) else 0) = 0 then lk1 (fun i => if tks s n w i (fb q 4) = 0 then 1 else 0) j (i + 1) else i := hr
    refine J_iload dX0_hurtsUntilStanding_23 rfl ?_
    refine J_bipush (v := 24) dX0_hurtsUntilStanding_25 (by decide) ?_
    refine J_icmp_ge (tgt := 47) dX0_hurtsUntilStanding_27 (by decide) (fun h27 => absurd h27 (nI_nle1 (a := i) (b := 24) (by omega) (by decide))) (fun h27 => ?_)
    refine J_aload_n dX0_hurtsUntilStanding_30 rfl rfl ?_
    refine gB_speed (by first | assumption | exact isB1 | exact isB18) (by first | assumption | omega) wf_X0_90 dX0_hurtsUntilStanding_31 ?_
    refine J_topi (fun z9 hz9 => ?_)
    obtain rfl : z9 = (tks s n w i (fb q 4)) := hz9.trans (by exact r1 4 (by decide))
    clear hz9
    refine J_if_eq (tgt := 47) dX0_hurtsUntilStanding_34 (by decide) (fun h34 => ?_) (fun h34 => ?_)
    · rw [if_pos h34, if_neg n10] at hr2
      refine J_aload_n dX0_hurtsUntilStanding_47 rfl rfl ?_
      refine gX0_bus (by first | assumption | exact isB1 | exact isB18) wf_X0_33 dX0_hurtsUntilStanding_48 ?_
      refine gB_hurtSoFar (by first | assumption | exact isB1 | exact isB18) wf_X0_148 dX0_hurtsUntilStanding_51 ?_
      refine J_topi (fun z9 hz9 => ?_)
      obtain rfl : z9 = (tks s n w r 299) := hz9.trans (by rw [hr2]; exact hR.2.1.2.2.2.2.2.2.2)
      clear hz9
      refine J_iload_n dX0_hurtsUntilStanding_54 rfl rfl ?_
      refine J_isub dX0_hurtsUntilStanding_55 ?_
      refine r_int dX0_hurtsUntilStanding_56 ?_
      exact ⟨rfl, B, rfl⟩
    · refine J_aload_n dX0_hurtsUntilStanding_37 rfl rfl ?_
      refine cVg wv_X0_141 (c_X0_tick hb (Rv_tks hV i) hR) dX0_hurtsUntilStanding_38 (ob0 (by first | assumption | exact isB1 | exact isB18)) rfl rfl (kk := (fun v m9 hf9 => ?_))
      obtain ⟨rfl, B9, rfl, hR9⟩ := hf9
      refine J_iinc (v := _ + 1) dX0_hurtsUntilStanding_41 rfl rfl rfl rfl ?_
      rw [show nI i + 1 = nI (i + 1) from (nI_succ i).symm]
      refine J_goto (tgt := 23) dX0_hurtsUntilStanding_44 (by decide) ?_
      rw [if_neg h34, if_pos rfl] at hr2
      exact ih (i + 1) B9 (by omega) hR9 hr2

set_option maxRecDepth 100000 in
set_option maxHeartbeats 4000000 in
theorem c_X0_hurtsUntilStanding {X : jX} {ad : Nat → Nat} {m B : Mem} {b : Nat} {s : Rw} {n w : Nat} {q : Nat} (hb : isB b) (hV : Rv s n w) (hRp : Rep B s n w) (hq : q < n) : Cm X yX0_hurtsUntilStanding cX0_hurtsUntilStanding 5 (some .int) 4 ad [.ref b, .int (nI q)] (SB m b B) (fun v m9 => v = some (.int (tks s n w (hbR s n w q) 299 - s 299)) ∧ ∃ B9, m9 = SB m b B9) := by
  refine Cm.of (own := RX0) (nm := "hurtsUntilStanding") (by decide +kernel) rfl rfl rfl rfl ?_
  have hn8 := hV.1.1
  refine J_aload_n dX0_hurtsUntilStanding_0 rfl rfl ?_
  refine J_iload_n dX0_hurtsUntilStanding_1 rfl rfl ?_
  refine cVr wv_X0_83 (c_boardAt hb hRp.1 hn8 (i := q) hq) dX0_hurtsUntilStanding_2 (ob0 (by first | assumption | exact isB1 | exact isB18)) rfl rfl (kk := ?_)
  refine J_astore_n dX0_hurtsUntilStanding_5 rfl rfl rfl ?_
  refine J_aload_n dX0_hurtsUntilStanding_6 rfl rfl ?_
  refine J_ifnonnull (tgt := 12) dX0_hurtsUntilStanding_7 (by decide) ?_
  refine J_aload_n dX0_hurtsUntilStanding_12 rfl rfl ?_
  refine gX0_bus (by first | assumption | exact isB1 | exact isB18) wf_X0_33 dX0_hurtsUntilStanding_13 ?_
  refine gB_hurtSoFar (by first | assumption | exact isB1 | exact isB18) wf_X0_148 dX0_hurtsUntilStanding_16 ?_
  refine J_topi (fun z9 hz9 => ?_)
  obtain rfl : z9 = (s 299) := hz9.trans (by exact hRp.2.1.2.2.2.2.2.2.2)
  clear hz9
  refine J_istore_n dX0_hurtsUntilStanding_19 rfl rfl rfl ?_
  refine J_iconst (v := 0) dX0_hurtsUntilStanding_20 (by decide) ?_
  refine J_istore dX0_hurtsUntilStanding_21 rfl rfl ?_
  exact clsStands hb hV hq 24 0 B rfl hRp rfl

theorem jo10 {y : Int32} (h : y.toInt < 0 ∨ 10 < y.toInt) : jin y 0 10 = 0 := by
  unfold jin
  split
  · rfl
  · next h1 =>
    split
    · rfl
    · next h2 =>
      exfalso
      have a1 := Int32.not_lt.mp h1
      have a2 := Int32.not_lt.mp h2
      rw [Int32.le_iff_toInt_le] at a1 a2
      have e0 : (0 : Int32).toInt = 0 := rfl
      have e1 : (10 : Int32).toInt = 10 := rfl
      omega
theorem of_k {s : Rw} {n q : Nat} (hx : ¬ jin (nI q) 0 (nI n - 1) = 0) (hq : q < 8) (k : Nat) (hk : k < 11) (h4 : k ≠ 4) : ofA s n (nI q) (nI k) = s (fb q k) := by
  unfold ofA
  rw [if_neg hx, if_neg ((show ∀ k, k < 11 → ¬ jin (nI k) 0 10 = 0 by decide) k hk), if_neg ((show ∀ k, k < 11 → k ≠ 4 → ¬ nI k = 4 by decide) k hk h4), show (nI q).toNatClampNeg = q from nI_cl (by omega), show (nI k).toNatClampNeg = k from nI_cl (by omega), Int32.add_zero]
theorem of_4 {s : Rw} {n q : Nat} (hx : ¬ jin (nI q) 0 (nI n - 1) = 0) (hq : q < 8) : ofA s n (nI q) (nI 4) = s (fb q 4) + 100 := by
  unfold ofA
  rw [if_neg hx, if_neg (by decide), if_pos (by decide), show (nI q).toNatClampNeg = q from nI_cl (by omega)]
  rfl
set_option maxRecDepth 100000 in
set_option maxHeartbeats 4000000 in
theorem c_ofN {X : jX} {ad : Nat → Nat} {m B : Mem} {b : Nat} {s : Rw} {n w : Nat} {x y : Int32} (hb : isB b) (hV : Rv s n w) (hRp : Rep B s n w) (hx : jin x 0 (nI n - 1) = 0) : Cd X yX0_aboutBoard cX0_aboutBoard 4 (some .int) 1 ad [.ref b, .int x, .int y] (SB m b B) (some (.int (ofA s n x y))) ((SB m b B)) := by
  refine Cm.of (own := RX0) (nm := "aboutBoard") (by decide +kernel) rfl rfl rfl rfl ?_
  have hn8 := hV.1.1
  refine J_aload_n dX0_aboutBoard_0 rfl rfl ?_
  refine J_iload_n dX0_aboutBoard_1 rfl rfl ?_
  refine cVn wv_X0_83 (c_boardAtN hb hRp.1 hn8 hx) dX0_aboutBoard_2 (ob0 (by first | assumption | exact isB1 | exact isB18)) rfl rfl (kk := ?_)
  refine J_astore_nN dX0_aboutBoard_5 rfl rfl rfl ?_
  refine J_aload_nN dX0_aboutBoard_6 rfl rfl ?_
  refine J_ifnonnullN dX0_aboutBoard_7 ?_
  refine J_iconst (v := -1) dX0_aboutBoard_10 (by decide) ?_
  refine r_int dX0_aboutBoard_11 ?_
  exact ⟨by unfold ofA; rw [if_pos hx], rfl⟩

set_option maxRecDepth 100000 in
set_option maxHeartbeats 4000000 in
theorem c_ofV {X : jX} {ad : Nat → Nat} {m B : Mem} {b : Nat} {s : Rw} {n w : Nat} {q : Nat} {y : Int32} (hb : isB b) (hV : Rv s n w) (hRp : Rep B s n w) (hq : q < n) : Cd X yX0_aboutBoard cX0_aboutBoard 4 (some .int) 1 ad [.ref b, .int (nI q), .int y] (SB m b B) (some (.int (ofA s n (nI q) y))) ((SB m b B)) := by
  refine Cm.of (own := RX0) (nm := "aboutBoard") (by decide +kernel) rfl rfl rfl rfl ?_
  have hn8 := hV.1.1
  have hx : ¬ jin (nI q) 0 (nI n - 1) = 0 := jin_no (by omega) (jin_ok hq (by omega)).1 (jin_ok hq (by omega)).2
  obtain ⟨r1, r2⟩ := hRp.1.2.2 q hq
  have q8 : q < 8 := by omega
  have hf := hV.2.1 q hq
  have hw := hV.1.2.2.1.1.1
  refine J_aload_n dX0_aboutBoard_0 rfl rfl ?_
  refine J_iload_n dX0_aboutBoard_1 rfl rfl ?_
  refine cVr wv_X0_83 (c_boardAt hb hRp.1 hn8 (i := q) hq) dX0_aboutBoard_2 (ob0 (by first | assumption | exact isB1 | exact isB18)) rfl rfl (kk := ?_)
  refine J_astore_n dX0_aboutBoard_5 rfl rfl rfl ?_
  refine J_aload_n dX0_aboutBoard_6 rfl rfl ?_
  refine J_ifnonnull (tgt := 12) dX0_aboutBoard_7 (by decide) ?_
  refine J_iload_n dX0_aboutBoard_12 rfl rfl ?_
  by_cases hts : y.toInt < 0 ∨ 10 < y.toInt
  · refine J_tableOut (tgt := 150) dX0_aboutBoard_13 hts (by decide) ?_
    refine J_bipush (v := -2) dX0_aboutBoard_150 (by decide) ?_
    refine r_int dX0_aboutBoard_152 ?_
    first | exact ⟨by unfold ofA; rw [if_neg hx, if_pos (jo10 hts)], rfl⟩
  · obtain ⟨k, hk, rfl⟩ := tin (n := 11) (m := 10) rfl hts
    match k, hk with
    | 0, _ =>
      refine J_tableIn (off := 59) (tgt := 72) dX0_aboutBoard_13 (by decide) (by decide) (by decide) (by decide) ?_
      refine J_aload_n dX0_aboutBoard_72 rfl rfl ?_
      refine gB_code (by first | assumption | exact isB1 | exact isB18) (by first | assumption | omega) wf_X0_67 dX0_aboutBoard_73 ?_
      refine J_topi (fun z9 hz9 => ?_)
      obtain rfl : z9 = (s (fb q 0)) := hz9.trans (by exact r1 0 (by decide))
      clear hz9
      refine r_int dX0_aboutBoard_76 ?_
      exact ⟨by rw [of_k hx q8 0 (by decide) (by decide)], rfl⟩
    | 1, _ =>
      refine J_tableIn (off := 64) (tgt := 77) dX0_aboutBoard_13 (by decide) (by decide) (by decide) (by decide) ?_
      refine J_aload_n dX0_aboutBoard_77 rfl rfl ?_
      refine gB_current (by first | assumption | exact isB1 | exact isB18) (by first | assumption | omega) wf_X0_70 dX0_aboutBoard_78 ?_
      refine J_topi (fun z9 hz9 => ?_)
      obtain rfl : z9 = (s (fb q 1)) := hz9.trans (by exact r1 1 (by decide))
      clear hz9
      refine r_int dX0_aboutBoard_81 ?_
      exact ⟨by rw [of_k hx q8 1 (by decide) (by decide)], rfl⟩
    | 2, _ =>
      refine J_tableIn (off := 69) (tgt := 82) dX0_aboutBoard_13 (by decide) (by decide) (by decide) (by decide) ?_
      refine J_aload_n dX0_aboutBoard_82 rfl rfl ?_
      refine gB_slot (by first | assumption | exact isB1 | exact isB18) (by first | assumption | omega) wf_X0_60 dX0_aboutBoard_83 ?_
      refine J_topi (fun z9 hz9 => ?_)
      obtain rfl : z9 = (s (fb q 2)) := hz9.trans (by exact r1 2 (by decide))
      clear hz9
      refine r_int dX0_aboutBoard_86 ?_
      exact ⟨by rw [of_k hx q8 2 (by decide) (by decide)], rfl⟩
    | 3, _ =>
      refine J_tableIn (off := 74) (tgt := 87) dX0_aboutBoard_13 (by decide) (by decide) (by decide) (by decide) ?_
      refine J_aload_n dX0_aboutBoard_87 rfl rfl ?_
      refine gB_depth (by first | assumption | exact isB1 | exact isB18) (by first | assumption | omega) wf_X0_87 dX0_aboutBoard_88 ?_
      refine J_topi (fun z9 hz9 => ?_)
      obtain rfl : z9 = (s (fb q 3)) := hz9.trans (by exact r1 3 (by decide))
      clear hz9
      refine r_int dX0_aboutBoard_91 ?_
      exact ⟨by rw [of_k hx q8 3 (by decide) (by decide)], rfl⟩
    | 4, _ =>
      refine J_tableIn (off := 79) (tgt := 92) dX0_aboutBoard_13 (by decide) (by decide) (by decide) (by decide) ?_
      refine J_aload_n dX0_aboutBoard_92 rfl rfl ?_
      refine gB_speed (by first | assumption | exact isB1 | exact isB18) (by first | assumption | omega) wf_X0_90 dX0_aboutBoard_93 ?_
      refine J_topi (fun z9 hz9 => ?_)
      obtain rfl : z9 = (s (fb q 4)) := hz9.trans (by exact r1 4 (by decide))
      clear hz9
      refine J_bipush (v := 100) dX0_aboutBoard_96 (by decide) ?_
      refine J_iadd dX0_aboutBoard_98 ?_
      refine r_int dX0_aboutBoard_99 ?_
      exact ⟨by rw [of_4 hx q8], rfl⟩
    | 5, _ =>
      refine J_tableIn (off := 87) (tgt := 100) dX0_aboutBoard_13 (by decide) (by decide) (by decide) (by decide) ?_
      refine J_aload_n dX0_aboutBoard_100 rfl rfl ?_
      refine gB_power (by first | assumption | exact isB1 | exact isB18) (by first | assumption | omega) wf_X0_73 dX0_aboutBoard_101 ?_
      refine J_topi (fun z9 hz9 => ?_)
      obtain rfl : z9 = (s (fb q 5)) := hz9.trans (by exact r1 5 (by decide))
      clear hz9
      refine r_int dX0_aboutBoard_104 ?_
      exact ⟨by rw [of_k hx q8 5 (by decide) (by decide)], rfl⟩
    | 6, _ =>
      refine J_tableIn (off := 92) (tgt := 105) dX0_aboutBoard_13 (by decide) (by decide) (by decide) (by decide) ?_
      refine J_aload_n dX0_aboutBoard_105 rfl rfl ?_
      refine gB_isKnown (by first | assumption | exact isB1 | exact isB18) (by first | assumption | omega) wf_X0_63 dX0_aboutBoard_106 ?_
      refine J_topi (fun z9 hz9 => ?_)
      obtain rfl : z9 = (s (fb q 6)) := hz9.trans (by exact r1 6 (by decide))
      clear hz9
      refine J_if_eq (tgt := 116) dX0_aboutBoard_109 (by decide) (fun h109 => ?_) (fun h109 => ?_)
      · refine J_iconst (v := 0) dX0_aboutBoard_116 (by decide) ?_
        refine r_int dX0_aboutBoard_117 ?_
        exact ⟨by rw [of_k hx q8 6 (by decide) (by decide)]; first | (rw [h109]; done) | (rw [hf.2.1.resolve_left h109]; done), rfl⟩
      · refine J_iconst (v := 1) dX0_aboutBoard_112 (by decide) ?_
        refine J_goto (tgt := 117) dX0_aboutBoard_113 (by decide) ?_
        refine r_int dX0_aboutBoard_117 ?_
        exact ⟨by rw [of_k hx q8 6 (by decide) (by decide)]; first | (rw [h109]; done) | (rw [hf.2.1.resolve_left h109]; done), rfl⟩
    | 7, _ =>
      refine J_tableIn (off := 105) (tgt := 118) dX0_aboutBoard_13 (by decide) (by decide) (by decide) (by decide) ?_
      refine J_aload_n dX0_aboutBoard_118 rfl rfl ?_
      refine gB_hasAsked (by first | assumption | exact isB1 | exact isB18) (by first | assumption | omega) wf_X0_93 dX0_aboutBoard_119 ?_
      refine J_topi (fun z9 hz9 => ?_)
      obtain rfl : z9 = (s (fb q 7)) := hz9.trans (by exact r1 7 (by decide))
      clear hz9
      refine J_if_eq (tgt := 129) dX0_aboutBoard_122 (by decide) (fun h122 => ?_) (fun h122 => ?_)
      · refine J_iconst (v := 0) dX0_aboutBoard_129 (by decide) ?_
        refine r_int dX0_aboutBoard_130 ?_
        exact ⟨by rw [of_k hx q8 7 (by decide) (by decide)]; first | (rw [h122]; done) | (rw [(hf.2.2.resolve_left h122).1]; done), rfl⟩
      · refine J_iconst (v := 1) dX0_aboutBoard_125 (by decide) ?_
        refine J_goto (tgt := 130) dX0_aboutBoard_126 (by decide) ?_
        refine r_int dX0_aboutBoard_130 ?_
        exact ⟨by rw [of_k hx q8 7 (by decide) (by decide)]; first | (rw [h122]; done) | (rw [(hf.2.2.resolve_left h122).1]; done), rfl⟩
    | 8, _ =>
      refine J_tableIn (off := 118) (tgt := 131) dX0_aboutBoard_13 (by decide) (by decide) (by decide) (by decide) ?_
      refine J_aload_n dX0_aboutBoard_131 rfl rfl ?_
      refine gB_greeted (by first | assumption | exact isB1 | exact isB18) (by first | assumption | omega) wf_X0_96 dX0_aboutBoard_132 ?_
      refine J_topi (fun z9 hz9 => ?_)
      obtain rfl : z9 = (s (fb q 8)) := hz9.trans (by exact r1 8 (by decide))
      clear hz9
      refine r_int dX0_aboutBoard_135 ?_
      exact ⟨by rw [of_k hx q8 8 (by decide) (by decide)], rfl⟩
    | 9, _ =>
      refine J_tableIn (off := 123) (tgt := 136) dX0_aboutBoard_13 (by decide) (by decide) (by decide) (by decide) ?_
      refine J_aload_n dX0_aboutBoard_136 rfl rfl ?_
      refine gX0_bus (by first | assumption | exact isB1 | exact isB18) wf_X0_33 dX0_aboutBoard_137 ?_
      refine J_iload_n dX0_aboutBoard_140 rfl rfl ?_
      refine cVi wv_X0_99 (c_X2_deliveredFrom hb hRp.2.1 hw q8) dX0_aboutBoard_141 (ob2 (by first | assumption | exact isB1 | exact isB18)) rfl rfl (kk := ?_)
      refine J_topi (fun z9 hz9 => ?_)
      obtain rfl : z9 = (s (fb q 9)) := hz9.trans (by exact (hV.2.2.2.2.2.2 q q8).symm)
      clear hz9
      refine r_int dX0_aboutBoard_144 ?_
      exact ⟨by rw [of_k hx q8 9 (by decide) (by decide)], rfl⟩
    | 10, _ =>
      refine J_tableIn (off := 132) (tgt := 145) dX0_aboutBoard_13 (by decide) (by decide) (by decide) (by decide) ?_
      refine J_aload_n dX0_aboutBoard_145 rfl rfl ?_
      refine gB_pulledTooSoon (by first | assumption | exact isB1 | exact isB18) (by first | assumption | omega) wf_X0_76 dX0_aboutBoard_146 ?_
      refine J_topi (fun z9 hz9 => ?_)
      obtain rfl : z9 = (s (fb q 10)) := hz9.trans (by exact r2)
      clear hz9
      refine r_int dX0_aboutBoard_149 ?_
      exact ⟨by rw [of_k hx q8 10 (by decide) (by decide)], rfl⟩
    | k + 11, hk => exact absurd hk (by omega)

theorem c_X0_aboutBoard {X : jX} {ad : Nat → Nat} {m B : Mem} {b : Nat} {s : Rw} {n w : Nat} {x y : Int32} (hb : isB b) (hV : Rv s n w) (hRp : Rep B s n w) : Cd X yX0_aboutBoard cX0_aboutBoard 4 (some .int) 1 ad [.ref b, .int x, .int y] (SB m b B) (some (.int (ofA s n x y))) (SB m b B) := by
  by_cases hx : jin x 0 (nI n - 1) = 0
  · exact c_ofN hb hV hRp hx
  · obtain ⟨q, hq, rfl⟩ := jinB hV.1.1 hx
    exact c_ofV hb hV hRp hq
