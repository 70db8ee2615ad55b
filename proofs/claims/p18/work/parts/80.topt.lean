set_option maxRecDepth 100000 in
set_option maxHeartbeats 4000000 in
theorem c_X5_quietIn {X : jX} {ad : Nat → Nat} {mem : Mem} {s : Rw} {o q L : Nat} {rows srows : Nat → Rw} {P : Nat → Int32}  (hC : CSt mem s o q rows srows P L) : Cm X yX5_quietIn cX5_quietIn 1 (some .int) 5 ad [.ref 0] mem (CQu mem (quA s (nOf s) (wOf s)) s o q rows srows P L) := by
  refine Cm.of (own := RX5) (nm := "quietIn") (by decide +kernel) rfl rfl rfl rfl ?_
  obtain ⟨hR, hV⟩ := Sh2_n hC.1
  have hn8 := hV.1.1
  refine J_aload_n dX5_quietIn_0 rfl rfl ?_
  refine gX5_trial wf_X5_16 dX5_quietIn_1 ?_
  refine J_aload_n dX5_quietIn_4 rfl rfl ?_
  refine gX5_backplane wf_X5_10 dX5_quietIn_5 ?_
  refine cVg wv_X5_165 (c_X0_copyFrom isB18 isB1 (by decide) hV hR) dX5_quietIn_8 (ob0 (by first | assumption | exact isB1 | exact isB18)) rfl rfl (kk := (fun v m1 hf => ?_))
  obtain ⟨rfl, hO, hR9⟩ := hf
  refine J_aload_n dX5_quietIn_11 rfl rfl ?_
  refine gX5_trial wf_X5_16 dX5_quietIn_12 ?_
  rw [ws_b (b := 18)]
  refine cVg wv_X5_177 (c_X0_ticksUntilQuiet isB18 hV hR9) dX5_quietIn_15 (ob0 (by first | assumption | exact isB1 | exact isB18)) rfl rfl (kk := (fun v m9 hf => ?_))
  obtain ⟨rfl, B9, rfl⟩ := hf
  refine r_int dX5_quietIn_18 ?_
  exact ⟨rfl, fun c hc => (Out_SB hO c (by omega)), CSt_tr hC (Out_SB hO)⟩

set_option maxRecDepth 100000 in
set_option maxHeartbeats 4000000 in
theorem c_kiN {X : jX} {ad : Nat → Nat} {mem : Mem} {s : Rw} {o q L : Nat} {rows srows : Nat → Rw} {P : Nat → Int32} {x : Int32} (hC : CSt mem s o q rows srows P L) (hx : jin x 0 (nI (nOf s) - 1) = 0) : Cm X yX5_knownIn cX5_knownIn 3 (some .int) 5 ad [.ref 0, .int x] mem (CQu mem (kiA s (nOf s) (wOf s) x) s o q rows srows P L) := by
  refine Cm.of (own := RX5) (nm := "knownIn") (by decide +kernel) rfl rfl rfl rfl ?_
  obtain ⟨hR, hV⟩ := Sh2_n hC.1
  have hn8 := hV.1.1
  refine J_aload_n dX5_knownIn_0 rfl rfl ?_
  refine gX5_backplane wf_X5_10 dX5_knownIn_1 ?_
  refine J_iload_n dX5_knownIn_4 rfl rfl ?_
  rw [ws_b (b := 1)]
  refine cVn wv_X5_156 (c_boardAtN isB1 hR.1 hn8 hx) dX5_knownIn_5 (ob0 (by first | assumption | exact isB1 | exact isB18)) rfl rfl (kk := ?_)
  refine J_astore_nN dX5_knownIn_8 rfl rfl rfl ?_
  refine J_aload_nN dX5_knownIn_9 rfl rfl ?_
  refine J_ifnonnullN dX5_knownIn_10 ?_
  refine J_iconst (v := -1) dX5_knownIn_13 (by decide) ?_
  refine r_int dX5_knownIn_14 ?_
  exact ⟨by unfold kiA; rw [if_pos hx], fun c hc => by rw [SB_self], by rw [SB_self]; exact hC⟩

set_option maxRecDepth 100000 in
set_option maxHeartbeats 4000000 in
theorem c_kiV {X : jX} {ad : Nat → Nat} {mem : Mem} {s : Rw} {o q L : Nat} {rows srows : Nat → Rw} {P : Nat → Int32} {p : Nat} (hC : CSt mem s o q rows srows P L) (hp : p < nOf s) : Cm X yX5_knownIn cX5_knownIn 3 (some .int) 5 ad [.ref 0, .int (nI p)] mem (CQu mem (kiA s (nOf s) (wOf s) (nI p)) s o q rows srows P L) := by
  refine Cm.of (own := RX5) (nm := "knownIn") (by decide +kernel) rfl rfl rfl rfl ?_
  obtain ⟨hR, hV⟩ := Sh2_n hC.1
  have hn8 := hV.1.1
  have hx : ¬ jin (nI p) 0 (nI (nOf s) - 1) = 0 := jin_no (by omega) (jin_ok hp (by omega)).1 (jin_ok hp (by omega)).2
  obtain ⟨r1, -⟩ := hR.1.2.2 p hp
  have ep : (nI p).toNatClampNeg = p := nI_cl (by omega)
  refine J_aload_n dX5_knownIn_0 rfl rfl ?_
  refine gX5_backplane wf_X5_10 dX5_knownIn_1 ?_
  refine J_iload_n dX5_knownIn_4 rfl rfl ?_
  rw [ws_b (b := 1)]
  refine cVr wv_X5_156 (c_boardAt isB1 hR.1 hn8 (i := p) hp) dX5_knownIn_5 (ob0 (by first | assumption | exact isB1 | exact isB18)) rfl rfl (kk := ?_)
  refine J_astore_n dX5_knownIn_8 rfl rfl rfl ?_
  refine J_aload_n dX5_knownIn_9 rfl rfl ?_
  refine J_ifnonnull (tgt := 15) dX5_knownIn_10 (by decide) ?_
  refine J_aload_n dX5_knownIn_15 rfl rfl ?_
  refine gB_slot (by first | assumption | exact isB1 | exact isB18) (by first | assumption | omega) wf_X5_160 dX5_knownIn_16 ?_
  refine J_topi (fun z9 hz9 => ?_)
  obtain rfl : z9 = (s (fb p 2)) := hz9.trans (by exact r1 2 (by decide))
  clear hz9
  refine J_bipush (v := -6) dX5_knownIn_19 (by decide) ?_
  refine J_icmp_ne (tgt := 27) dX5_knownIn_21 (by decide) (fun h21 => ?_) (fun h21 => ?_)
  · refine J_aload_n dX5_knownIn_27 rfl rfl ?_
    refine gX5_trial wf_X5_16 dX5_knownIn_28 ?_
    refine J_aload_n dX5_knownIn_31 rfl rfl ?_
    refine gX5_backplane wf_X5_10 dX5_knownIn_32 ?_
    rw [SB_self]
    refine cVg wv_X5_165 (c_X0_copyFrom isB18 isB1 (by decide) hV hR) dX5_knownIn_35 (ob0 (by first | assumption | exact isB1 | exact isB18)) rfl rfl (kk := (fun v m1 hf => ?_))
    obtain ⟨rfl, hO, hR9⟩ := hf
    refine J_aload_n dX5_knownIn_38 rfl rfl ?_
    refine gX5_trial wf_X5_16 dX5_knownIn_39 ?_
    refine J_iload_n dX5_knownIn_42 rfl rfl ?_
    rw [ws_b (b := 18)]
    refine cVg wv_X5_168 (c_X0_ticksUntilKnown isB18 hV hR9 hp) dX5_knownIn_43 (ob0 (by first | assumption | exact isB1 | exact isB18)) rfl rfl (kk := (fun v m9 hf => ?_))
    obtain ⟨rfl, B9, rfl⟩ := hf
    refine r_int dX5_knownIn_46 ?_
    exact ⟨by unfold kiA; rw [if_neg hx, ep, if_neg h21], fun c hc => (Out_SB hO c (by omega)), CSt_tr hC (Out_SB hO)⟩
  · refine J_bipush (v := -5) dX5_knownIn_24 (by decide) ?_
    refine r_int dX5_knownIn_26 ?_
    exact ⟨by unfold kiA; rw [if_neg hx, ep, if_pos h21], fun c hc => by rw [SB_self], by rw [SB_self]; exact hC⟩

theorem c_X5_knownIn {X : jX} {ad : Nat → Nat} {mem : Mem} {s : Rw} {o q L : Nat} {rows srows : Nat → Rw} {P : Nat → Int32} {x : Int32} (hC : CSt mem s o q rows srows P L) : Cm X yX5_knownIn cX5_knownIn 3 (some .int) 5 ad [.ref 0, .int x] mem (CQu mem (kiA s (nOf s) (wOf s) x) s o q rows srows P L) := by
  by_cases hx : jin x 0 (nI (nOf s) - 1) = 0
  · exact c_kiN hC hx
  · obtain ⟨p, hp, rfl⟩ := jinB (Sh2_n hC.1).2.1.1 hx
    exact c_kiV hC hp
/-- the words hurt by a plug, looked ahead -/
def hbX (s : Rw) (n w p : Nat) (z y : Int32) : Int32 := tks (plF s n (nI p) z y).2 n w (hbR (plF s n (nI p) z y).2 n w p) 299 - (plF s n (nI p) z y).2 299
theorem CQu_tr {m m9 : Mem} {a : Int32} {s : Rw} {o q L : Nat} {rows srows : Nat → Rw} {P : Nat → Int32} (hC : CSt m s o q rows srows P L) (hO : Out m m9 18) : CQu m a s o q rows srows P L (some (.int a)) m9 := ⟨rfl, fun c hc => hO c (by omega), CSt_tr hC hO⟩
set_option maxRecDepth 100000 in
set_option maxHeartbeats 4000000 in
theorem c_X5_hurtsByPlug {X : jX} {ad : Nat → Nat} {mem : Mem} {s : Rw} {o q L : Nat} {rows srows : Nat → Rw} {P : Nat → Int32} {p : Nat} {z y : Int32} (hC : CSt mem s o q rows srows P L) (hp : p < nOf s) : Cm X yX5_hurtsByPlug cX5_hurtsByPlug 4 (some .int) 5 ad [.ref 0, .int (nI p), .int z, .int y] mem (fun v m9 => v = some (.int (hbX s (nOf s) (wOf s) p z y)) ∧ Out mem m9 18) := by
  refine Cm.of (own := RX5) (nm := "hurtsByPlug") (by decide +kernel) rfl rfl rfl rfl ?_
  obtain ⟨hR, hV⟩ := Sh2_n hC.1
  have hn8 := hV.1.1
  refine J_aload_n dX5_hurtsByPlug_0 rfl rfl ?_
  refine gX5_trial wf_X5_16 dX5_hurtsByPlug_1 ?_
  refine J_aload_n dX5_hurtsByPlug_4 rfl rfl ?_
  refine gX5_backplane wf_X5_10 dX5_hurtsByPlug_5 ?_
  refine cVg wv_X5_165 (c_X0_copyFrom isB18 isB1 (by decide) hV hR) dX5_hurtsByPlug_8 (ob0 (by first | assumption | exact isB1 | exact isB18)) rfl rfl (kk := (fun v m1 hf => ?_))
  obtain ⟨rfl, hO, hR9⟩ := hf
  refine J_aload_n dX5_hurtsByPlug_11 rfl rfl ?_
  refine gX5_trial wf_X5_16 dX5_hurtsByPlug_12 ?_
  refine J_iload_n dX5_hurtsByPlug_15 rfl rfl ?_
  refine J_iload_n dX5_hurtsByPlug_16 rfl rfl ?_
  refine J_iload_n dX5_hurtsByPlug_17 rfl rfl ?_
  rw [ws_b (b := 18)]
  refine cVg wv_X5_56 (c_X0_moveInward isB18 hV hR9) dX5_hurtsByPlug_18 (ob0 (by first | assumption | exact isB1 | exact isB18)) rfl rfl (kk := (fun v m9 hf => ?_))
  obtain ⟨rfl, B9, rfl, hR8⟩ := hf
  refine J_pop dX5_hurtsByPlug_21 rfl ?_
  refine J_aload_n dX5_hurtsByPlug_22 rfl rfl ?_
  refine gX5_trial wf_X5_16 dX5_hurtsByPlug_23 ?_
  refine J_iload_n dX5_hurtsByPlug_26 rfl rfl ?_
  refine cVg wv_X5_209 (c_X0_hurtsUntilStanding isB18 (Rv_pl (x := nI p) (z := z) (y := y) hV) hR8 hp) dX5_hurtsByPlug_27 (ob0 (by first | assumption | exact isB1 | exact isB18)) rfl rfl (kk := (fun v m9 hf => ?_))
  obtain ⟨rfl, B8, rfl⟩ := hf
  refine r_int dX5_hurtsByPlug_30 ?_
  exact ⟨rfl, Out_SB hO⟩

section HBA
variable {s : Rw} {n w p : Nat} {x z y : Int32}
theorem hb_1 (h : ieA s n x z y < 0) : hbA s n w x z y = ieA s n x z y := by
  unfold ieA at h ⊢
  unfold hbA
  split at h
  · next g => rw [if_pos g, if_pos g]
  · exact absurd h (by decide)
theorem hb_2 (hp : p < 8) (h : ¬ ieA s n (nI p) z y < 0) : hbA s n w (nI p) z y = hbX s n w p z y := by
  have g : ¬ (plF s n (nI p) z y).1 < 0 := by
    intro g
    unfold ieA at h
    rw [if_pos g] at h
    exact h g
  unfold hbA hbX
  rw [if_neg g, show (nI p).toNatClampNeg = p from nI_cl (by omega)]
end HBA
set_option maxRecDepth 100000 in
set_option maxHeartbeats 4000000 in
theorem c_whuN {X : jX} {ad : Nat → Nat} {mem : Mem} {s : Rw} {o q L : Nat} {rows srows : Nat → Rw} {P : Nat → Int32} {x z y : Int32} (hC : CSt mem s o q rows srows P L) (hx : jin x 0 (nI (nOf s) - 1) = 0) : Cm X yX5_wouldHurt cX5_wouldHurt 5 (some .int) 6 ad [.ref 0, .int x, .int z, .int y] mem (CQu mem (hbA s (nOf s) (wOf s) x z y) s o q rows srows P L) := by
  refine Cm.of (own := RX5) (nm := "wouldHurt") (by decide +kernel) rfl rfl rfl rfl ?_
  obtain ⟨hR, hV⟩ := Sh2_n hC.1
  have hn8 := hV.1.1
  have hl : ieA s (nOf s) x z y < 0 := by rw [ie_err (pl_1 hx) (by decide)]; decide
  refine J_aload_n dX5_wouldHurt_0 rfl rfl ?_
  refine gX5_backplane wf_X5_10 dX5_wouldHurt_1 ?_
  refine J_iload_n dX5_wouldHurt_4 rfl rfl ?_
  refine J_iload_n dX5_wouldHurt_5 rfl rfl ?_
  refine J_iload_n dX5_wouldHurt_6 rfl rfl ?_
  rw [ws_b (b := 1)]
  refine cVi wv_X5_171 (c_ieN isB1 hV hR hx) dX5_wouldHurt_7 (ob0 (by first | assumption | exact isB1 | exact isB18)) rfl rfl (kk := ?_)
  refine J_istore dX5_wouldHurt_10 rfl rfl ?_
  refine J_iload dX5_wouldHurt_12 rfl ?_
  refine J_if_ge (tgt := 22) dX5_wouldHurt_14 (by decide) (fun h14 => absurd h14 (Int32.not_le.mpr hl)) (fun h14 => ?_)
  refine J_iload dX5_wouldHurt_17 rfl ?_
  refine J_goto (tgt := 29) dX5_wouldHurt_19 (by decide) ?_
  refine r_int dX5_wouldHurt_29 ?_
  exact ⟨by rw [hb_1 hl], fun c hc => by rw [SB_self], by rw [SB_self]; exact hC⟩

set_option maxRecDepth 100000 in
set_option maxHeartbeats 4000000 in
theorem c_whuV {X : jX} {ad : Nat → Nat} {mem : Mem} {s : Rw} {o q L : Nat} {rows srows : Nat → Rw} {P : Nat → Int32} {p : Nat} {z y : Int32} (hC : CSt mem s o q rows srows P L) (hp : p < nOf s) : Cm X yX5_wouldHurt cX5_wouldHurt 5 (some .int) 6 ad [.ref 0, .int (nI p), .int z, .int y] mem (CQu mem (hbA s (nOf s) (wOf s) (nI p) z y) s o q rows srows P L) := by
  refine Cm.of (own := RX5) (nm := "wouldHurt") (by decide +kernel) rfl rfl rfl rfl ?_
  obtain ⟨hR, hV⟩ := Sh2_n hC.1
  have hn8 := hV.1.1
  refine J_aload_n dX5_wouldHurt_0 rfl rfl ?_
  refine gX5_backplane wf_X5_10 dX5_wouldHurt_1 ?_
  refine J_iload_n dX5_wouldHurt_4 rfl rfl ?_
  refine J_iload_n dX5_wouldHurt_5 rfl rfl ?_
  refine J_iload_n dX5_wouldHurt_6 rfl rfl ?_
  rw [ws_b (b := 1)]
  refine cVi wv_X5_171 (c_ieV isB1 hV hR hp) dX5_wouldHurt_7 (ob0 (by first | assumption | exact isB1 | exact isB18)) rfl rfl (kk := ?_)
  refine J_istore dX5_wouldHurt_10 rfl rfl ?_
  refine J_iload dX5_wouldHurt_12 rfl ?_
  refine J_if_ge (tgt := 22) dX5_wouldHurt_14 (by decide) (fun h14 => ?_) (fun h14 => ?_)
  · rw [SB_self]
    refine J_aload_n dX5_wouldHurt_22 rfl rfl ?_
    refine J_iload_n dX5_wouldHurt_23 rfl rfl ?_
    refine J_iload_n dX5_wouldHurt_24 rfl rfl ?_
    refine J_iload_n dX5_wouldHurt_25 rfl rfl ?_
    refine cVg wv_X5_174 (c_X5_hurtsByPlug hC hp) dX5_wouldHurt_26 ob5 rfl rfl (kk := (fun v m9 hf => ?_))
    obtain ⟨rfl, hO⟩ := hf
    refine r_int dX5_wouldHurt_29 ?_
    first | exact ⟨by rw [hb_1 (Int32.not_le.mp h14)], fun c hc => by rw [SB_self], by rw [SB_self]; exact hC⟩ | (rw [← hb_2 (w := wOf s) (by omega) (Int32.not_lt.mpr h14)]; exact CQu_tr hC hO)
  · refine J_iload dX5_wouldHurt_17 rfl ?_
    refine J_goto (tgt := 29) dX5_wouldHurt_19 (by decide) ?_
    refine r_int dX5_wouldHurt_29 ?_
    first | exact ⟨by rw [hb_1 (Int32.not_le.mp h14)], fun c hc => by rw [SB_self], by rw [SB_self]; exact hC⟩ | (rw [← hb_2 (w := wOf s) (by omega) (Int32.not_lt.mpr h14)]; exact CQu_tr hC hO)

theorem c_X5_wouldHurt {X : jX} {ad : Nat → Nat} {mem : Mem} {s : Rw} {o q L : Nat} {rows srows : Nat → Rw} {P : Nat → Int32} {x z y : Int32} (hC : CSt mem s o q rows srows P L) : Cm X yX5_wouldHurt cX5_wouldHurt 5 (some .int) 6 ad [.ref 0, .int x, .int z, .int y] mem (CQu mem (hbA s (nOf s) (wOf s) x z y) s o q rows srows P L) := by
  by_cases hx : jin x 0 (nI (nOf s) - 1) = 0
  · exact c_whuN hC hx
  · obtain ⟨p, hp, rfl⟩ := jinB (Sh2_n hC.1).2.1.1 hx
    exact c_whuV hC hp
/-- the greatest speed that hurts nothing, by the class -/
def ssC (s : Rw) (n w : Nat) (x z : Int32) : Int32 := if ieA s n x z 24 < 0 then ieA s n x z 24 else ssF s n w x z 24
set_option maxRecDepth 100000 in
set_option maxHeartbeats 4000000 in
theorem c_ssN {X : jX} {ad : Nat → Nat} {mem : Mem} {s : Rw} {o q L : Nat} {rows srows : Nat → Rw} {P : Nat → Int32} {x z : Int32} (hC : CSt mem s o q rows srows P L) (hx : jin x 0 (nI (nOf s) - 1) = 0) : Cm X yX5_safeSpeed cX5_safeSpeed 5 (some .int) 6 ad [.ref 0, .int x, .int z] mem (CQu mem (ssC s (nOf s) (wOf s) x z) s o q rows srows P L) := by
  refine Cm.of (own := RX5) (nm := "safeSpeed") (by decide +kernel) rfl rfl rfl rfl ?_
  obtain ⟨hR, hV⟩ := Sh2_n hC.1
  have hn8 := hV.1.1
  have hl : ieA s (nOf s) x z 24 < 0 := by rw [ie_err (pl_1 hx) (by decide)]; decide
  refine J_aload_n dX5_safeSpeed_0 rfl rfl ?_
  refine gX5_backplane wf_X5_10 dX5_safeSpeed_1 ?_
  refine J_iload_n dX5_safeSpeed_4 rfl rfl ?_
  refine J_iload_n dX5_safeSpeed_5 rfl rfl ?_
  refine J_bipush (v := 24) dX5_safeSpeed_6 (by decide) ?_
  rw [ws_b (b := 1)]
  refine cVi wv_X5_171 (c_ieN isB1 hV hR hx) dX5_safeSpeed_8 (ob0 (by first | assumption | exact isB1 | exact isB18)) rfl rfl (kk := ?_)
  refine J_istore_n dX5_safeSpeed_11 rfl rfl rfl ?_
  refine J_iload_n dX5_safeSpeed_12 rfl rfl ?_
  refine J_if_ge (tgt := 18) dX5_safeSpeed_13 (by decide) (fun h13 => absurd h13 (Int32.not_le.mpr hl)) (fun h13 => ?_)
  refine J_iload_n dX5_safeSpeed_16 rfl rfl ?_
  refine r_int dX5_safeSpeed_17 ?_
  exact ⟨by unfold ssC; rw [if_pos hl], fun c hc => by rw [SB_self], by rw [SB_self]; exact hC⟩

