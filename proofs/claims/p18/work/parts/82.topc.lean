/-- an order carried out by the class -/
def CoR (m : Mem) (r : Int32 × Rw) (v : Option Value) (m9 : Mem) : Prop := v = some (.int r.1) ∧ ∃ B9 n9 w9, m9 = SB m 1 B9 ∧ Rep B9 r.2 n9 w9 ∧ Rv r.2 n9 w9
set_option maxRecDepth 100000 in
set_option maxHeartbeats 4000000 in
theorem coo_b {X : jX} {ad : Nat → Nat} {mem : Mem} {s : Rw}  (hS : Sh2 mem 1 s) (hk : mem 190 3 = 98) : Cm X yX5_carryOutOrder cX5_carryOutOrder 4 (some .int) 5 ad [.ref 0] mem (CoR mem (coF s (nOf s) (mem 192 0) (mem 192 1))) := by
  refine Cm.of (own := RX5) (nm := "carryOutOrder") (by decide +kernel) rfl rfl rfl rfl ?_
  obtain ⟨hR, hV⟩ := Sh2_n hS
  refine J_aload_n dX5_carryOutOrder_0 rfl rfl ?_
  refine gX5_pad wf_X5_29 dX5_carryOutOrder_1 ?_
  refine gX4_values wf_X5_212 dX5_carryOutOrder_4 ?_
  refine J_iconst (v := 0) dX5_carryOutOrder_7 (by decide) ?_
  refine al_vals dX5_carryOutOrder_8 (nIin (k := 0) (by decide) (by decide)) ?_
  refine J_topi (fun z9 hz9 => ?_)
  obtain rfl : z9 = (mem 192 0) := hz9.trans (by rfl)
  clear hz9
  refine J_istore_n dX5_carryOutOrder_9 rfl rfl rfl ?_
  refine J_aload_n dX5_carryOutOrder_10 rfl rfl ?_
  refine gX5_pad wf_X5_29 dX5_carryOutOrder_11 ?_
  refine gX4_values wf_X5_212 dX5_carryOutOrder_14 ?_
  refine J_iconst (v := 1) dX5_carryOutOrder_17 (by decide) ?_
  refine al_vals dX5_carryOutOrder_18 (nIin (k := 1) (by decide) (by decide)) ?_
  refine J_topi (fun z9 hz9 => ?_)
  obtain rfl : z9 = (mem 192 1) := hz9.trans (by rfl)
  clear hz9
  refine J_istore_n dX5_carryOutOrder_19 rfl rfl rfl ?_
  refine J_aload_n dX5_carryOutOrder_20 rfl rfl ?_
  refine gX5_pad wf_X5_29 dX5_carryOutOrder_21 ?_
  refine gX4_values wf_X5_212 dX5_carryOutOrder_24 ?_
  refine J_iconst (v := 2) dX5_carryOutOrder_27 (by decide) ?_
  refine al_vals dX5_carryOutOrder_28 (nIin (k := 2) (by decide) (by decide)) ?_
  refine J_topi (fun z9 hz9 => ?_)
  obtain rfl : z9 = (mem 192 2) := hz9.trans (by rfl)
  clear hz9
  refine J_istore_n dX5_carryOutOrder_29 rfl rfl rfl ?_
  refine J_aload_n dX5_carryOutOrder_30 rfl rfl ?_
  refine gX5_pad wf_X5_29 dX5_carryOutOrder_31 ?_
  refine gX4_kind wf_X5_215 dX5_carryOutOrder_34 ?_
  refine J_topi (fun z9 hz9 => ?_)
  obtain rfl : z9 = 98 := hz9.trans (by exact hk)
  clear hz9
  refine J_lookup (tgt := 96) dX5_carryOutOrder_37 (by decide) rfl (by decide) ?_
  refine J_aload_n dX5_carryOutOrder_96 rfl rfl ?_
  refine gX5_backplane wf_X5_10 dX5_carryOutOrder_97 ?_
  refine J_iload_n dX5_carryOutOrder_100 rfl rfl ?_
  refine J_iload_n dX5_carryOutOrder_101 rfl rfl ?_
  rw [ws_b (b := 1)]
  refine cVg wv_X5_53 (c_X0_addBoard isB1 hV hR) dX5_carryOutOrder_102 (ob0 (by first | assumption | exact isB1 | exact isB18)) rfl rfl (kk := (fun v m9 hf => ?_))
  obtain ⟨rfl, B9, n9, rfl, hR9, hV9⟩ := hf
  refine r_int dX5_carryOutOrder_105 ?_
  exact ⟨rfl, B9, _, _, rfl, hR9, hV9⟩

set_option maxRecDepth 100000 in
set_option maxHeartbeats 4000000 in
theorem coo_i {X : jX} {ad : Nat → Nat} {mem : Mem} {s : Rw}  (hS : Sh2 mem 1 s) (hk : mem 190 3 = 105) : Cm X yX5_carryOutOrder cX5_carryOutOrder 4 (some .int) 5 ad [.ref 0] mem (CoR mem (plF s (nOf s) (mem 192 0) (mem 192 1) (mem 192 2))) := by
  refine Cm.of (own := RX5) (nm := "carryOutOrder") (by decide +kernel) rfl rfl rfl rfl ?_
  obtain ⟨hR, hV⟩ := Sh2_n hS
  refine J_aload_n dX5_carryOutOrder_0 rfl rfl ?_
  refine gX5_pad wf_X5_29 dX5_carryOutOrder_1 ?_
  refine gX4_values wf_X5_212 dX5_carryOutOrder_4 ?_
  refine J_iconst (v := 0) dX5_carryOutOrder_7 (by decide) ?_
  refine al_vals dX5_carryOutOrder_8 (nIin (k := 0) (by decide) (by decide)) ?_
  refine J_topi (fun z9 hz9 => ?_)
  obtain rfl : z9 = (mem 192 0) := hz9.trans (by rfl)
  clear hz9
  refine J_istore_n dX5_carryOutOrder_9 rfl rfl rfl ?_
  refine J_aload_n dX5_carryOutOrder_10 rfl rfl ?_
  refine gX5_pad wf_X5_29 dX5_carryOutOrder_11 ?_
  refine gX4_values wf_X5_212 dX5_carryOutOrder_14 ?_
  refine J_iconst (v := 1) dX5_carryOutOrder_17 (by decide) ?_
  refine al_vals dX5_carryOutOrder_18 (nIin (k := 1) (by decide) (by decide)) ?_
  refine J_topi (fun z9 hz9 => ?_)
  obtain rfl : z9 = (mem 192 1) := hz9.trans (by rfl)
  clear hz9
  refine J_istore_n dX5_carryOutOrder_19 rfl rfl rfl ?_
  refine J_aload_n dX5_carryOutOrder_20 rfl rfl ?_
  refine gX5_pad wf_X5_29 dX5_carryOutOrder_21 ?_
  refine gX4_values wf_X5_212 dX5_carryOutOrder_24 ?_
  refine J_iconst (v := 2) dX5_carryOutOrder_27 (by decide) ?_
  refine al_vals dX5_carryOutOrder_28 (nIin (k := 2) (by decide) (by decide)) ?_
  refine J_topi (fun z9 hz9 => ?_)
  obtain rfl : z9 = (mem 192 2) := hz9.trans (by rfl)
  clear hz9
  refine J_istore_n dX5_carryOutOrder_29 rfl rfl rfl ?_
  refine J_aload_n dX5_carryOutOrder_30 rfl rfl ?_
  refine gX5_pad wf_X5_29 dX5_carryOutOrder_31 ?_
  refine gX4_kind wf_X5_215 dX5_carryOutOrder_34 ?_
  refine J_topi (fun z9 hz9 => ?_)
  obtain rfl : z9 = 105 := hz9.trans (by exact hk)
  clear hz9
  refine J_lookup (tgt := 106) dX5_carryOutOrder_37 (by decide) rfl (by decide) ?_
  refine J_aload_n dX5_carryOutOrder_106 rfl rfl ?_
  refine gX5_backplane wf_X5_10 dX5_carryOutOrder_107 ?_
  refine J_iload_n dX5_carryOutOrder_110 rfl rfl ?_
  refine J_iload_n dX5_carryOutOrder_111 rfl rfl ?_
  refine J_iload_n dX5_carryOutOrder_112 rfl rfl ?_
  rw [ws_b (b := 1)]
  refine cVg wv_X5_56 (c_X0_moveInward isB1 hV hR) dX5_carryOutOrder_113 (ob0 (by first | assumption | exact isB1 | exact isB18)) rfl rfl (kk := (fun v m9 hf => ?_))
  obtain ⟨rfl, B9, rfl, hR9⟩ := hf
  have hV9 := Rv_pl (x := (mem 192 0)) (z := (mem 192 1)) (y := (mem 192 2)) hV
  refine r_int dX5_carryOutOrder_116 ?_
  exact ⟨rfl, B9, _, _, rfl, hR9, hV9⟩

set_option maxRecDepth 100000 in
set_option maxHeartbeats 4000000 in
theorem coo_o {X : jX} {ad : Nat → Nat} {mem : Mem} {s : Rw}  (hS : Sh2 mem 1 s) (hk : mem 190 3 = 111) : Cm X yX5_carryOutOrder cX5_carryOutOrder 4 (some .int) 5 ad [.ref 0] mem (CoR mem (puF s (nOf s) (mem 192 0) (mem 192 1))) := by
  refine Cm.of (own := RX5) (nm := "carryOutOrder") (by decide +kernel) rfl rfl rfl rfl ?_
  obtain ⟨hR, hV⟩ := Sh2_n hS
  refine J_aload_n dX5_carryOutOrder_0 rfl rfl ?_
  refine gX5_pad wf_X5_29 dX5_carryOutOrder_1 ?_
  refine gX4_values wf_X5_212 dX5_carryOutOrder_4 ?_
  refine J_iconst (v := 0) dX5_carryOutOrder_7 (by decide) ?_
  refine al_vals dX5_carryOutOrder_8 (nIin (k := 0) (by decide) (by decide)) ?_
  refine J_topi (fun z9 hz9 => ?_)
  obtain rfl : z9 = (mem 192 0) := hz9.trans (by rfl)
  clear hz9
  refine J_istore_n dX5_carryOutOrder_9 rfl rfl rfl ?_
  refine J_aload_n dX5_carryOutOrder_10 rfl rfl ?_
  refine gX5_pad wf_X5_29 dX5_carryOutOrder_11 ?_
  refine gX4_values wf_X5_212 dX5_carryOutOrder_14 ?_
  refine J_iconst (v := 1) dX5_carryOutOrder_17 (by decide) ?_
  refine al_vals dX5_carryOutOrder_18 (nIin (k := 1) (by decide) (by decide)) ?_
  refine J_topi (fun z9 hz9 => ?_)
  obtain rfl : z9 = (mem 192 1) := hz9.trans (by rfl)
  clear hz9
  refine J_istore_n dX5_carryOutOrder_19 rfl rfl rfl ?_
  refine J_aload_n dX5_carryOutOrder_20 rfl rfl ?_
  refine gX5_pad wf_X5_29 dX5_carryOutOrder_21 ?_
  refine gX4_values wf_X5_212 dX5_carryOutOrder_24 ?_
  refine J_iconst (v := 2) dX5_carryOutOrder_27 (by decide) ?_
  refine al_vals dX5_carryOutOrder_28 (nIin (k := 2) (by decide) (by decide)) ?_
  refine J_topi (fun z9 hz9 => ?_)
  obtain rfl : z9 = (mem 192 2) := hz9.trans (by rfl)
  clear hz9
  refine J_istore_n dX5_carryOutOrder_29 rfl rfl rfl ?_
  refine J_aload_n dX5_carryOutOrder_30 rfl rfl ?_
  refine gX5_pad wf_X5_29 dX5_carryOutOrder_31 ?_
  refine gX4_kind wf_X5_215 dX5_carryOutOrder_34 ?_
  refine J_topi (fun z9 hz9 => ?_)
  obtain rfl : z9 = 111 := hz9.trans (by exact hk)
  clear hz9
  refine J_lookup (tgt := 117) dX5_carryOutOrder_37 (by decide) rfl (by decide) ?_
  refine J_aload_n dX5_carryOutOrder_117 rfl rfl ?_
  refine gX5_backplane wf_X5_10 dX5_carryOutOrder_118 ?_
  refine J_iload_n dX5_carryOutOrder_121 rfl rfl ?_
  refine J_iload_n dX5_carryOutOrder_122 rfl rfl ?_
  rw [ws_b (b := 1)]
  refine cVg wv_X5_60 (c_X0_moveOutward isB1 hV hR) dX5_carryOutOrder_123 (ob0 (by first | assumption | exact isB1 | exact isB18)) rfl rfl (kk := (fun v m9 hf => ?_))
  obtain ⟨rfl, B9, rfl, hR9⟩ := hf
  have hV9 := Rv_pu (x := (mem 192 0)) (y := (mem 192 1)) hV
  refine r_int dX5_carryOutOrder_126 ?_
  exact ⟨rfl, B9, _, _, rfl, hR9, hV9⟩

set_option maxRecDepth 100000 in
set_option maxHeartbeats 4000000 in
theorem coo_a {X : jX} {ad : Nat → Nat} {mem : Mem} {s : Rw}  (hS : Sh2 mem 1 s) (hk : mem 190 3 = 97) : Cm X yX5_carryOutOrder cX5_carryOutOrder 4 (some .int) 5 ad [.ref 0] mem (CoR mem (asF s (nOf s) (wOf s) (mem 192 0))) := by
  refine Cm.of (own := RX5) (nm := "carryOutOrder") (by decide +kernel) rfl rfl rfl rfl ?_
  obtain ⟨hR, hV⟩ := Sh2_n hS
  refine J_aload_n dX5_carryOutOrder_0 rfl rfl ?_
  refine gX5_pad wf_X5_29 dX5_carryOutOrder_1 ?_
  refine gX4_values wf_X5_212 dX5_carryOutOrder_4 ?_
  refine J_iconst (v := 0) dX5_carryOutOrder_7 (by decide) ?_
  refine al_vals dX5_carryOutOrder_8 (nIin (k := 0) (by decide) (by decide)) ?_
  refine J_topi (fun z9 hz9 => ?_)
  obtain rfl : z9 = (mem 192 0) := hz9.trans (by rfl)
  clear hz9
  refine J_istore_n dX5_carryOutOrder_9 rfl rfl rfl ?_
  refine J_aload_n dX5_carryOutOrder_10 rfl rfl ?_
  refine gX5_pad wf_X5_29 dX5_carryOutOrder_11 ?_
  refine gX4_values wf_X5_212 dX5_carryOutOrder_14 ?_
  refine J_iconst (v := 1) dX5_carryOutOrder_17 (by decide) ?_
  refine al_vals dX5_carryOutOrder_18 (nIin (k := 1) (by decide) (by decide)) ?_
  refine J_topi (fun z9 hz9 => ?_)
  obtain rfl : z9 = (mem 192 1) := hz9.trans (by rfl)
  clear hz9
  refine J_istore_n dX5_carryOutOrder_19 rfl rfl rfl ?_
  refine J_aload_n dX5_carryOutOrder_20 rfl rfl ?_
  refine gX5_pad wf_X5_29 dX5_carryOutOrder_21 ?_
  refine gX4_values wf_X5_212 dX5_carryOutOrder_24 ?_
  refine J_iconst (v := 2) dX5_carryOutOrder_27 (by decide) ?_
  refine al_vals dX5_carryOutOrder_28 (nIin (k := 2) (by decide) (by decide)) ?_
  refine J_topi (fun z9 hz9 => ?_)
  obtain rfl : z9 = (mem 192 2) := hz9.trans (by rfl)
  clear hz9
  refine J_istore_n dX5_carryOutOrder_29 rfl rfl rfl ?_
  refine J_aload_n dX5_carryOutOrder_30 rfl rfl ?_
  refine gX5_pad wf_X5_29 dX5_carryOutOrder_31 ?_
  refine gX4_kind wf_X5_215 dX5_carryOutOrder_34 ?_
  refine J_topi (fun z9 hz9 => ?_)
  obtain rfl : z9 = 97 := hz9.trans (by exact hk)
  clear hz9
  refine J_lookup (tgt := 127) dX5_carryOutOrder_37 (by decide) rfl (by decide) ?_
  refine J_aload_n dX5_carryOutOrder_127 rfl rfl ?_
  refine gX5_backplane wf_X5_10 dX5_carryOutOrder_128 ?_
  refine J_iload_n dX5_carryOutOrder_131 rfl rfl ?_
  rw [ws_b (b := 1)]
  refine cVg wv_X5_63 (c_X0_askToLeave isB1 hV hR) dX5_carryOutOrder_132 (ob0 (by first | assumption | exact isB1 | exact isB18)) rfl rfl (kk := (fun v m9 hf => ?_))
  obtain ⟨rfl, B9, rfl, hR9⟩ := hf
  have hV9 := Rv_as (x := (mem 192 0)) hV
  refine r_int dX5_carryOutOrder_135 ?_
  exact ⟨rfl, B9, _, _, rfl, hR9, hV9⟩

set_option maxRecDepth 100000 in
set_option maxHeartbeats 4000000 in
theorem coo_w {X : jX} {ad : Nat → Nat} {mem : Mem} {s : Rw}  (hS : Sh2 mem 1 s) (hk : mem 190 3 = 119) : Cm X yX5_carryOutOrder cX5_carryOutOrder 4 (some .int) 5 ad [.ref 0] mem (CoR mem (seF s (nOf s) (wOf s) (mem 192 0) (mem 192 1))) := by
  refine Cm.of (own := RX5) (nm := "carryOutOrder") (by decide +kernel) rfl rfl rfl rfl ?_
  obtain ⟨hR, hV⟩ := Sh2_n hS
  refine J_aload_n dX5_carryOutOrder_0 rfl rfl ?_
  refine gX5_pad wf_X5_29 dX5_carryOutOrder_1 ?_
  refine gX4_values wf_X5_212 dX5_carryOutOrder_4 ?_
  refine J_iconst (v := 0) dX5_carryOutOrder_7 (by decide) ?_
  refine al_vals dX5_carryOutOrder_8 (nIin (k := 0) (by decide) (by decide)) ?_
  refine J_topi (fun z9 hz9 => ?_)
  obtain rfl : z9 = (mem 192 0) := hz9.trans (by rfl)
  clear hz9
  refine J_istore_n dX5_carryOutOrder_9 rfl rfl rfl ?_
  refine J_aload_n dX5_carryOutOrder_10 rfl rfl ?_
  refine gX5_pad wf_X5_29 dX5_carryOutOrder_11 ?_
  refine gX4_values wf_X5_212 dX5_carryOutOrder_14 ?_
  refine J_iconst (v := 1) dX5_carryOutOrder_17 (by decide) ?_
  refine al_vals dX5_carryOutOrder_18 (nIin (k := 1) (by decide) (by decide)) ?_
  refine J_topi (fun z9 hz9 => ?_)
  obtain rfl : z9 = (mem 192 1) := hz9.trans (by rfl)
  clear hz9
  refine J_istore_n dX5_carryOutOrder_19 rfl rfl rfl ?_
  refine J_aload_n dX5_carryOutOrder_20 rfl rfl ?_
  refine gX5_pad wf_X5_29 dX5_carryOutOrder_21 ?_
  refine gX4_values wf_X5_212 dX5_carryOutOrder_24 ?_
  refine J_iconst (v := 2) dX5_carryOutOrder_27 (by decide) ?_
  refine al_vals dX5_carryOutOrder_28 (nIin (k := 2) (by decide) (by decide)) ?_
  refine J_topi (fun z9 hz9 => ?_)
  obtain rfl : z9 = (mem 192 2) := hz9.trans (by rfl)
  clear hz9
  refine J_istore_n dX5_carryOutOrder_29 rfl rfl rfl ?_
  refine J_aload_n dX5_carryOutOrder_30 rfl rfl ?_
  refine gX5_pad wf_X5_29 dX5_carryOutOrder_31 ?_
  refine gX4_kind wf_X5_215 dX5_carryOutOrder_34 ?_
  refine J_topi (fun z9 hz9 => ?_)
  obtain rfl : z9 = 119 := hz9.trans (by exact hk)
  clear hz9
  refine J_lookup (tgt := 136) dX5_carryOutOrder_37 (by decide) rfl (by decide) ?_
  refine J_aload_n dX5_carryOutOrder_136 rfl rfl ?_
  refine gX5_backplane wf_X5_10 dX5_carryOutOrder_137 ?_
  refine J_iload_n dX5_carryOutOrder_140 rfl rfl ?_
  refine J_iload_n dX5_carryOutOrder_141 rfl rfl ?_
  rw [ws_b (b := 1)]
  refine cVg wv_X5_66 (c_X0_sendWord isB1 hV hR) dX5_carryOutOrder_142 (ob0 (by first | assumption | exact isB1 | exact isB18)) rfl rfl (kk := (fun v m9 hf => ?_))
  obtain ⟨rfl, B9, n9, rfl, hR9, hV9⟩ := hf
  refine r_int dX5_carryOutOrder_145 ?_
  exact ⟨rfl, B9, _, _, rfl, hR9, hV9⟩

set_option maxRecDepth 100000 in
set_option maxHeartbeats 4000000 in
theorem coo_t {X : jX} {ad : Nat → Nat} {mem : Mem} {s : Rw}  (hS : Sh2 mem 1 s) (hk : mem 190 3 = 116) : Cm X yX5_carryOutOrder cX5_carryOutOrder 4 (some .int) 5 ad [.ref 0] mem (CoR mem (paF s (nOf s) (wOf s) (mem 192 0))) := by
  refine Cm.of (own := RX5) (nm := "carryOutOrder") (by decide +kernel) rfl rfl rfl rfl ?_
  obtain ⟨hR, hV⟩ := Sh2_n hS
  refine J_aload_n dX5_carryOutOrder_0 rfl rfl ?_
  refine gX5_pad wf_X5_29 dX5_carryOutOrder_1 ?_
  refine gX4_values wf_X5_212 dX5_carryOutOrder_4 ?_
  refine J_iconst (v := 0) dX5_carryOutOrder_7 (by decide) ?_
  refine al_vals dX5_carryOutOrder_8 (nIin (k := 0) (by decide) (by decide)) ?_
  refine J_topi (fun z9 hz9 => ?_)
  obtain rfl : z9 = (mem 192 0) := hz9.trans (by rfl)
  clear hz9
  refine J_istore_n dX5_carryOutOrder_9 rfl rfl rfl ?_
  refine J_aload_n dX5_carryOutOrder_10 rfl rfl ?_
  refine gX5_pad wf_X5_29 dX5_carryOutOrder_11 ?_
  refine gX4_values wf_X5_212 dX5_carryOutOrder_14 ?_
  refine J_iconst (v := 1) dX5_carryOutOrder_17 (by decide) ?_
  refine al_vals dX5_carryOutOrder_18 (nIin (k := 1) (by decide) (by decide)) ?_
  refine J_topi (fun z9 hz9 => ?_)
  obtain rfl : z9 = (mem 192 1) := hz9.trans (by rfl)
  clear hz9
  refine J_istore_n dX5_carryOutOrder_19 rfl rfl rfl ?_
  refine J_aload_n dX5_carryOutOrder_20 rfl rfl ?_
  refine gX5_pad wf_X5_29 dX5_carryOutOrder_21 ?_
  refine gX4_values wf_X5_212 dX5_carryOutOrder_24 ?_
  refine J_iconst (v := 2) dX5_carryOutOrder_27 (by decide) ?_
  refine al_vals dX5_carryOutOrder_28 (nIin (k := 2) (by decide) (by decide)) ?_
  refine J_topi (fun z9 hz9 => ?_)
  obtain rfl : z9 = (mem 192 2) := hz9.trans (by rfl)
  clear hz9
  refine J_istore_n dX5_carryOutOrder_29 rfl rfl rfl ?_
  refine J_aload_n dX5_carryOutOrder_30 rfl rfl ?_
  refine gX5_pad wf_X5_29 dX5_carryOutOrder_31 ?_
  refine gX4_kind wf_X5_215 dX5_carryOutOrder_34 ?_
  refine J_topi (fun z9 hz9 => ?_)
  obtain rfl : z9 = 116 := hz9.trans (by exact hk)
  clear hz9
  refine J_lookup (tgt := 146) dX5_carryOutOrder_37 (by decide) rfl (by decide) ?_
  refine J_aload_n dX5_carryOutOrder_146 rfl rfl ?_
  refine gX5_backplane wf_X5_10 dX5_carryOutOrder_147 ?_
  refine J_iload_n dX5_carryOutOrder_150 rfl rfl ?_
  rw [ws_b (b := 1)]
  refine cVg wv_X5_69 (c_X0_passTicks isB1 hV hR) dX5_carryOutOrder_151 (ob0 (by first | assumption | exact isB1 | exact isB18)) rfl rfl (kk := (fun v m9 hf => ?_))
  obtain ⟨rfl, B9, rfl, hR9⟩ := hf
  have hV9 := Rv_pa (t := (mem 192 0)) hV
  refine r_int dX5_carryOutOrder_154 ?_
  exact ⟨rfl, B9, _, _, rfl, hR9, hV9⟩

theorem c_X5_carryOutOrder {X : jX} {ad : Nat → Nat} {mem : Mem} {s : Rw} (hS : Sh2 mem 1 s) (hl : isL (mem 190 3)) : Cm X yX5_carryOutOrder cX5_carryOutOrder 4 (some .int) 5 ad [.ref 0] mem (CoR mem (dsF s (mem 190 3) (mem 192 0) (mem 192 1) (mem 192 2))) := by
  unfold dsF
  rcases hl with e | e | e | e | e | e
  · rw [if_pos e]; exact coo_b hS e
  · rw [if_neg (by rw [e]; exact n98.1), if_pos e]; exact coo_i hS e
  · rw [if_neg (by rw [e]; exact n98.2.1), if_neg (by rw [e]; exact n105.1), if_pos e]; exact coo_o hS e
  · rw [if_neg (by rw [e]; exact n98.2.2.1), if_neg (by rw [e]; exact n105.2.1), if_neg (by rw [e]; exact n111.1), if_pos e]; exact coo_a hS e
  · rw [if_neg (by rw [e]; exact n98.2.2.2.1), if_neg (by rw [e]; exact n105.2.2.1), if_neg (by rw [e]; exact n111.2.1), if_neg (by rw [e]; exact n97.1), if_pos e]; exact coo_w hS e
  · rw [if_neg (by rw [e]; exact n98.2.2.2.2), if_neg (by rw [e]; exact n105.2.2.2), if_neg (by rw [e]; exact n111.2.2), if_neg (by rw [e]; exact n97.2.1), if_neg (by rw [e]; exact n97.2.2)]; exact coo_t hS e
/-- in the middle of a text: what has been carried out, and where the reader stands -/
def Mt (m0 m : Mem) (s0 s : Rw) (o q : Nat) (rows srows : Nat → Rw) (P : Nat → Int32) (L i : Nat) : Prop := Mid m s0 s o q rows srows P L ∧ (∀ c, 195 ≤ c → m c = m0 c) ∧ RC (m 190) L i
theorem Mid_pad {m m9 : Mem} {s0 s : Rw} {o q L L9 : Nat} {rows srows : Nat → Rw} {P P9 : Nat → Int32} (h : Mid m s0 s o q rows srows P L) (he : ∀ x, x < 195 → x ≠ 190 → x ≠ 191 → x ≠ 192 → m9 x = m x) (hP : CPa m9 P9 L9) : Mid m9 s0 s o q rows srows P9 L9 :=
  ⟨CSt_pad h.1 he hP, Sh2_mem h.2 (fun r hr => by obtain ⟨j, hj, hb⟩ := hbk_isB (o := o) (r := q); exact he _ (by omega) (by omega) (by omega) (by omega))⟩
theorem Mt_F {m0 m : Mem} {s0 s : Rw} {o q L i k : Nat} {rows srows : Nat → Rw} {P G W : Nat → Int32} (h : Mt m0 m s0 s o q rows srows P L i) (hR : RC G L k) : Mt m0 (PM m G W) s0 s o q rows srows P L k :=
  ⟨Mid_pad h.1 (fun x _ hx _ hy => PM_ne hx hy) (CPa_F h.1.1.2.2.2 hR.1), fun c hc => (PM_ne (by omega) (by omega)).trans (h.2.1 c hc), by rw [PM_190]; exact hR⟩
theorem Mid_SB {m B : Mem} {s0 s t : Rw} {o q n w L : Nat} {rows srows : Nat → Rw} {P : Nat → Int32} (h : Mid m s0 s o q rows srows P L) (hR : Rep B t n w) (hV : Rv t n w) : Mid (SB m 1 B) s0 t o q rows srows P L := by
  obtain ⟨⟨-, hc, hsa, hpa⟩, hp⟩ := h
  have hne : ∀ r, hbk o r ≠ 1 := fun r => by unfold hbk; omega
  exact ⟨⟨Sh2_SB hR hV, CHi_out hc isB1 (fun r _ => hne r) SB_out, CSa_out hsa isB1 (fun t _ => by omega) SB_out, CPa_out hpa isB1 SB_out⟩, Sh2_out hp hbk_isB isB1 (hne q) SB_out⟩
theorem Mt_SB {m0 m B : Mem} {s0 s t : Rw} {o q n w L i : Nat} {rows srows : Nat → Rw} {P : Nat → Int32} (h : Mt m0 m s0 s o q rows srows P L i) (hR : Rep B t n w) (hV : Rv t n w) : Mt m0 (SB m 1 B) s0 t o q rows srows P L i :=
  ⟨Mid_SB h.1 hR hV, fun c hc => (SB_ne (by omega)).trans (h.2.1 c hc), by rw [SB_ne (by decide)]; exact h.2.2⟩
theorem ws_pm {X : jX} {ad : Nat → Nat} {m : Mem} : WS X ad m = WS X ad (PM m (m 190) (m 192)) := by rw [PM_self]
section GSE
variable {P : Nat → Int32} {L i j : Nat}
theorem gS_t1 (h : (gS P L (j + 1) i).2 = true) : (oS P L i).2 = true := Classical.byContradiction (fun g => g (by
  have e : gS P L (j + 1) i = oS P L i := if_neg g
  rw [e] at h
  exact h))
theorem gS_t2 (h : (gS P L (j + 1) i).2 = true) (hl : (oS P L i).1 < L) : (dS P L 59 59 (oS P L i)).2 = true := Classical.byContradiction (fun g => g (by
  have e : gS P L (j + 1) i = dS P L 59 59 (oS P L i) := (if_pos (gS_t1 h)).trans ((if_pos hl).trans (if_neg g))
  rw [e] at h
  exact h))
theorem gS_t3 (h : (gS P L (j + 1) i).2 = true) (hl : (oS P L i).1 < L) : (gS P L j (dS P L 59 59 (oS P L i)).1).2 = true := by
  have e : gS P L (j + 1) i = gS P L j (dS P L 59 59 (oS P L i)).1 := (if_pos (gS_t1 h)).trans ((if_pos hl).trans (if_pos (gS_t2 h hl)))
  rw [e] at h
  exact h
theorem oS_end (h : ¬ i < L) : oS P L i = (i, false) := by unfold oS; rw [if_neg h]
theorem dS_end {q : Nat × Bool} (h : ¬ q.1 < L) (hq : q.2 = true) : dS P L 59 59 q = (q.1, false) := by
  unfold dS nx
  rw [if_pos hq, if_neg h]
  rfl
theorem gD_a {n : Int32} {s : Rw} (h1 : (oS P L i).2 = true) (h2 : (dsF s (P i) (oX P L i) (oY P L i) (oZ P L i)).1 < 0) : gD P L (j + 1) i n s = (n + 0, (dsF s (P i) (oX P L i) (oY P L i) (oZ P L i)).2) := (if_pos h1).trans (if_pos h2)
theorem gD_b {n : Int32} {s : Rw} (h1 : (oS P L i).2 = true) (h2 : ¬ (dsF s (P i) (oX P L i) (oY P L i) (oZ P L i)).1 < 0) (h3 : ¬ (oS P L i).1 < L) : gD P L (j + 1) i n s = (n + 1, (dsF s (P i) (oX P L i) (oY P L i) (oZ P L i)).2) := (if_pos h1).trans ((if_neg h2).trans (if_neg h3))
theorem gD_c {n : Int32} {s : Rw} (h1 : (oS P L i).2 = true) (h2 : ¬ (dsF s (P i) (oX P L i) (oY P L i) (oZ P L i)).1 < 0) (h3 : (oS P L i).1 < L) (h4 : (dS P L 59 59 (oS P L i)).2 = true) : gD P L (j + 1) i n s = gD P L j (dS P L 59 59 (oS P L i)).1 (n + 1) (dsF s (P i) (oX P L i) (oY P L i) (oZ P L i)).2 := (if_pos h1).trans ((if_neg h2).trans ((if_pos h3).trans (if_pos h4)))
end GSE
set_option maxRecDepth 100000 in
set_option maxHeartbeats 4000000 in
theorem coE72 {X : jX} {ad : Nat → Nat} {mem : Mem} {s0 : Rw} {o q L : Nat} {rows srows : Nat → Rw} {P : Nat → Int32} {r : Int32 × Rw} {n : Int32} {s : Rw} {m : Mem} (hM : Mid m s0 s o q rows srows P L) (ho : ∀ c, 195 ≤ c → m c = mem c) (hr : r = (n, s)) : Jg X RX5 cX5_carryOut 2 (some .int) "carryOut" 7 0 0 (QF X ad (ClR mem r s0 o q rows srows P 0)) ad 0 0 72 [(0, .ref 0), (1, .int n)] [] (WS X ad m) := by
  subst hr
  have hM2 : Mid (up m 190 1 0) s0 s o q rows srows P 0 := Mid_pad hM (fun x _ hx _ _ => up_ne hx) ⟨by decide, by rw [up_apply, if_pos ⟨rfl, rfl⟩]; rfl, fun j hj => absurd hj (by omega)⟩
  refine J_aload_n dX5_carryOut_72 rfl rfl ?_
  refine gX5_pad wf_X5_29 dX5_carryOut_73 ?_
  refine cVi wv_X5_184 c_X4_clear dX5_carryOut_76 ob4 rfl rfl (kk := ?_)
  refine J_pop dX5_carryOut_79 rfl ?_
  refine J_aload_n dX5_carryOut_80 rfl rfl ?_
  refine gX5_history wf_X5_22 dX5_carryOut_81 ?_
  refine J_iload_n dX5_carryOut_84 rfl rfl ?_
  refine cVg wv_X5_49 (c_X3_settle hM2) dX5_carryOut_85 ob3 rfl rfl (kk := (fun v m9 hf => ?_))
  obtain ⟨rfl, hf2, hf3⟩ := hf
  refine r_int dX5_carryOut_88 ?_
  exact ⟨rfl, fun c hc => (hf2 c hc).trans ((up_ne (by omega)).trans (ho c hc)), hf3⟩

set_option maxRecDepth 100000 in
set_option maxHeartbeats 4000000 in
theorem coE35 {X : jX} {ad : Nat → Nat} {mem : Mem} {s0 : Rw} {o q L : Nat} {rows srows : Nat → Rw} {P : Nat → Int32} {r : Int32 × Rw} (had : ∀ k, ad (1000 + k) = jx X k) {n : Nat} {s : Rw} {m : Mem} {i : Nat} (hi : ¬ i < L) (hT : Mt mem m s0 s o q rows srows P L i) (hr : r = (nI n, s)) : Jg X RX5 cX5_carryOut 2 (some .int) "carryOut" 7 0 0 (QF X ad (ClR mem r s0 o q rows srows P 0)) ad 0 0 35 [(0, .ref 0), (1, .int (nI n))] [] (WS X ad m) := by
  have hSg : SgP m P L := hT.1.1.2.2.2.2.2
  refine J_iload_n dX5_carryOut_35 rfl rfl ?_
  refine J_bipush (v := 80) dX5_carryOut_36 (by decide) ?_
  refine J_icmp_ge (tgt := 72) dX5_carryOut_38 (by decide) (fun h38 => ?_) (fun h38 => ?_)
  · first | exact coE72 (Mt_F hT hRC).1 (Mt_F hT hRC).2.1 hr | exact coE72 hT.1 hT.2.1 hr
  · refine J_aload_n dX5_carryOut_41 rfl rfl ?_
    refine gX5_pad wf_X5_29 dX5_carryOut_42 ?_
    rw [ws_pm]
    refine cVg wv_X5_193 (c_X4_readOrder hT.2.2 (P := P) hSg had) dX5_carryOut_45 ob4 rfl rfl (kk := (fun v m9 hf => ?_))
    obtain ⟨rfl, G, W, rfl, hRC, hG1, hGv⟩ := hf
    refine J_if_eq (tgt := 72) dX5_carryOut_48 (by decide) (fun h48 => ?_) (fun h48 => absurd (by rw [oS_end hi]; rfl) h48)
    first | exact coE72 (Mt_F hT hRC).1 (Mt_F hT hRC).2.1 hr | exact coE72 hT.1 hT.2.1 hr

theorem PM_192 {m : Mem} {F W : Nat → Int32} : PM m F W 192 = W := by unfold PM upC; simp
theorem c_coo {X : jX} {ad : Nat → Nat} {m0 m : Mem} {s0 s : Rw} {o q L i k : Nat} {rows srows : Nat → Rw} {P G W : Nat → Int32} (hT : Mt m0 (PM m G W) s0 s o q rows srows P L k) (ho : (oS P L i).2 = true) (hk : G 3 = P i) (hv : oV P L i (W 0) (W 1) (W 2)) : Cm X yX5_carryOutOrder cX5_carryOutOrder 4 (some .int) 5 ad [.ref 0] (PM m G W) (CoR (PM m G W) (dsF s (P i) (oX P L i) (oY P L i) (oZ P L i))) := by
  have hl := (oS_let ho).2
  have e : PM m G W 190 3 = P i := by rw [PM_190]; exact hk
  have h := c_X5_carryOutOrder (X := X) (ad := ad) hT.1.1.1 (by rw [e]; exact hl)
  rw [e, PM_192, dsF_val hl hv] at h
  exact h
set_option maxRecDepth 100000 in
set_option maxHeartbeats 4000000 in
theorem coLoopC {X : jX} {ad : Nat → Nat} {mem : Mem} {s0 : Rw} {o q L : Nat} {rows srows : Nat → Rw} {P : Nat → Int32} {r : Int32 × Rw} (had : ∀ k, ad (1000 + k) = jx X k) : ∀ (j i n : Nat) (s : Rw) (m : Mem), i ≤ L → L < i + 2 * j → n + j = 80 → (gS P L j i).2 = true → Mt mem m s0 s o q rows srows P L i → r = gD P L j i (nI n) s → Jg X RX5 cX5_carryOut 2 (some .int) "carryOut" 7 0 0 (QF X ad (ClR mem r s0 o q rows srows P 0)) ad 0 0 35 [(0, .ref 0), (1, .int (nI n))] [] (WS X ad m) := by
  intro j
  induction j with
  | zero => intro i n s m h1 h2; exact absurd h2 (by omega)
  | succ j ih =>
    intro i n s m hi hj hn hg hT hr
    have hSg : SgP m P L := hT.1.1.2.2.2.2.2
    have h1 := gS_t1 hg
    refine J_iload_n dX5_carryOut_35 rfl rfl ?_
    refine J_bipush (v := 80) dX5_carryOut_36 (by decide) ?_
    refine J_icmp_ge (tgt := 72) dX5_carryOut_38 (by decide) (fun h38 => absurd h38 (nI_nle1 (a := n) (b := 80) (by omega) (by omega))) (fun h38 => ?_)
    refine J_aload_n dX5_carryOut_41 rfl rfl ?_
    refine gX5_pad wf_X5_29 dX5_carryOut_42 ?_
    rw [ws_pm]
    refine cVg wv_X5_193 (c_X4_readOrder hT.2.2 (P := P) hSg had) dX5_carryOut_45 ob4 rfl rfl (kk := (fun v m9 hf => ?_))
    obtain ⟨rfl, G, W, rfl, hRC, hG1, hGv⟩ := hf
    refine J_if_eq (tgt := 72) dX5_carryOut_48 (by decide) (fun h48 => absurd h48 (by rw [if_pos h1]; decide)) (fun h48 => ?_)
    refine J_aload_n dX5_carryOut_51 rfl rfl ?_
    refine cVg wv_X5_196 (c_coo (Mt_F hT hRC) h1 (hGv h1).1 (hGv h1).2) dX5_carryOut_52 ob5 rfl rfl (kk := (fun v m9 hf => ?_))
    obtain ⟨rfl, B9, n9, w9, rfl, hR9, hV9⟩ := hf
    have hT2 := Mt_SB (Mt_F (W := W) hT hRC) hR9 hV9
    refine J_if_lt (tgt := 72) dX5_carryOut_55 (by decide) (fun h55 => ?_) (fun h55 => ?_)
    · exact coE72 hT2.1 hT2.2.1 (hr.trans ((gD_a h1 h55).trans (by rw [Int32.add_zero])))
    · refine J_iinc (v := _ + 1) dX5_carryOut_58 rfl rfl rfl rfl ?_
      refine J_aload_n dX5_carryOut_61 rfl rfl ?_
      refine gX5_pad wf_X5_29 dX5_carryOut_62 ?_
      rw [ws_pm]
      refine cVg wv_X5_199 (c_X4_readSeparator (p := oS P L i) hT2.2.2 hT2.1.1.2.2.2.2.2 h1) dX5_carryOut_65 ob4 rfl rfl (kk := (fun v m9 hf => ?_))
      obtain ⟨G2, rfl, rfl, hRC2, -⟩ := hf
      have hT3 := Mt_F (W := SB (PM m G W) 1 B9 192) hT2 hRC2
      refine J_pop dX5_carryOut_68 rfl ?_
      refine J_goto (tgt := 35) dX5_carryOut_69 (by decide) ?_
      rw [show nI n + 1 = nI (n + 1) from (nI_succ n).symm]
      by_cases hl : (oS P L i).1 < L
      · obtain ⟨-, c2, c3⟩ := gS_step (P := P) hi hj h1 hl (gS_t2 hg hl)
        exact ih _ (n + 1) _ _ c2 c3 (by omega) (gS_t3 hg hl) hT3 (hr.trans ((gD_c h1 h55 hl (gS_t2 hg hl)).trans (by rw [nI_succ])))
      · exact coE35 had (by rw [dS_end hl h1]; exact hl) hT3 (hr.trans ((gD_b h1 h55 hl).trans (by rw [nI_succ])))

/-- what carrying out leaves, in the class -/
def CCo (m : Mem) (s : Rw) (o q : Nat) (rows srows : Nat → Rw) (P : Nat → Int32) (L : Nat) (v : Option Value) (m9 : Mem) : Prop := if ftA P L = -6 then ClR m (gD P L 80 0 0 s) s o q rows srows P 0 v m9 else CQu m (-3) s o q rows srows P L v m9
theorem gS_le {P : Nat → Int32} {L : Nat} : ∀ j i, i ≤ L → (gS P L j i).1 ≤ L := by
  intro j
  induction j with
  | zero => intro i hi; exact hi
  | succ j ih =>
    intro i hi
    have h1 := (oS_le (P := P) hi).2.1
    have h2 := (dS_le (P := P) (lo := 59) (hi := 59) (p := oS P L i) h1).2
    unfold gS
    split
    · split
      · split
        · exact ih _ h2
        · exact h2
      · exact h1
    · exact h1
theorem ft_ok {P : Nat → Int32} {L : Nat} (hL : L ≤ 80) (h : ftA P L = -6) : (gS P L 80 0).2 = true := Classical.byContradiction (fun g => by
  unfold ftA at h
  rw [if_neg g] at h
  exact (show ∀ k, k < 81 → ¬ nI k = -6 by decide) _ (by have := gS_le (P := P) (L := L) 80 0 (Nat.zero_le _); omega) h)
theorem Mt_0 {m m1 : Mem} {s : Rw} {o q L : Nat} {rows srows : Nat → Rw} {P G W : Nat → Int32} (hP : Prp m1 s o q rows srows P L) (ho : ∀ c, 195 ≤ c → m1 c = m c) (hR : RC G L 0) : Mt m (PM m1 G W) s s o q rows srows P L 0 :=
  ⟨Mid_pad hP (fun x _ hx _ hy => PM_ne hx hy) (CPa_F hP.1.2.2.2 hR.1), fun c hc => (PM_ne (by omega) (by omega)).trans (ho c hc), by rw [PM_190]; exact hR⟩
set_option maxRecDepth 100000 in
set_option maxHeartbeats 4000000 in
theorem c_X5_carryOut {X : jX} {ad : Nat → Nat} {mem : Mem} {s : Rw} {o q L : Nat} {rows srows : Nat → Rw} {P : Nat → Int32}  (hC : CSt mem s o q rows srows P L) (had : ∀ k, ad (1000 + k) = jx X k) : Cm X yX5_carryOut cX5_carryOut 2 (some .int) 7 ad [.ref 0] mem (CCo mem s o q rows srows P L) := by
  refine Cm.of (own := RX5) (nm := "carryOut") (by decide +kernel) rfl rfl rfl rfl ?_
  refine J_aload_n dX5_carryOut_0 rfl rfl ?_
  refine gX5_pad wf_X5_29 dX5_carryOut_1 ?_
  rw [ws_pm]
  refine cVg wv_X5_187 (c_X4_faultPlace hC.2.2.2.2.1 hC.2.2.2.1 hC.2.2.2.2.2 had) dX5_carryOut_4 ob4 rfl rfl (kk := (fun v m1 hf => ?_))
  obtain ⟨rfl, G, W, rfl, hG1⟩ := hf
  have hC1 : CSt (PM mem G W) s o q rows srows P L := CSt_pad hC (fun x _ hx _ hy => PM_ne hx hy) (CPa_F hC.2.2.2 hG1)
  have hk1 : ∀ c, 195 ≤ c → PM mem G W c = mem c := fun c hc => PM_ne (by omega) (by omega)
  refine J_bipush (v := -6) dX5_carryOut_7 (by decide) ?_
  refine J_icmp_eq (tgt := 15) dX5_carryOut_9 (by decide) (fun h9 => ?_) (fun h9 => ?_)
  · refine J_aload_n dX5_carryOut_15 rfl rfl ?_
    refine gX5_history wf_X5_22 dX5_carryOut_16 ?_
    refine J_aload_n dX5_carryOut_19 rfl rfl ?_
    refine gX5_backplane wf_X5_10 dX5_carryOut_20 ?_
    refine cVg wv_X5_41 (c_X3_prepare hC1) dX5_carryOut_23 ob3 rfl rfl (kk := (fun v m1 hf => ?_))
    obtain ⟨rfl, ho1, hP⟩ := hf
    have ho : ∀ c, 195 ≤ c → m1 c = mem c := fun c hc => (ho1 c hc).trans (hk1 c hc)
    refine J_aload_n dX5_carryOut_26 rfl rfl ?_
    refine gX5_pad wf_X5_29 dX5_carryOut_27 ?_
    rw [ws_pm]
    refine cVv wv_X5_190 (c_X4_startReading (P := P) (L := L) ⟨rfl, rfl⟩) dX5_carryOut_30 ob4 rfl rfl (kk := ?_)
    refine J_iconst (v := 0) dX5_carryOut_33 (by decide) ?_
    refine J_istore_n dX5_carryOut_34 rfl rfl rfl ?_
    have hL := hC.2.2.2.1
    have hgo := ft_ok hL h9
    refine Jg_fin (fun v m9 h => by unfold CCo; rw [if_pos h9]; exact h) ?_
    exact coLoopC had 80 0 0 s _ (Nat.zero_le _) (by omega) rfl hgo (Mt_0 hP ho ⟨by rw [upd_at, if_neg (by decide)]; exact hP.1.2.2.2.2.1, rfl, Nat.zero_le _, hL⟩) rfl
  · refine J_bipush (v := -3) dX5_carryOut_12 (by decide) ?_
    refine r_int dX5_carryOut_14 ?_
    unfold CCo
    rw [if_neg h9]
    exact ⟨rfl, hk1, hC1⟩

