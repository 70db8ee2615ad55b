theorem Mid_of {m B : Mem} {s t : Rw} {o q n w L : Nat} {rows srows : Nat → Rw} {P : Nat → Int32} (h : Prp m s o q rows srows P L) (hR : Rep B t n w) (hV : Rv t n w) : Mid (SB m 1 B) s t o q rows srows P L := by
  obtain ⟨⟨-, hc, hsa, hpa⟩, hp⟩ := h
  have hne : ∀ r, hbk o r ≠ 1 := fun r => by unfold hbk; omega
  exact ⟨⟨Sh2_SB hR hV, CHi_out hc isB1 (fun r _ => hne r) SB_out, CSa_out hsa isB1 (fun t _ => by omega) SB_out, CPa_out hpa isB1 SB_out⟩, Sh2_out hp hbk_isB isB1 (hne q) SB_out⟩
/-- what a change of the class leaves -/
def ClR (m : Mem) (r : Int32 × Rw) (s : Rw) (o q : Nat) (rows srows : Nat → Rw) (P : Nat → Int32) (L : Nat) (v : Option Value) (m9 : Mem) : Prop := v = some (.int r.1) ∧ (∀ c, 195 ≤ c → m9 c = m c) ∧ Stl m9 r.1 s r.2 o q rows srows P L
theorem ClR_of {m m1 m9 B9 : Mem} {r : Int32 × Rw} {s : Rw} {o q L : Nat} {rows srows : Nat → Rw} {P : Nat → Int32} {v : Option Value} (h1 : ∀ c, 195 ≤ c → m1 c = m c) (h : v = some (.int r.1) ∧ (∀ c, 195 ≤ c → m9 c = SB m1 1 B9 c) ∧ Stl m9 r.1 s r.2 o q rows srows P L) : ClR m r s o q rows srows P L v m9 :=
  ⟨h.1, fun c hc => (h.2.1 c hc).trans ((SB_ne (by omega)).trans (h1 c hc)), h.2.2⟩
theorem ws_self {X : jX} {ad : Nat → Nat} {m : Mem} : WS X ad m = WS X ad (SB m 1 (blk m 1)) := by rw [SB_self]
theorem Sh2_n {m : Mem} {b : Nat} {s : Rw} (h : Sh2 m b s) : Rep (blk m b) s (nOf s) (wOf s) ∧ Rv s (nOf s) (wOf s) := by
  obtain ⟨n, w, h1, h2⟩ := h
  obtain ⟨e1, e2⟩ := Ra_n h2.1
  rw [e1, e2]
  exact ⟨h1, h2⟩
set_option maxRecDepth 100000 in
set_option maxHeartbeats 4000000 in
theorem c_X5_set {X : jX} {ad : Nat → Nat} {mem : Mem} {s : Rw} {o q L : Nat} {rows srows : Nat → Rw} {P : Nat → Int32} {x v : Int32} (hC : CSt mem s o q rows srows P L) (had : ∀ k, ad (1000 + k) = jx X k) : Cm X yX5_set cX5_set 3 (some .int) 4 ad [.ref 0, .int x, .int v] mem (ClR mem (stF s x v) s o q rows srows P L) := by
  refine Cm.of (own := RX5) (nm := "set") (by decide +kernel) rfl rfl rfl rfl ?_
  refine J_aload_n dX5_set_0 rfl rfl ?_
  refine gX5_history wf_X5_22 dX5_set_1 ?_
  refine J_aload_n dX5_set_4 rfl rfl ?_
  refine gX5_backplane wf_X5_10 dX5_set_5 ?_
  refine cVg wv_X5_41 (c_X3_prepare hC) dX5_set_8 ob3 rfl rfl (kk := (fun v m1 hf => ?_))
  obtain ⟨rfl, ho, hP⟩ := hf
  obtain ⟨hR, hV⟩ := Sh2_n hP.1.1
  refine J_aload_n dX5_set_11 rfl rfl ?_
  refine gX5_history wf_X5_22 dX5_set_12 ?_
  refine J_aload_n dX5_set_15 rfl rfl ?_
  refine gX5_backplane wf_X5_10 dX5_set_16 ?_
  refine J_iload_n dX5_set_19 rfl rfl ?_
  refine J_iload_n dX5_set_20 rfl rfl ?_
  rw [ws_self]
  refine cVg wv_X5_45 (c_X0_changeSetting isB1 hV hR had) dX5_set_21 (ob0 (by first | assumption | exact isB1 | exact isB18)) rfl rfl (kk := (fun v m9 hf => ?_))
  obtain ⟨rfl, B9, rfl, hR9⟩ := hf
  have hV9 := Rv_st (x := x) (v := v) hV
  refine cVg wv_X5_49 (c_X3_settle (Mid_of hP hR9 hV9)) dX5_set_24 ob3 rfl rfl (kk := (fun v m9 hf => ?_))
  obtain ⟨rfl, hf2⟩ := hf
  refine r_int dX5_set_27 ?_
  exact ClR_of ho ⟨rfl, hf2⟩

set_option maxRecDepth 100000 in
set_option maxHeartbeats 4000000 in
theorem c_X5_board {X : jX} {ad : Nat → Nat} {mem : Mem} {s : Rw} {o q L : Nat} {rows srows : Nat → Rw} {P : Nat → Int32} {x y : Int32} (hC : CSt mem s o q rows srows P L) : Cm X yX5_board cX5_board 3 (some .int) 4 ad [.ref 0, .int x, .int y] mem (ClR mem (coF s (nOf s) x y) s o q rows srows P L) := by
  refine Cm.of (own := RX5) (nm := "board") (by decide +kernel) rfl rfl rfl rfl ?_
  refine J_aload_n dX5_board_0 rfl rfl ?_
  refine gX5_history wf_X5_22 dX5_board_1 ?_
  refine J_aload_n dX5_board_4 rfl rfl ?_
  refine gX5_backplane wf_X5_10 dX5_board_5 ?_
  refine cVg wv_X5_41 (c_X3_prepare hC) dX5_board_8 ob3 rfl rfl (kk := (fun v m1 hf => ?_))
  obtain ⟨rfl, ho, hP⟩ := hf
  obtain ⟨hR, hV⟩ := Sh2_n hP.1.1
  refine J_aload_n dX5_board_11 rfl rfl ?_
  refine gX5_history wf_X5_22 dX5_board_12 ?_
  refine J_aload_n dX5_board_15 rfl rfl ?_
  refine gX5_backplane wf_X5_10 dX5_board_16 ?_
  refine J_iload_n dX5_board_19 rfl rfl ?_
  refine J_iload_n dX5_board_20 rfl rfl ?_
  rw [ws_self]
  refine cVg wv_X5_53 (c_X0_addBoard isB1 hV hR) dX5_board_21 (ob0 (by first | assumption | exact isB1 | exact isB18)) rfl rfl (kk := (fun v m9 hf => ?_))
  obtain ⟨rfl, B9, n9, rfl, hR9, hV9⟩ := hf
  refine cVg wv_X5_49 (c_X3_settle (Mid_of hP hR9 hV9)) dX5_board_24 ob3 rfl rfl (kk := (fun v m9 hf => ?_))
  obtain ⟨rfl, hf2⟩ := hf
  refine r_int dX5_board_27 ?_
  exact ClR_of ho ⟨rfl, hf2⟩

set_option maxRecDepth 100000 in
set_option maxHeartbeats 4000000 in
theorem c_X5_plug {X : jX} {ad : Nat → Nat} {mem : Mem} {s : Rw} {o q L : Nat} {rows srows : Nat → Rw} {P : Nat → Int32} {x z y : Int32} (hC : CSt mem s o q rows srows P L) : Cm X yX5_plug cX5_plug 4 (some .int) 4 ad [.ref 0, .int x, .int z, .int y] mem (ClR mem (plF s (nOf s) x z y) s o q rows srows P L) := by
  refine Cm.of (own := RX5) (nm := "plug") (by decide +kernel) rfl rfl rfl rfl ?_
  refine J_aload_n dX5_plug_0 rfl rfl ?_
  refine gX5_history wf_X5_22 dX5_plug_1 ?_
  refine J_aload_n dX5_plug_4 rfl rfl ?_
  refine gX5_backplane wf_X5_10 dX5_plug_5 ?_
  refine cVg wv_X5_41 (c_X3_prepare hC) dX5_plug_8 ob3 rfl rfl (kk := (fun v m1 hf => ?_))
  obtain ⟨rfl, ho, hP⟩ := hf
  obtain ⟨hR, hV⟩ := Sh2_n hP.1.1
  refine J_aload_n dX5_plug_11 rfl rfl ?_
  refine gX5_history wf_X5_22 dX5_plug_12 ?_
  refine J_aload_n dX5_plug_15 rfl rfl ?_
  refine gX5_backplane wf_X5_10 dX5_plug_16 ?_
  refine J_iload_n dX5_plug_19 rfl rfl ?_
  refine J_iload_n dX5_plug_20 rfl rfl ?_
  refine J_iload_n dX5_plug_21 rfl rfl ?_
  rw [ws_self]
  refine cVg wv_X5_56 (c_X0_moveInward isB1 hV hR) dX5_plug_22 (ob0 (by first | assumption | exact isB1 | exact isB18)) rfl rfl (kk := (fun v m9 hf => ?_))
  obtain ⟨rfl, B9, rfl, hR9⟩ := hf
  have hV9 := Rv_pl (x := x) (z := z) (y := y) hV
  refine cVg wv_X5_49 (c_X3_settle (Mid_of hP hR9 hV9)) dX5_plug_25 ob3 rfl rfl (kk := (fun v m9 hf => ?_))
  obtain ⟨rfl, hf2⟩ := hf
  refine r_int dX5_plug_28 ?_
  exact ClR_of ho ⟨rfl, hf2⟩

set_option maxRecDepth 100000 in
set_option maxHeartbeats 4000000 in
theorem c_X5_pull {X : jX} {ad : Nat → Nat} {mem : Mem} {s : Rw} {o q L : Nat} {rows srows : Nat → Rw} {P : Nat → Int32} {x y : Int32} (hC : CSt mem s o q rows srows P L) : Cm X yX5_pull cX5_pull 3 (some .int) 4 ad [.ref 0, .int x, .int y] mem (ClR mem (puF s (nOf s) x y) s o q rows srows P L) := by
  refine Cm.of (own := RX5) (nm := "pull") (by decide +kernel) rfl rfl rfl rfl ?_
  refine J_aload_n dX5_pull_0 rfl rfl ?_
  refine gX5_history wf_X5_22 dX5_pull_1 ?_
  refine J_aload_n dX5_pull_4 rfl rfl ?_
  refine gX5_backplane wf_X5_10 dX5_pull_5 ?_
  refine cVg wv_X5_41 (c_X3_prepare hC) dX5_pull_8 ob3 rfl rfl (kk := (fun v m1 hf => ?_))
  obtain ⟨rfl, ho, hP⟩ := hf
  obtain ⟨hR, hV⟩ := Sh2_n hP.1.1
  refine J_aload_n dX5_pull_11 rfl rfl ?_
  refine gX5_history wf_X5_22 dX5_pull_12 ?_
  refine J_aload_n dX5_pull_15 rfl rfl ?_
  refine gX5_backplane wf_X5_10 dX5_pull_16 ?_
  refine J_iload_n dX5_pull_19 rfl rfl ?_
  refine J_iload_n dX5_pull_20 rfl rfl ?_
  rw [ws_self]
  refine cVg wv_X5_60 (c_X0_moveOutward isB1 hV hR) dX5_pull_21 (ob0 (by first | assumption | exact isB1 | exact isB18)) rfl rfl (kk := (fun v m9 hf => ?_))
  obtain ⟨rfl, B9, rfl, hR9⟩ := hf
  have hV9 := Rv_pu (x := x) (y := y) hV
  refine cVg wv_X5_49 (c_X3_settle (Mid_of hP hR9 hV9)) dX5_pull_24 ob3 rfl rfl (kk := (fun v m9 hf => ?_))
  obtain ⟨rfl, hf2⟩ := hf
  refine r_int dX5_pull_27 ?_
  exact ClR_of ho ⟨rfl, hf2⟩

set_option maxRecDepth 100000 in
set_option maxHeartbeats 4000000 in
theorem c_X5_ask {X : jX} {ad : Nat → Nat} {mem : Mem} {s : Rw} {o q L : Nat} {rows srows : Nat → Rw} {P : Nat → Int32} {x : Int32} (hC : CSt mem s o q rows srows P L) : Cm X yX5_ask cX5_ask 2 (some .int) 4 ad [.ref 0, .int x] mem (ClR mem (asF s (nOf s) (wOf s) x) s o q rows srows P L) := by
  refine Cm.of (own := RX5) (nm := "ask") (by decide +kernel) rfl rfl rfl rfl ?_
  refine J_aload_n dX5_ask_0 rfl rfl ?_
  refine gX5_history wf_X5_22 dX5_ask_1 ?_
  refine J_aload_n dX5_ask_4 rfl rfl ?_
  refine gX5_backplane wf_X5_10 dX5_ask_5 ?_
  refine cVg wv_X5_41 (c_X3_prepare hC) dX5_ask_8 ob3 rfl rfl (kk := (fun v m1 hf => ?_))
  obtain ⟨rfl, ho, hP⟩ := hf
  obtain ⟨hR, hV⟩ := Sh2_n hP.1.1
  refine J_aload_n dX5_ask_11 rfl rfl ?_
  refine gX5_history wf_X5_22 dX5_ask_12 ?_
  refine J_aload_n dX5_ask_15 rfl rfl ?_
  refine gX5_backplane wf_X5_10 dX5_ask_16 ?_
  refine J_iload_n dX5_ask_19 rfl rfl ?_
  rw [ws_self]
  refine cVg wv_X5_63 (c_X0_askToLeave isB1 hV hR) dX5_ask_20 (ob0 (by first | assumption | exact isB1 | exact isB18)) rfl rfl (kk := (fun v m9 hf => ?_))
  obtain ⟨rfl, B9, rfl, hR9⟩ := hf
  have hV9 := Rv_as (x := x) hV
  refine cVg wv_X5_49 (c_X3_settle (Mid_of hP hR9 hV9)) dX5_ask_23 ob3 rfl rfl (kk := (fun v m9 hf => ?_))
  obtain ⟨rfl, hf2⟩ := hf
  refine r_int dX5_ask_26 ?_
  exact ClR_of ho ⟨rfl, hf2⟩

set_option maxRecDepth 100000 in
set_option maxHeartbeats 4000000 in
theorem c_X5_send {X : jX} {ad : Nat → Nat} {mem : Mem} {s : Rw} {o q L : Nat} {rows srows : Nat → Rw} {P : Nat → Int32} {x y : Int32} (hC : CSt mem s o q rows srows P L) : Cm X yX5_send cX5_send 3 (some .int) 4 ad [.ref 0, .int x, .int y] mem (ClR mem (seF s (nOf s) (wOf s) x y) s o q rows srows P L) := by
  refine Cm.of (own := RX5) (nm := "send") (by decide +kernel) rfl rfl rfl rfl ?_
  refine J_aload_n dX5_send_0 rfl rfl ?_
  refine gX5_history wf_X5_22 dX5_send_1 ?_
  refine J_aload_n dX5_send_4 rfl rfl ?_
  refine gX5_backplane wf_X5_10 dX5_send_5 ?_
  refine cVg wv_X5_41 (c_X3_prepare hC) dX5_send_8 ob3 rfl rfl (kk := (fun v m1 hf => ?_))
  obtain ⟨rfl, ho, hP⟩ := hf
  obtain ⟨hR, hV⟩ := Sh2_n hP.1.1
  refine J_aload_n dX5_send_11 rfl rfl ?_
  refine gX5_history wf_X5_22 dX5_send_12 ?_
  refine J_aload_n dX5_send_15 rfl rfl ?_
  refine gX5_backplane wf_X5_10 dX5_send_16 ?_
  refine J_iload_n dX5_send_19 rfl rfl ?_
  refine J_iload_n dX5_send_20 rfl rfl ?_
  rw [ws_self]
  refine cVg wv_X5_66 (c_X0_sendWord isB1 hV hR) dX5_send_21 (ob0 (by first | assumption | exact isB1 | exact isB18)) rfl rfl (kk := (fun v m9 hf => ?_))
  obtain ⟨rfl, B9, n9, rfl, hR9, hV9⟩ := hf
  refine cVg wv_X5_49 (c_X3_settle (Mid_of hP hR9 hV9)) dX5_send_24 ob3 rfl rfl (kk := (fun v m9 hf => ?_))
  obtain ⟨rfl, hf2⟩ := hf
  refine r_int dX5_send_27 ?_
  exact ClR_of ho ⟨rfl, hf2⟩

set_option maxRecDepth 100000 in
set_option maxHeartbeats 4000000 in
theorem c_X5_pass {X : jX} {ad : Nat → Nat} {mem : Mem} {s : Rw} {o q L : Nat} {rows srows : Nat → Rw} {P : Nat → Int32} {t : Int32} (hC : CSt mem s o q rows srows P L) : Cm X yX5_pass cX5_pass 2 (some .int) 5 ad [.ref 0, .int t] mem (ClR mem (paF s (nOf s) (wOf s) t) s o q rows srows P L) := by
  refine Cm.of (own := RX5) (nm := "pass") (by decide +kernel) rfl rfl rfl rfl ?_
  refine J_aload_n dX5_pass_0 rfl rfl ?_
  refine gX5_history wf_X5_22 dX5_pass_1 ?_
  refine J_aload_n dX5_pass_4 rfl rfl ?_
  refine gX5_backplane wf_X5_10 dX5_pass_5 ?_
  refine cVg wv_X5_41 (c_X3_prepare hC) dX5_pass_8 ob3 rfl rfl (kk := (fun v m1 hf => ?_))
  obtain ⟨rfl, ho, hP⟩ := hf
  obtain ⟨hR, hV⟩ := Sh2_n hP.1.1
  refine J_aload_n dX5_pass_11 rfl rfl ?_
  refine gX5_history wf_X5_22 dX5_pass_12 ?_
  refine J_aload_n dX5_pass_15 rfl rfl ?_
  refine gX5_backplane wf_X5_10 dX5_pass_16 ?_
  refine J_iload_n dX5_pass_19 rfl rfl ?_
  rw [ws_self]
  refine cVg wv_X5_69 (c_X0_passTicks isB1 hV hR) dX5_pass_20 (ob0 (by first | assumption | exact isB1 | exact isB18)) rfl rfl (kk := (fun v m9 hf => ?_))
  obtain ⟨rfl, B9, rfl, hR9⟩ := hf
  have hV9 := Rv_pa (t := t) hV
  refine cVg wv_X5_49 (c_X3_settle (Mid_of hP hR9 hV9)) dX5_pass_23 ob3 rfl rfl (kk := (fun v m9 hf => ?_))
  obtain ⟨rfl, hf2⟩ := hf
  refine r_int dX5_pass_26 ?_
  exact ClR_of ho ⟨rfl, hf2⟩

