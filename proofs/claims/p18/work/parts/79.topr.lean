theorem Mid_out {m m2 : Mem} {s t : Rw} {o q L : Nat} {rows srows : Nat → Rw} {P : Nat → Int32} (h : Prp m s o q rows srows P L) (ho : Out m m2 1) (hs : Sh2 m2 1 t) : Mid m2 s t o q rows srows P L := by
  obtain ⟨⟨-, hc, hsa, hpa⟩, hp⟩ := h
  have hne : ∀ r, hbk o r ≠ 1 := fun r => by unfold hbk; omega
  exact ⟨⟨hs, CHi_out hc isB1 (fun r _ => hne r) ho, CSa_out hsa isB1 (fun t _ => by omega) ho, CPa_out hpa isB1 ho⟩, Sh2_out hp hbk_isB isB1 (hne q) ho⟩
theorem CSt_save {m m9 : Mem} {s : Rw} {o q L t : Nat} {rows srows : Nat → Rw} {P : Nat → Int32} (ht : t < 2) (h : CSt m s o q rows srows P L) (ho : Out m m9 (154 + 17 * t)) (hs : Sh2 m9 (154 + 17 * t) s) : CSt (up m9 194 t 1) s o q rows (fun j => if j = t then (fun k => if k < 302 then s k else 1) else srows j) P L := by
  obtain ⟨h1, h2, h3, h4⟩ := h
  have a1 := Sh2_out h1 isB1 (isBv ht) (by omega) ho
  obtain ⟨ho1, hq1, g1, g2, g3⟩ := CHi_out h2 (isBv ht) (fun r _ => by unfold hbk; omega) ho
  have a4 := CPa_out h4 (isBv ht) ho
  have e : m9 194 = m 194 := ho 194 (by omega)
  refine ⟨Sh2_up a1 isB1 (by decide), ⟨ho1, hq1, by rw [up_ne (by decide)]; exact g1, by rw [up_ne (by decide)]; exact g2, fun r hr => Sh2_up (g3 r hr) hbk_isB (by decide)⟩, fun j hj => ?_, ⟨a4.1, by rw [up_ne (by decide)]; exact a4.2.1, fun j hj => by rw [up_ne (by decide)]; exact a4.2.2 j hj⟩⟩
  by_cases ej : j = t
  · subst ej
    have ef : (fun i => if i = j then (fun k => if k < 302 then s k else (1 : Int32)) else srows i) j = (fun k => if k < 302 then s k else 1) := if_pos rfl
    rw [ef, up_apply, if_pos ⟨rfl, rfl⟩]
    exact ⟨rfl, Or.inr ⟨rfl, Sh2_cut (Sh2_up hs (isBv hj) (by decide)) (fun x hx => if_pos hx)⟩⟩
  · have ef : (fun i => if i = t then (fun k => if k < 302 then s k else (1 : Int32)) else srows i) j = srows j := if_neg ej
    rw [ef, up_apply, if_neg (fun g => ej g.2), e]
    exact (h3 j hj).imp id (Or.imp id (fun g => ⟨g.1, Sh2_up (Sh2_out g.2 (isBv hj) (isBv ht) (by omega) ho) (isBv hj) (by decide)⟩))
theorem CSt_tr {m m9 : Mem} {s : Rw} {o q L : Nat} {rows srows : Nat → Rw} {P : Nat → Int32} (h : CSt m s o q rows srows P L) (ho : Out m m9 18) : CSt m9 s o q rows srows P L := by
  obtain ⟨h1, h2, h3, h4⟩ := h
  exact ⟨Sh2_out h1 isB1 isB18 (by decide) ho, CHi_out h2 isB18 (fun r _ => by unfold hbk; omega) ho, CSa_out h3 isB18 (fun t _ => by omega) ho, CPa_out h4 isB18 ho⟩
theorem Out_SB {m m1 B : Mem} {b : Nat} (h : Out m m1 b) : Out m (SB m1 b B) b := fun c hc => (SB_ne hc).trans (h c hc)
theorem ws_b {X : jX} {ad : Nat → Nat} {m : Mem} {b : Nat} : WS X ad m = WS X ad (SB m b (blk m b)) := by rw [SB_self]
/-- taking back, by the class -/
def CUn (m : Mem) (o q : Nat) (rows srows : Nat → Rw) (P : Nat → Int32) (L : Nat) (v : Option Value) (m9 : Mem) : Prop := (∀ c, 195 ≤ c → m9 c = m c) ∧ ((q = 0 ∧ v = some (.int (-5)) ∧ m9 = m) ∨ ∃ p, q = p + 1 ∧ v = some (.int (nI p)) ∧ CSt m9 (rows p) o p rows srows P L)
set_option maxRecDepth 100000 in
set_option maxHeartbeats 4000000 in
theorem c_un0 {X : jX} {ad : Nat → Nat} {mem : Mem} {s : Rw} {o L : Nat} {rows srows : Nat → Rw} {P : Nat → Int32}  (hC : CSt mem s o 0 rows srows P L) : Cm X yX5_undo cX5_undo 1 (some .int) 4 ad [.ref 0] mem (CUn mem o 0 rows srows P L) := by
  refine Cm.of (own := RX5) (nm := "undo") (by decide +kernel) rfl rfl rfl rfl ?_
  refine J_aload_n dX5_undo_0 rfl rfl ?_
  refine gX5_history wf_X5_22 dX5_undo_1 ?_
  refine J_aload_n dX5_undo_4 rfl rfl ?_
  refine gX5_backplane wf_X5_10 dX5_undo_5 ?_
  refine cVg wv_X5_202 (c_tb0 hC) dX5_undo_8 ob3 rfl rfl (kk := (fun v m9 hf => ?_))
  obtain ⟨-, rfl, rfl⟩ := hf.2.resolve_right (fun ⟨p, hp, _⟩ => absurd hp (by omega))
  refine r_int dX5_undo_11 ?_
  exact ⟨fun c hc => rfl, Or.inl ⟨rfl, rfl, rfl⟩⟩

set_option maxRecDepth 100000 in
set_option maxHeartbeats 4000000 in
theorem c_un1 {X : jX} {ad : Nat → Nat} {mem : Mem} {s : Rw} {o p L : Nat} {rows srows : Nat → Rw} {P : Nat → Int32}  (hC : CSt mem s o (p + 1) rows srows P L) : Cm X yX5_undo cX5_undo 1 (some .int) 4 ad [.ref 0] mem (CUn mem o (p + 1) rows srows P L) := by
  refine Cm.of (own := RX5) (nm := "undo") (by decide +kernel) rfl rfl rfl rfl ?_
  refine J_aload_n dX5_undo_0 rfl rfl ?_
  refine gX5_history wf_X5_22 dX5_undo_1 ?_
  refine J_aload_n dX5_undo_4 rfl rfl ?_
  refine gX5_backplane wf_X5_10 dX5_undo_5 ?_
  refine cVg wv_X5_202 (c_tb1 hC) dX5_undo_8 ob3 rfl rfl (kk := (fun v m9 hf => ?_))
  obtain ⟨p1, hp1, rfl, hC9⟩ := hf.2.resolve_left (fun g => absurd g.1 (by omega))
  refine r_int dX5_undo_11 ?_
  exact ⟨hf.1, Or.inr ⟨p1, hp1, rfl, hC9⟩⟩

theorem c_X5_undo {X : jX} {ad : Nat → Nat} {mem : Mem} {s : Rw} {o q L : Nat} {rows srows : Nat → Rw} {P : Nat → Int32} (hC : CSt mem s o q rows srows P L) : Cm X yX5_undo cX5_undo 1 (some .int) 4 ad [.ref 0] mem (CUn mem o q rows srows P L) := by
  cases q with
  | zero => exact c_un0 hC
  | succ p => exact c_un1 hC
/-- saving, by the class -/
def CSv (m : Mem) (x : Int32) (s : Rw) (o q : Nat) (rows srows : Nat → Rw) (P : Nat → Int32) (L : Nat) (v : Option Value) (m9 : Mem) : Prop := (jin x 0 1 = 0 ∧ v = some (.int (-2)) ∧ m9 = m) ∨ ∃ t, t < 2 ∧ x = nI t ∧ v = some (.int (s 5)) ∧ (∀ c, 195 ≤ c → m9 c = m c) ∧ CSt m9 s o q rows (fun j => if j = t then (fun k => if k < 302 then s k else 1) else srows j) P L
/-- bringing back, by the class -/
def CRe (m : Mem) (x : Int32) (s : Rw) (o q : Nat) (rows srows : Nat → Rw) (P : Nat → Int32) (L : Nat) (v : Option Value) (m9 : Mem) : Prop := (jin x 0 1 = 0 ∧ v = some (.int (-2)) ∧ m9 = m) ∨ ∃ t, t < 2 ∧ x = nI t ∧ ((srows t 302 = 0 ∧ v = some (.int (-5)) ∧ m9 = m) ∨ (¬ srows t 302 = 0 ∧ v = some (.int (srows t 5)) ∧ (∀ c, 195 ≤ c → m9 c = m c) ∧ Stl m9 (srows t 5) s (srows t) o q rows srows P L))
set_option maxRecDepth 100000 in
set_option maxHeartbeats 4000000 in
theorem c_X5_save {X : jX} {ad : Nat → Nat} {mem : Mem} {s : Rw} {o q L : Nat} {rows srows : Nat → Rw} {P : Nat → Int32} {x : Int32} (hC : CSt mem s o q rows srows P L) : Cm X yX5_save cX5_save 2 (some .int) 3 ad [.ref 0, .int x] mem (CSv mem x s o q rows srows P L) := by
  refine Cm.of (own := RX5) (nm := "save") (by decide +kernel) rfl rfl rfl rfl ?_
  obtain ⟨hR, hV⟩ := Sh2_n hC.1
  have hn8 := hV.1.1
  refine J_iload_n dX5_save_0 rfl rfl ?_
  refine J_iconst (v := 0) dX5_save_1 (by decide) ?_
  refine J_iconst (v := 1) dX5_save_2 (by decide) ?_
  refine cSi ws_X5_146 c_X5_isIn dX5_save_3 (kk := ?_)
  have h3j := True.intro
  refine J_if_ne (tgt := 12) dX5_save_6 (by decide) (fun h6 => ?_) (fun h6 => ?_)
  · obtain ⟨t, ht, rfl⟩ := jin_nat (n := 1) (by decide) rfl h6
    have ht : t < 2 := by omega
    refine J_aload_n dX5_save_12 rfl rfl ?_
    refine gX5_saved wf_X5_33 dX5_save_13 ?_
    refine J_iload_n dX5_save_16 rfl rfl ?_
    refine al_savedB (k := t) (nI_cl (by omega)) dX5_save_17 (nIin (by omega) (by decide)) ?_
    refine J_aload_n dX5_save_18 rfl rfl ?_
    refine gX5_backplane wf_X5_10 dX5_save_19 ?_
    refine cVg wv_X5_165 (c_X0_copyFrom (isBv ht) isB1 (by omega) hV hR) dX5_save_22 (ob0 (by first | assumption | exact isB1 | exact isB18 | exact isBv ht)) rfl rfl (kk := (fun v m1 hf => ?_))
    obtain ⟨rfl, hO, hR9⟩ := hf
    refine J_aload_n dX5_save_25 rfl rfl ?_
    refine gX5_isSaved wf_X5_37 dX5_save_26 ?_
    refine J_iload_n dX5_save_29 rfl rfl ?_
    refine J_iconst (v := 1) dX5_save_30 (by decide) ?_
    refine as_saved dX5_save_31 (nIin (by omega) (by decide)) ?_
    refine J_aload_n dX5_save_32 rfl rfl ?_
    refine gX5_backplane wf_X5_10 dX5_save_33 ?_
    refine gX0_boardCount (by first | assumption | exact isB1 | exact isB18 | exact isBv ht) wf_X5_206 dX5_save_36 ?_
    refine J_topi (fun z9 hz9 => ?_)
    obtain rfl : z9 = (s 5) := hz9.trans (by rw [up_ne (by decide), hO 1 (by omega)]; exact hR.1.1.trans hV.1.2.1.symm)
    clear hz9
    refine r_int dX5_save_39 ?_
    rw [nI_cl (by omega)]
    exact Or.inr ⟨t, ht, rfl, rfl, fun c hc => (up_ne (by omega)).trans (hO c (by omega)), CSt_save ht hC hO ⟨_, _, hR9, hV⟩⟩
  · refine J_bipush (v := -2) dX5_save_9 (by decide) ?_
    refine r_int dX5_save_11 ?_
    exact Or.inl ⟨h6, rfl, rfl⟩

set_option maxRecDepth 100000 in
set_option maxHeartbeats 4000000 in
theorem c_X5_restore {X : jX} {ad : Nat → Nat} {mem : Mem} {s : Rw} {o q L : Nat} {rows srows : Nat → Rw} {P : Nat → Int32} {x : Int32} (hC : CSt mem s o q rows srows P L) : Cm X yX5_restore cX5_restore 2 (some .int) 4 ad [.ref 0, .int x] mem (CRe mem x s o q rows srows P L) := by
  refine Cm.of (own := RX5) (nm := "restore") (by decide +kernel) rfl rfl rfl rfl ?_
  refine J_iload_n dX5_restore_0 rfl rfl ?_
  refine J_iconst (v := 0) dX5_restore_1 (by decide) ?_
  refine J_iconst (v := 1) dX5_restore_2 (by decide) ?_
  refine cSi ws_X5_146 c_X5_isIn dX5_restore_3 (kk := ?_)
  refine J_if_ne (tgt := 12) dX5_restore_6 (by decide) (fun h6 => ?_) (fun h6 => ?_)
  · obtain ⟨t, ht, rfl⟩ := jin_nat (n := 1) (by decide) rfl h6
    have ht : t < 2 := by omega
    refine J_aload_n dX5_restore_12 rfl rfl ?_
    refine gX5_isSaved wf_X5_37 dX5_restore_13 ?_
    refine J_iload_n dX5_restore_16 rfl rfl ?_
    refine al_saved dX5_restore_17 (nIin (k := t) (by omega) (by decide)) ?_
    refine J_topi (fun z9 hz9 => ?_)
    obtain rfl : z9 = (srows t 302) := hz9.trans (by rw [nI_cl (by omega)]; exact (hC.2.2.1 t ht).1)
    clear hz9
    refine J_if_ne (tgt := 24) dX5_restore_18 (by decide) (fun h18 => ?_) (fun h18 => ?_)
    · refine J_aload_n dX5_restore_24 rfl rfl ?_
      refine gX5_history wf_X5_22 dX5_restore_25 ?_
      refine J_aload_n dX5_restore_28 rfl rfl ?_
      refine gX5_backplane wf_X5_10 dX5_restore_29 ?_
      refine cVg wv_X5_41 (c_X3_prepare hC) dX5_restore_32 ob3 rfl rfl (kk := (fun v m1 hf => ?_))
      obtain ⟨rfl, ho, hP⟩ := hf
      obtain ⟨n2, w2, hR2, hV2⟩ := ((hP.1.2.2.1 t ht).2.resolve_left h18).2
      refine J_aload_n dX5_restore_35 rfl rfl ?_
      refine gX5_backplane wf_X5_10 dX5_restore_36 ?_
      refine J_aload_n dX5_restore_39 rfl rfl ?_
      refine gX5_saved wf_X5_33 dX5_restore_40 ?_
      refine J_iload_n dX5_restore_43 rfl rfl ?_
      refine al_savedB (k := t) (nI_cl (by omega)) dX5_restore_44 (nIin (by omega) (by decide)) ?_
      refine cVg wv_X5_165 (c_X0_copyFrom isB1 (isBv ht) (by omega) hV2 hR2) dX5_restore_45 (ob0 (by first | assumption | exact isB1 | exact isB18)) rfl rfl (kk := (fun v m2 hf => ?_))
      obtain ⟨rfl, hO, hR9⟩ := hf
      refine J_aload_n dX5_restore_48 rfl rfl ?_
      refine gX5_history wf_X5_22 dX5_restore_49 ?_
      refine J_aload_n dX5_restore_52 rfl rfl ?_
      refine gX5_backplane wf_X5_10 dX5_restore_53 ?_
      refine gX0_boardCount (by first | assumption | exact isB1 | exact isB18) wf_X5_206 dX5_restore_56 ?_
      refine J_topi (fun z9 hz9 => ?_)
      obtain rfl : z9 = (srows t 5) := hz9.trans (by exact hR9.1.1.trans hV2.1.2.1.symm)
      clear hz9
      refine cVg wv_X5_49 (c_X3_settle (Mid_out hP hO ⟨_, _, hR9, hV2⟩)) dX5_restore_59 ob3 rfl rfl (kk := (fun v m9 hf => ?_))
      obtain ⟨rfl, hf2, hf3⟩ := hf
      refine r_int dX5_restore_62 ?_
      exact Or.inr ⟨t, ht, rfl, Or.inr ⟨h18, rfl, fun c hc => (hf2 c hc).trans ((hO c (by omega)).trans (ho c hc)), hf3⟩⟩
    · refine J_bipush (v := -5) dX5_restore_21 (by decide) ?_
      refine r_int dX5_restore_23 ?_
      exact Or.inr ⟨t, ht, rfl, Or.inl ⟨h18, rfl, rfl⟩⟩
  · refine J_bipush (v := -2) dX5_restore_9 (by decide) ?_
    refine r_int dX5_restore_11 ?_
    exact Or.inl ⟨h6, rfl, rfl⟩

