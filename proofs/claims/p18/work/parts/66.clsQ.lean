theorem Rep_up {B : Mem} {s : Rw} {n w i k : Nat} {v : Int32} (h : Rep B s n w) (hi : i < 8) (hk : k < 9) : Rep (up B (3 + i) k v) (upd s (fb i k) v) n w := by
  obtain ⟨h1, h2, h3, h4⟩ := h
  have e : ∀ x, 94 ≤ x → upd s (fb i k) v x = s x := fun x hx => upd_fbx hi (by omega) (by omega)
  exact ⟨RpB_up h1 hi hk, RpW_row (RpW_blk h2 (fun r hr => up_ne (by omega))) e, by rw [up_ne (by omega), e 297 (by decide)]; exact h3, by rw [up_ne (by omega), e 298 (by decide)]; exact h4⟩
theorem Rep_set {B : Mem} {s : Rw} {n w k : Nat} {v : Int32} (h : Rep B s n w) (hn : n ≤ 8) (hk : k < 5) : Rep (up B 1 k v) (upd s k v) n w := by
  obtain ⟨⟨g1, g2, g3⟩, h2, h3, h4⟩ := h
  have e : ∀ x, x ≠ k → upd s k v x = s x := fun x hx => by rw [upd_at, if_neg hx]
  refine ⟨⟨by rw [up_ne (by decide)]; exact g1, fun j hj => ?_, fun i hi => ⟨fun l hl => ?_, ?_⟩⟩, RpW_row (RpW_blk h2 (fun r hr => up_ne (by omega))) (fun x hx => e x (by omega)), by rw [up_ne (by decide), e 297 (by omega)]; exact h3, by rw [up_ne (by decide), e 298 (by omega)]; exact h4⟩
  · rw [up_rr, upd_at]
    by_cases q : j = k
    · rw [if_pos q, if_pos q]
    · rw [if_neg q, if_neg q]; exact g2 j hj
  · rw [up_ne (by omega), e _ (by unfold fb; omega)]; exact (g3 i hi).1 l hl
  · rw [up_ne (by omega), e _ (by unfold fb; omega)]; exact (g3 i hi).2
theorem lst_tab : ∀ k, k < 5 → [(0 : Int32), 1, 1, 1, 10].getD (nI k).toNatClampNeg 0 = lst (nI k) := by decide
theorem mst_tab : ∀ k, k < 5 → [(1 : Int32), 50, 9, 9, 300].getD (nI k).toNatClampNeg 0 = mst (nI k) := by decide
theorem jk5 {k : Nat} (hk : k < 5) : vp_in (nI k) 5 := nIin hk (by decide)
def ChFin (m : Mem) (b : Nat) (r : Int32 × Rw) (n w : Nat) (v : Option Value) (m9 : Mem) : Prop := v = some (.int r.1) ∧ ∃ B9, m9 = SB m b B9 ∧ Rep B9 r.2 n w
theorem ch_err {m B : Mem} {b n w : Nat} {s : Rw} {a : Int32} (h : Rep B s n w) : ChFin m b (a, s) n w (some (.int a)) (SB m b B) := ⟨rfl, B, rfl, h⟩
set_option maxRecDepth 100000 in
set_option maxHeartbeats 4000000 in
theorem c_X0_changeSetting {X : jX} {ad : Nat → Nat} {m B : Mem} {b : Nat} {s : Rw} {n w : Nat} {x v : Int32} (hb : isB b) (hV : Rv s n w) (hRp : Rep B s n w) (had : ∀ k, ad (1000 + k) = jx X k) : Cm X yX0_changeSetting cX0_changeSetting 4 (some .int) 1 ad [.ref b, .int x, .int v] (SB m b B) (ChFin m b (stF s x v) n w) := by
  refine Cm.of (own := RX0) (nm := "changeSetting") (by decide +kernel) rfl rfl rfl rfl ?_
  have hn8 := hV.1.1
  refine J_iload_n dX0_changeSetting_0 rfl rfl ?_
  refine J_iconst (v := 0) dX0_changeSetting_1 (by decide) ?_
  refine J_iconst (v := 4) dX0_changeSetting_2 (by decide) ?_
  refine cSNi ws_X0_103 c_X5_isIn dX0_changeSetting_3 (kk := ?_)
  refine J_if_ne (tgt := 12) dX0_changeSetting_6 (by decide) (fun h6 => ?_) (fun h6 => ?_)
  · obtain ⟨k, hk, rfl⟩ := jin_nat (n := 4) (by decide) rfl h6
    refine J_iload_n dX0_changeSetting_12 rfl rfl ?_
    refine J_getsN (n := 1000 + 1) (nme := "LOWEST_SETTINGS") 1 (by rw [had 1]; rfl) wn_X0_107 dX0_changeSetting_13 ?_
    refine J_iload_n dX0_changeSetting_16 rfl rfl ?_
    refine J_ti 0 (by rw [had 1]; rfl) (jk5 (by omega)) rfl dX0_changeSetting_17 ?_
    refine J_topi (fun z9 hz9 => ?_)
    obtain rfl : z9 = (lst (nI k)) := hz9.trans (by exact lst_tab k (by omega))
    clear hz9
    refine J_getsN (n := 1000 + 2) (nme := "HIGHEST_SETTINGS") 2 (by rw [had 2]; rfl) wn_X0_110 dX0_changeSetting_18 ?_
    refine J_iload_n dX0_changeSetting_21 rfl rfl ?_
    refine J_ti 1 (by rw [had 2]; rfl) (jk5 (by omega)) rfl dX0_changeSetting_22 ?_
    refine J_topi (fun z9 hz9 => ?_)
    obtain rfl : z9 = (mst (nI k)) := hz9.trans (by exact mst_tab k (by omega))
    clear hz9
    refine cSNi ws_X0_103 c_X5_isIn dX0_changeSetting_23 (kk := ?_)
    refine J_if_ne (tgt := 32) dX0_changeSetting_26 (by decide) (fun h26 => ?_) (fun h26 => ?_)
    · refine J_aload_n dX0_changeSetting_32 rfl rfl ?_
      refine gX0_settings (by first | assumption | exact isB1 | exact isB18) wf_X0_18 dX0_changeSetting_33 ?_
      refine J_iload_n dX0_changeSetting_36 rfl rfl ?_
      refine rB_set hb k (by omega) rfl dX0_changeSetting_37 ?_
      refine J_topi (fun z9 hz9 => ?_)
      obtain rfl : z9 = (s k) := hz9.trans (by exact hRp.1.2.1 k (by omega))
      clear hz9
      refine J_istore_n dX0_changeSetting_38 rfl rfl rfl ?_
      refine J_aload_n dX0_changeSetting_39 rfl rfl ?_
      refine gX0_settings (by first | assumption | exact isB1 | exact isB18) wf_X0_18 dX0_changeSetting_40 ?_
      refine J_iload_n dX0_changeSetting_43 rfl rfl ?_
      refine J_iload_n dX0_changeSetting_44 rfl rfl ?_
      refine wB_set hb k (by omega) rfl dX0_changeSetting_45 ?_
      refine J_iload_n dX0_changeSetting_46 rfl rfl ?_
      refine r_int dX0_changeSetting_47 ?_
      have e : stF s (nI k) v = (s k, upd s k v) := by unfold stF; rw [if_neg h6, if_neg h26, show (nI k).toNatClampNeg = k from nI_cl (by omega)]
      rw [e]
      exact ⟨rfl, _, rfl, Rep_set hRp hn8 (by omega)⟩
    · refine J_bipush (v := -2) dX0_changeSetting_29 (by decide) ?_
      refine r_int dX0_changeSetting_31 ?_
      have e : stF s (nI k) v = (-2, s) := by unfold stF; rw [if_neg h6, if_pos h26]
      rw [e]
      exact ch_err hRp
  · refine J_bipush (v := -2) dX0_changeSetting_9 (by decide) ?_
    refine r_int dX0_changeSetting_11 ?_
    have e : stF s x v = (-2, s) := by unfold stF; rw [if_pos h6]
    rw [e]
    exact ch_err hRp

theorem lt8 : ∀ n, n < 9 → (nI n < 8 ↔ n < 8) := by decide
theorem Rep_new {B : Mem} {s : Rw} {n w : Nat} {x y : Int32} (h : Rep B s n w) (hn : n < 8) (hZ : Zr s n) : Rep (up (up (up (up (up (up (up (up (up (up (up B (3 + n) 0 x) (3 + n) 1 y) (3 + n) 2 (-6)) (3 + n) 3 0) (3 + n) 4 0) (3 + n) 5 0) (3 + n) 6 0) (3 + n) 7 0) (3 + n) 8 0) (3 + n) 9 0) 0 3 (nI n + 1)) (nwB s n x y) (n + 1) w := by
  obtain ⟨⟨g1, g2, g3⟩, h2, h3, h4⟩ := h
  have eo : ∀ r, r ≠ 0 → r ≠ 3 + n → up (up (up (up (up (up (up (up (up (up (up B (3 + n) 0 x) (3 + n) 1 y) (3 + n) 2 (-6)) (3 + n) 3 0) (3 + n) 4 0) (3 + n) 5 0) (3 + n) 6 0) (3 + n) 7 0) (3 + n) 8 0) (3 + n) 9 0) 0 3 (nI n + 1) r = B r := fun r h0 h1 => by
    rw [up_ne h0, up_ne h1, up_ne h1, up_ne h1, up_ne h1, up_ne h1, up_ne h1, up_ne h1, up_ne h1, up_ne h1, up_ne h1]
  have e0 : ∀ k, k ≠ 3 → up (up (up (up (up (up (up (up (up (up (up B (3 + n) 0 x) (3 + n) 1 y) (3 + n) 2 (-6)) (3 + n) 3 0) (3 + n) 4 0) (3 + n) 5 0) (3 + n) 6 0) (3 + n) 7 0) (3 + n) 8 0) (3 + n) 9 0) 0 3 (nI n + 1) 0 k = B 0 k := fun k hk => by
    have h1 : 0 ≠ 3 + n := by omega
    rw [up_rr, if_neg hk, up_ne h1, up_ne h1, up_ne h1, up_ne h1, up_ne h1, up_ne h1, up_ne h1, up_ne h1, up_ne h1, up_ne h1]
  have en : ∀ k, up (up (up (up (up (up (up (up (up (up (up B (3 + n) 0 x) (3 + n) 1 y) (3 + n) 2 (-6)) (3 + n) 3 0) (3 + n) 4 0) (3 + n) 5 0) (3 + n) 6 0) (3 + n) 7 0) (3 + n) 8 0) (3 + n) 9 0) 0 3 (nI n + 1) (3 + n) k = if k = 9 then 0 else if k = 8 then 0 else if k = 7 then 0 else if k = 6 then 0 else if k = 5 then 0 else if k = 4 then 0 else if k = 3 then 0 else if k = 2 then -6 else if k = 1 then y else if k = 0 then x else B (3 + n) k := fun k => by
    rw [up_ne (show 3 + n ≠ 0 by omega), up_rr, up_rr, up_rr, up_rr, up_rr, up_rr, up_rr, up_rr, up_rr, up_rr]
  have ez : ∀ k, 3 ≤ k → k < 11 → k ≠ 9 → nwB s n x y (fb n k) = 0 := fun k h1 h2 h3 => (nwB_fb (Or.inr h1) h2).trans (hZ n k (Nat.le_refl _) hn h1 h2 h3)
  have ehi : ∀ z, 94 ≤ z → nwB s n x y z = s z := fun z hz => nwB_at (by omega) (by unfold fb; omega) (by unfold fb; omega) (by unfold fb; omega)
  refine ⟨⟨by rw [up_rr, if_pos rfl, nI_succ], fun k hk => ?_, fun i hi => ?_⟩, RpW_row (RpW_blk h2 (fun r hr => eo r (by omega) (by omega))) ehi, by rw [e0 4 (by decide), ehi 297 (by decide)]; exact h3, by rw [e0 5 (by decide), ehi 298 (by decide)]; exact h4⟩
  · rw [eo 1 (by decide) (by omega), nwB_at (by omega) (by unfold fb; omega) (by unfold fb; omega) (by unfold fb; omega)]; exact g2 k hk
  · by_cases hin : i = n
    · subst hin
      have f0 : nwB s i x y (fb i 0) = x := by unfold nwB; rw [upd_fbn (by decide), upd_fbn (by decide), upd_same]
      have f1 : nwB s i x y (fb i 1) = y := by unfold nwB; rw [upd_fbn (by decide), upd_same]
      have f2 : nwB s i x y (fb i 2) = -6 := by unfold nwB; rw [upd_same]
      refine ⟨fun k hk => ?_, by rw [en, if_pos rfl, ez 10 (by decide) (by decide) (by decide)]⟩
      match k, hk with
      | 0, _ => rw [en, f0]; rfl
      | 1, _ => rw [en, f1]; rfl
      | 2, _ => rw [en, f2]; rfl
      | 3, _ => rw [en, ez 3 (by decide) (by decide) (by decide)]; rfl
      | 4, _ => rw [en, ez 4 (by decide) (by decide) (by decide)]; rfl
      | 5, _ => rw [en, ez 5 (by decide) (by decide) (by decide)]; rfl
      | 6, _ => rw [en, ez 6 (by decide) (by decide) (by decide)]; rfl
      | 7, _ => rw [en, ez 7 (by decide) (by decide) (by decide)]; rfl
      | 8, _ => rw [en, ez 8 (by decide) (by decide) (by decide)]; rfl
    · have e1 := eo (3 + i) (by omega) (by omega)
      refine ⟨fun k hk => ?_, ?_⟩
      · rw [e1, nwB_fb (Or.inl hin) (by omega)]; exact (g3 i (by omega)).1 k hk
      · rw [e1, nwB_fb (Or.inl hin) (by decide)]; exact (g3 i (by omega)).2
set_option maxRecDepth 100000 in
set_option maxHeartbeats 4000000 in
theorem c_X0_addBoard {X : jX} {ad : Nat → Nat} {m B : Mem} {b : Nat} {s : Rw} {n w : Nat} {x y : Int32} (hb : isB b) (hV : Rv s n w) (hRp : Rep B s n w) : Cm X yX0_addBoard cX0_addBoard 4 (some .int) 1 ad [.ref b, .int x, .int y] (SB m b B) (fun r9 m9 => r9 = some (.int (coF s n x y).1) ∧ ∃ B9 n9, m9 = SB m b B9 ∧ Rep B9 (coF s n x y).2 n9 w ∧ Rv (coF s n x y).2 n9 w) := by
  refine Cm.of (own := RX0) (nm := "addBoard") (by decide +kernel) rfl rfl rfl rfl ?_
  have hn8 := hV.1.1
  refine J_iload_n dX0_addBoard_0 rfl rfl ?_
  refine J_iconst (v := 0) dX0_addBoard_1 (by decide) ?_
  refine J_bipush (v := 99) dX0_addBoard_2 (by decide) ?_
  refine cSNi ws_X0_103 c_X5_isIn dX0_addBoard_4 (kk := ?_)
  refine J_if_eq (tgt := 20) dX0_addBoard_7 (by decide) (fun h7 => ?_) (fun h7 => ?_)
  · refine J_bipush (v := -2) dX0_addBoard_20 (by decide) ?_
    refine r_int dX0_addBoard_22 ?_
    have e : coF s n x y = (-2, s) := by unfold coF; first | rw [if_pos h7] | rw [if_neg h7, if_pos h17]
    rw [e]
    exact ⟨rfl, B, n, rfl, hRp, hV⟩
  · refine J_iload_n dX0_addBoard_10 rfl rfl ?_
    refine J_iconst (v := 1) dX0_addBoard_11 (by decide) ?_
    refine J_bipush (v := 60) dX0_addBoard_12 (by decide) ?_
    refine cSNi ws_X0_103 c_X5_isIn dX0_addBoard_14 (kk := ?_)
    refine J_if_ne (tgt := 23) dX0_addBoard_17 (by decide) (fun h17 => ?_) (fun h17 => ?_)
    · refine J_aload_n dX0_addBoard_23 rfl rfl ?_
      refine gB_boardCount (by first | assumption | exact isB1 | exact isB18) wf_X0_43 dX0_addBoard_24 ?_
      refine J_topi (fun z9 hz9 => ?_)
      obtain rfl : z9 = (nI n) := hz9.trans (by exact hRp.1.1)
      clear hz9
      refine J_bipush (v := 8) dX0_addBoard_27 (by decide) ?_
      refine J_icmp_lt (tgt := 35) dX0_addBoard_29 (by decide) (fun h29 => ?_) (fun h29 => ?_)
      · have hlt : n < 8 := (lt8 n (by omega)).1 h29
        refine J_aload_n dX0_addBoard_35 rfl rfl ?_
        refine gB_boardCount (by first | assumption | exact isB1 | exact isB18) wf_X0_43 dX0_addBoard_36 ?_
        refine J_topi (fun z9 hz9 => ?_)
        obtain rfl : z9 = (nI n) := hz9.trans (by exact hRp.1.1)
        clear hz9
        refine J_istore_n dX0_addBoard_39 rfl rfl rfl ?_
        refine J_aload_n dX0_addBoard_40 rfl rfl ?_
        refine gX0_boards (by first | assumption | exact isB1 | exact isB18) wf_X0_25 dX0_addBoard_41 ?_
        refine J_iload_n dX0_addBoard_44 rfl rfl ?_
        refine al_boards hb (k := n) (nI_cl (by omega)) dX0_addBoard_45 (nIin (by omega) (by decide)) ?_
        refine J_iload_n dX0_addBoard_46 rfl rfl ?_
        refine J_iload_n dX0_addBoard_47 rfl rfl ?_
        refine cVv wv_X0_113 (c_X1_begin hb (i := n) (by omega)) dX0_addBoard_48 (ob1 (by first | assumption | exact isB1 | exact isB18) (by first | assumption | omega)) rfl rfl (kk := ?_)
        refine J_aload_n dX0_addBoard_51 rfl rfl ?_
        refine J_dup dX0_addBoard_52 rfl ?_
        refine gB_boardCount (by first | assumption | exact isB1 | exact isB18) wf_X0_43 dX0_addBoard_53 ?_
        refine J_topi (fun z9 hz9 => ?_)
        obtain rfl : z9 = (nI n) := hz9.trans (by rw [up_ne (by omega), up_ne (by omega), up_ne (by omega), up_ne (by omega), up_ne (by omega), up_ne (by omega), up_ne (by omega), up_ne (by omega), up_ne (by omega), up_ne (by omega)]; exact hRp.1.1)
        clear hz9
        refine J_iconst (v := 1) dX0_addBoard_56 (by decide) ?_
        refine J_iadd dX0_addBoard_57 ?_
        refine pB_boardCount (by first | assumption | exact isB1 | exact isB18) wf_X0_43 dX0_addBoard_58 ?_
        refine J_iload_n dX0_addBoard_61 rfl rfl ?_
        refine r_int dX0_addBoard_62 ?_
        have e : coF s n x y = (nI n, nwB s n x y) := by unfold coF; rw [if_neg h7, if_neg h17, if_neg (show ¬ nI n = 8 from fun g => by have := nI_ij (by omega) (by decide) (show nI n = nI 8 from g); omega)]; rfl
        have hv2 : Rv (nwB s n x y) (n + 1) w := by
          rcases Rv_co (x := x) (y := y) hV with ⟨q1, q2⟩ | ⟨-, -, -, -, q⟩
          · rw [e] at q1; exact absurd q1 (nI_lt0 (by omega))
          · exact q
        rw [e]
        exact ⟨rfl, _, n + 1, rfl, Rep_new hRp hlt hV.1.2.2.2.2, hv2⟩
      · refine J_bipush (v := -4) dX0_addBoard_32 (by decide) ?_
        refine r_int dX0_addBoard_34 ?_
        have h9 : ¬ n < 8 := fun g => h29 ((lt8 n (by omega)).2 g)
        have h99 : n = 8 := by omega
        have e : coF s n x y = (-4, s) := by unfold coF; rw [if_neg h7, if_neg h17, if_pos (show nI n = 8 by rw [h99]; rfl)]
        rw [e]
        exact ⟨rfl, B, n, rfl, hRp, hV⟩
    · refine J_bipush (v := -2) dX0_addBoard_20 (by decide) ?_
      refine r_int dX0_addBoard_22 ?_
      have e : coF s n x y = (-2, s) := by unfold coF; first | rw [if_pos h7] | rw [if_neg h7, if_pos h17]
      rw [e]
      exact ⟨rfl, B, n, rfl, hRp, hV⟩

