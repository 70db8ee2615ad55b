theorem ie_y {s : Rw} {n : Nat} {x z y : Int32} (hy : ¬ jin y 1 24 = 0) : ieA s n x z y = ieA s n x z 24 := by
  have h24 : ¬ jin 24 1 24 = 0 := by decide
  have e : (plF s n x z y).1 = (plF s n x z 24).1 := by
    unfold plF
    by_cases h1 : jin x 0 (nI n - 1) = 0
    · rw [if_pos h1, if_pos h1]
    rw [if_neg h1, if_neg h1]
    by_cases h2 : jin z 0 4 = 0
    · rw [if_pos h2, if_pos h2]
    rw [if_neg h2, if_neg h2, if_neg hy, if_neg h24]
    by_cases h3 : plK s n x.toNatClampNeg z = 0
    · rw [if_pos h3, if_pos h3]
    rw [if_neg h3, if_neg h3]
    by_cases h4 : s (fb x.toNatClampNeg 3) = 24
    · rw [if_pos h4, if_pos h4]
    rw [if_neg h4, if_neg h4]
  unfold ieA
  rw [e]
theorem sp24 : ∀ k, k < 24 → ¬ nI (k + 1) < 1 ∧ ¬ jin (nI (k + 1)) 1 24 = 0 := by decide
theorem Out_rf {m : Mem} {b : Nat} : Out m m b := fun _ _ => rfl
theorem Out_tr {m m1 m2 : Mem} {b : Nat} (h : Out m m1 b) (h2 : Out m1 m2 b) : Out m m2 b := fun c hc => (h2 c hc).trans (h c hc)
set_option maxRecDepth 100000 in
set_option maxHeartbeats 4000000 in
theorem ssLoopC {X : jX} {ad : Nat → Nat} {mem : Mem} {s : Rw} {o q L : Nat} {rows srows : Nat → Rw} {P : Nat → Int32} {p : Nat} {z e a : Int32} (hC : CSt mem s o q rows srows P L) (hp : p < nOf s) (he : ¬ ieA s (nOf s) (nI p) z 24 < 0) : ∀ (k : Nat) (m : Mem), k ≤ 24 → Out mem m 18 → a = ssF s (nOf s) (wOf s) (nI p) z k → Jg X RX5 cX5_safeSpeed 5 (some .int) "safeSpeed" 6 0 0 (QF X ad (CQu mem a s o q rows srows P L)) ad 0 0 22 [(0, .ref 0), (1, .int (nI p)), (2, .int z), (3, .int e), (4, .int (nI k))] [] (WS X ad m) := by
  have hn8 := (Sh2_n hC.1).2.1.1
  intro k
  induction k with
  | zero =>
    intro m hk hO ha
    refine J_iload dX5_safeSpeed_22 rfl ?_
    refine J_iconst (v := 1) dX5_safeSpeed_24 (by decide) ?_
    refine J_icmp_lt (tgt := 48) dX5_safeSpeed_25 (by decide) (fun h25 => ?_) (fun h25 => absurd (show nI 0 < 1 by decide) h25)
    refine J_bipush (v := -6) dX5_safeSpeed_48 (by decide) ?_
    refine r_int dX5_safeSpeed_50 ?_
    rw [show a = -6 from ha]
    exact CQu_tr hC hO
  | succ k ih =>
    intro m hk hO ha
    have hb2 := hb_2 (w := wOf s) (p := p) (by omega) (by rw [ie_y (sp24 k (by omega)).2]; exact he)
    refine J_iload dX5_safeSpeed_22 rfl ?_
    refine J_iconst (v := 1) dX5_safeSpeed_24 (by decide) ?_
    refine J_icmp_lt (tgt := 48) dX5_safeSpeed_25 (by decide) (fun h25 => absurd h25 (sp24 k (by omega)).1) (fun h25 => ?_)
    refine J_aload_n dX5_safeSpeed_28 rfl rfl ?_
    refine J_iload_n dX5_safeSpeed_29 rfl rfl ?_
    refine J_iload_n dX5_safeSpeed_30 rfl rfl ?_
    refine J_iload dX5_safeSpeed_31 rfl ?_
    refine cVg wv_X5_174 (c_X5_hurtsByPlug (CSt_tr hC hO) hp) dX5_safeSpeed_33 ob5 rfl rfl (kk := (fun v m9 hf => ?_))
    obtain ⟨rfl, hO2⟩ := hf
    rw [← hb2]
    refine J_if_ne (tgt := 42) dX5_safeSpeed_36 (by decide) (fun h36 => ?_) (fun h36 => ?_)
    · refine J_iinc (v := _ + (-1)) dX5_safeSpeed_42 rfl rfl rfl rfl ?_
      rw [← Int32.sub_eq_add_neg, nI_pred]
      refine J_goto (tgt := 22) dX5_safeSpeed_45 (by decide) ?_
      exact ih _ (by omega) (Out_tr hO hO2) (ha.trans (if_neg h36))
    · refine J_iload dX5_safeSpeed_39 rfl ?_
      refine r_int dX5_safeSpeed_41 ?_
      rw [show a = nI (k + 1) from ha.trans (if_pos h36)]
      exact CQu_tr hC (Out_tr hO hO2)

set_option maxRecDepth 100000 in
set_option maxHeartbeats 4000000 in
theorem c_ssV {X : jX} {ad : Nat → Nat} {mem : Mem} {s : Rw} {o q L : Nat} {rows srows : Nat → Rw} {P : Nat → Int32} {p : Nat} {z : Int32} (hC : CSt mem s o q rows srows P L) (hp : p < nOf s) : Cm X yX5_safeSpeed cX5_safeSpeed 5 (some .int) 6 ad [.ref 0, .int (nI p), .int z] mem (CQu mem (ssC s (nOf s) (wOf s) (nI p) z) s o q rows srows P L) := by
  refine Cm.of (own := RX5) (nm := "safeSpeed") (by decide +kernel) rfl rfl rfl rfl ?_
  obtain ⟨hR, hV⟩ := Sh2_n hC.1
  have hn8 := hV.1.1
  refine J_aload_n dX5_safeSpeed_0 rfl rfl ?_
  refine gX5_backplane wf_X5_10 dX5_safeSpeed_1 ?_
  refine J_iload_n dX5_safeSpeed_4 rfl rfl ?_
  refine J_iload_n dX5_safeSpeed_5 rfl rfl ?_
  refine J_bipush (v := 24) dX5_safeSpeed_6 (by decide) ?_
  rw [ws_b (b := 1)]
  refine cVi wv_X5_171 (c_ieV isB1 hV hR hp) dX5_safeSpeed_8 (ob0 (by first | assumption | exact isB1 | exact isB18)) rfl rfl (kk := ?_)
  refine J_istore_n dX5_safeSpeed_11 rfl rfl rfl ?_
  refine J_iload_n dX5_safeSpeed_12 rfl rfl ?_
  refine J_if_ge (tgt := 18) dX5_safeSpeed_13 (by decide) (fun h13 => ?_) (fun h13 => ?_)
  · refine J_bipush (v := 24) dX5_safeSpeed_18 (by decide) ?_
    refine J_istore dX5_safeSpeed_20 rfl rfl ?_
    rw [SB_self]
    have he := Int32.not_lt.mpr h13
    rw [show ssC s (nOf s) (wOf s) (nI p) z = ssF s (nOf s) (wOf s) (nI p) z 24 by unfold ssC; rw [if_neg he]]
    exact ssLoopC hC hp he 24 mem (Nat.le_refl _) Out_rf rfl
  · refine J_iload_n dX5_safeSpeed_16 rfl rfl ?_
    refine r_int dX5_safeSpeed_17 ?_
    exact ⟨by unfold ssC; rw [if_pos (Int32.not_le.mp h13)], fun c hc => by rw [SB_self], by rw [SB_self]; exact hC⟩

theorem c_X5_safeSpeed {X : jX} {ad : Nat → Nat} {mem : Mem} {s : Rw} {o q L : Nat} {rows srows : Nat → Rw} {P : Nat → Int32} {x z : Int32} (hC : CSt mem s o q rows srows P L) : Cm X yX5_safeSpeed cX5_safeSpeed 5 (some .int) 6 ad [.ref 0, .int x, .int z] mem (CQu mem (ssC s (nOf s) (wOf s) x z) s o q rows srows P L) := by
  by_cases hx : jin x 0 (nI (nOf s) - 1) = 0
  · exact c_ssN hC hx
  · obtain ⟨p, hp, rfl⟩ := jinB (Sh2_n hC.1).2.1.1 hx
    exact c_ssV hC hp
theorem nn6 : ∀ k, k < 200 → ¬ nI k = -6 := by decide +kernel
theorem wt_eq {s : Rw} {x : Int32} : ∀ w, w ≤ 200 → wtN s w = nI (wl s w).length ∧ wtF s x w = if wrA s w x = -6 then -1 else wrA s w x := by
  intro w
  induction w with
  | zero =>
    intro _
    refine ⟨rfl, ?_⟩
    show (-1 : Int32) = _
    rw [if_pos]
    unfold wrA
    by_cases h : x < 0
    · rw [if_pos h]
    · rw [if_neg h, if_pos (show nI (wl s 0).length ≤ x from Int32.not_lt.mp h)]
  | succ k ih =>
    intro hk
    obtain ⟨e1, e2⟩ := ih (by omega)
    have hl : (wl s k).length ≤ k := wl_len
    have hes := wl_succ (s := s) (j := k)
    by_cases h0 : wv s k / 64 % 4 = 0
    · rw [if_pos h0] at hes
      have hW : ¬ isW s k = 0 := by unfold isW; rw [h0]; decide
      unfold wtN wtF
      rw [if_neg hW, if_neg hW, hes, e1]
      refine ⟨by rw [List.length_append]; exact (nI_succ _).symm, ?_⟩
      unfold wrA
      rw [hes]
      by_cases hx : x < 0
      · rw [if_neg (fun g : nI (wl s k).length = x => nI_lt0 (k := (wl s k).length) (by omega) (g ▸ hx)), e2]
        unfold wrA
        rw [if_pos hx, if_pos hx]
      · rw [if_neg hx, List.length_append]
        have ex := nI_ofN hx
        have hxl : x.toNatClampNeg < 2147483648 := by have h3 : x.toNatClampNeg = x.toInt.toNat := rfl; have := x.toInt_lt; omega
        have cmp : ∀ a, a < 1000 → (nI a ≤ x ↔ a ≤ x.toNatClampNeg) := by
          intro a ha
          rw [Int32.le_iff_toInt_le, nI_toInt (by omega)]
          have h3 : x.toNatClampNeg = x.toInt.toNat := rfl
          rw [Int32.lt_iff_toInt_lt] at hx
          have h00 : (0 : Int32).toInt = 0 := rfl
          omega
        by_cases hj : x.toNatClampNeg = (wl s k).length
        · have ev : nI (wl s k).length = x := by rw [← hj]; exact ex.symm
          have nle : ¬ nI ((wl s k).length + [k].length) ≤ x := fun g => by
            have := (cmp _ (by show (wl s k).length + 1 < 1000; omega)).mp g
            have e : [k].length = 1 := rfl
            omega
          have eg : (wl s k ++ [k]).getD x.toNatClampNeg 0 = k := by
            rw [hj, List.getD_eq_getElem?_getD, List.getElem?_append_right (Nat.le_refl _), Nat.sub_self]; rfl
          rw [if_pos ev, if_neg nle, eg, if_neg (nn6 k (by omega))]
        · have ne : ¬ nI (wl s k).length = x := fun g => hj (by rw [← g]; exact nI_cl (by omega))
          rw [if_neg ne, e2]
          unfold wrA
          rw [if_neg hx]
          by_cases hlt : x.toNatClampNeg < (wl s k).length
          · have n1 : ¬ nI (wl s k).length ≤ x := fun g => by have := (cmp _ (by omega)).mp g; omega
            have n2 : ¬ nI ((wl s k).length + [k].length) ≤ x := fun g => by
              have := (cmp _ (by show (wl s k).length + 1 < 1000; omega)).mp g
              have e : [k].length = 1 := rfl
              omega
            have eg : (wl s k ++ [k]).getD x.toNatClampNeg 0 = (wl s k).getD x.toNatClampNeg 0 := by
              rw [List.getD_eq_getElem?_getD, List.getD_eq_getElem?_getD, List.getElem?_append_left hlt]
            rw [if_neg n1, if_neg n2, eg]
          · have n1 : nI (wl s k).length ≤ x := (cmp _ (by omega)).mpr (by omega)
            have n2 : nI ((wl s k).length + [k].length) ≤ x := (cmp _ (by show (wl s k).length + 1 < 1000; omega)).mpr (by
              have e : [k].length = 1 := rfl
              omega)
            rw [if_pos n1, if_pos n2]
    · rw [if_neg h0] at hes
      have hW : isW s k = 0 := by
        unfold isW
        rw [if_neg]
        intro g
        apply h0
        have h4 : wv s k / 64 % 4 < 4 := Nat.mod_lt _ (by decide)
        exact (show ∀ a, a < 4 → nI a = 0 → a = 0 by decide) _ h4 g
      unfold wtN wtF
      rw [if_pos hW, if_pos hW, hes]
      refine ⟨by rw [Int32.add_zero]; exact e1, ?_⟩
      rw [e2]
      unfold wrA
      rw [hes]
set_option maxRecDepth 100000 in
set_option maxHeartbeats 4000000 in
theorem c_X5_waiting {X : jX} {ad : Nat → Nat} {mem : Mem} {s : Rw} {o q L : Nat} {rows srows : Nat → Rw} {P : Nat → Int32} {x : Int32} (hC : CSt mem s o q rows srows P L) : Cd X yX5_waiting cX5_waiting 3 (some .int) 1 ad [.ref 0, .int x] mem (some (.int (wtF s x (wOf s)))) (mem) := by
  refine Cm.of (own := RX5) (nm := "waiting") (by decide +kernel) rfl rfl rfl rfl ?_
  obtain ⟨hR, hV⟩ := Sh2_n hC.1
  have hn8 := hV.1.1
  have h10 : (wl s (wOf s)).length ≤ 10 := by have := hV.2.2.2.2.1; unfold opA at this; omega
  have hw := hV.1.2.2.1.1.1
  have he := (wt_eq (s := s) (x := x) (wOf s) hw).2
  refine J_aload_n dX5_waiting_0 rfl rfl ?_
  refine gX5_backplane wf_X5_10 dX5_waiting_1 ?_
  refine gX0_bus (by first | assumption | exact isB1 | exact isB18) wf_X5_82 dX5_waiting_4 ?_
  refine J_iload_n dX5_waiting_7 rfl rfl ?_
  rw [ws_b (b := 1)]
  refine cVi wv_X5_91 (c_X2_wordAtRank isB1 hR.2.1.2.2.1 h10) dX5_waiting_8 (ob2 (by first | assumption | exact isB1 | exact isB18)) rfl rfl (kk := ?_)
  refine J_istore_n dX5_waiting_11 rfl rfl rfl ?_
  refine J_iload_n dX5_waiting_12 rfl rfl ?_
  refine J_bipush (v := -6) dX5_waiting_13 (by decide) ?_
  refine J_icmp_ne (tgt := 22) dX5_waiting_15 (by decide) (fun h15 => ?_) (fun h15 => ?_)
  · refine J_iload_n dX5_waiting_22 rfl rfl ?_
    refine r_int dX5_waiting_23 ?_
    first | exact ⟨by rw [he, if_pos h15], SB_self⟩ | exact ⟨by rw [he, if_neg h15], SB_self⟩
  · refine J_iconst (v := -1) dX5_waiting_18 (by decide) ?_
    refine J_goto (tgt := 23) dX5_waiting_19 (by decide) ?_
    refine r_int dX5_waiting_23 ?_
    first | exact ⟨by rw [he, if_pos h15], SB_self⟩ | exact ⟨by rw [he, if_neg h15], SB_self⟩

set_option maxRecDepth 100000 in
set_option maxHeartbeats 4000000 in
theorem c_X5_count {X : jX} {ad : Nat → Nat} {mem : Mem} {s : Rw} {o q L : Nat} {rows srows : Nat → Rw} {P : Nat → Int32} {y : Int32} (hC : CSt mem s o q rows srows P L) : Cm X yX5_count cX5_count 2 (some .int) 3 ad [.ref 0, .int y] mem (fun v m9 => (∃ a : Int32, v = some (.int a)) ∧ m9 = mem) := by
  refine Cm.of (own := RX5) (nm := "count") (by decide +kernel) rfl rfl rfl rfl ?_
  obtain ⟨hR, hV⟩ := Sh2_n hC.1
  have hn8 := hV.1.1
  refine J_iload_n dX5_count_0 rfl rfl ?_
  by_cases hts : y.toInt < 0 ∨ 19 < y.toInt
  · refine J_tableOut (tgt := 289) dX5_count_1 hts (by decide) ?_
    refine J_bipush (v := -2) dX5_count_289 (by decide) ?_
    refine r_int dX5_count_291 ?_
    exact ⟨⟨_, rfl⟩, by first | rfl | exact SB_self⟩
  · obtain ⟨k, hk, rfl⟩ := tin (n := 20) (m := 19) rfl hts
    match k, hk with
    | 0, _ =>
      refine J_tableIn (off := 95) (tgt := 96) dX5_count_1 (by decide) (by decide) (by decide) (by decide) ?_
      refine J_aload_n dX5_count_96 rfl rfl ?_
      refine gX5_backplane wf_X5_10 dX5_count_97 ?_
      refine gX0_time (by first | assumption | exact isB1 | exact isB18) wf_X5_94 dX5_count_100 ?_
      refine r_int dX5_count_103 ?_
      exact ⟨⟨_, rfl⟩, by first | rfl | exact SB_self⟩
    | 1, _ =>
      refine J_tableIn (off := 103) (tgt := 104) dX5_count_1 (by decide) (by decide) (by decide) (by decide) ?_
      refine J_aload_n dX5_count_104 rfl rfl ?_
      refine gX5_backplane wf_X5_10 dX5_count_105 ?_
      rw [ws_b (b := 1)]
      refine cVi wv_X5_98 (c_X0_boardSet isB1 hR.1 hn8) dX5_count_108 (ob0 (by first | assumption | exact isB1 | exact isB18)) rfl rfl (kk := ?_)
      refine r_int dX5_count_111 ?_
      exact ⟨⟨_, rfl⟩, by first | rfl | exact SB_self⟩
    | 2, _ =>
      refine J_tableIn (off := 111) (tgt := 112) dX5_count_1 (by decide) (by decide) (by decide) (by decide) ?_
      refine J_aload_n dX5_count_112 rfl rfl ?_
      refine gX5_backplane wf_X5_10 dX5_count_113 ?_
      rw [ws_b (b := 1)]
      refine cVi wv_X5_102 (c_X0_pluggedSet isB1 hR.1 hn8) dX5_count_116 (ob0 (by first | assumption | exact isB1 | exact isB18)) rfl rfl (kk := ?_)
      refine r_int dX5_count_119 ?_
      exact ⟨⟨_, rfl⟩, by first | rfl | exact SB_self⟩
    | 3, _ =>
      refine J_tableIn (off := 119) (tgt := 120) dX5_count_1 (by decide) (by decide) (by decide) (by decide) ?_
      refine J_aload_n dX5_count_120 rfl rfl ?_
      refine gX5_backplane wf_X5_10 dX5_count_121 ?_
      rw [ws_b (b := 1)]
      refine cVi wv_X5_105 (c_X0_knownSet isB1 hR.1 hn8) dX5_count_124 (ob0 (by first | assumption | exact isB1 | exact isB18)) rfl rfl (kk := ?_)
      refine r_int dX5_count_127 ?_
      exact ⟨⟨_, rfl⟩, by first | rfl | exact SB_self⟩
    | 4, _ =>
      refine J_tableIn (off := 127) (tgt := 128) dX5_count_1 (by decide) (by decide) (by decide) (by decide) ?_
      refine J_aload_n dX5_count_128 rfl rfl ?_
      refine gX5_backplane wf_X5_10 dX5_count_129 ?_
      refine gX0_bus (by first | assumption | exact isB1 | exact isB18) wf_X5_82 dX5_count_132 ?_
      refine gX2_sent (by first | assumption | exact isB1 | exact isB18) wf_X5_108 dX5_count_135 ?_
      refine r_int dX5_count_138 ?_
      exact ⟨⟨_, rfl⟩, by first | rfl | exact SB_self⟩
    | 5, _ =>
      refine J_tableIn (off := 138) (tgt := 139) dX5_count_1 (by decide) (by decide) (by decide) (by decide) ?_
      refine J_aload_n dX5_count_139 rfl rfl ?_
      refine gX5_backplane wf_X5_10 dX5_count_140 ?_
      refine gX0_bus (by first | assumption | exact isB1 | exact isB18) wf_X5_82 dX5_count_143 ?_
      refine gX2_delivered (by first | assumption | exact isB1 | exact isB18) wf_X5_111 dX5_count_146 ?_
      refine r_int dX5_count_149 ?_
      exact ⟨⟨_, rfl⟩, by first | rfl | exact SB_self⟩
    | 6, _ =>
      refine J_tableIn (off := 149) (tgt := 150) dX5_count_1 (by decide) (by decide) (by decide) (by decide) ?_
      refine J_aload_n dX5_count_150 rfl rfl ?_
      refine gX5_backplane wf_X5_10 dX5_count_151 ?_
      refine gX0_bus (by first | assumption | exact isB1 | exact isB18) wf_X5_82 dX5_count_154 ?_
      refine gX2_lost (by first | assumption | exact isB1 | exact isB18) wf_X5_114 dX5_count_157 ?_
      refine r_int dX5_count_160 ?_
      exact ⟨⟨_, rfl⟩, by first | rfl | exact SB_self⟩
    | 7, _ =>
      refine J_tableIn (off := 160) (tgt := 161) dX5_count_1 (by decide) (by decide) (by decide) (by decide) ?_
      refine J_aload_n dX5_count_161 rfl rfl ?_
      refine gX5_backplane wf_X5_10 dX5_count_162 ?_
      refine gX0_bus (by first | assumption | exact isB1 | exact isB18) wf_X5_82 dX5_count_165 ?_
      refine gX2_onBus (by first | assumption | exact isB1 | exact isB18) wf_X5_117 dX5_count_168 ?_
      refine r_int dX5_count_171 ?_
      exact ⟨⟨_, rfl⟩, by first | rfl | exact SB_self⟩
    | 8, _ =>
      refine J_tableIn (off := 171) (tgt := 172) dX5_count_1 (by decide) (by decide) (by decide) (by decide) ?_
      refine J_aload_n dX5_count_172 rfl rfl ?_
      refine gX5_backplane wf_X5_10 dX5_count_173 ?_
      rw [ws_b (b := 1)]
      refine cVi wv_X5_120 (c_X0_isHeld isB1 hR.1 hn8 hV.2.2.1.1) dX5_count_176 (ob0 (by first | assumption | exact isB1 | exact isB18)) rfl rfl (kk := ?_)
      refine J_if_eq (tgt := 186) dX5_count_179 (by decide) (fun h179 => ?_) (fun h179 => ?_)
      · refine J_iconst (v := 0) dX5_count_186 (by decide) ?_
        refine r_int dX5_count_187 ?_
        exact ⟨⟨_, rfl⟩, by first | rfl | exact SB_self⟩
      · refine J_iconst (v := 1) dX5_count_182 (by decide) ?_
        refine J_goto (tgt := 187) dX5_count_183 (by decide) ?_
        refine r_int dX5_count_187 ?_
        exact ⟨⟨_, rfl⟩, by first | rfl | exact SB_self⟩
    | 9, _ =>
      refine J_tableIn (off := 187) (tgt := 188) dX5_count_1 (by decide) (by decide) (by decide) (by decide) ?_
      refine J_aload_n dX5_count_188 rfl rfl ?_
      refine gX5_backplane wf_X5_10 dX5_count_189 ?_
      rw [ws_b (b := 1)]
      refine cVi wv_X5_124 (c_X0_drawn isB1 hR.1 hn8) dX5_count_192 (ob0 (by first | assumption | exact isB1 | exact isB18)) rfl rfl (kk := ?_)
      refine r_int dX5_count_195 ?_
      exact ⟨⟨_, rfl⟩, by first | rfl | exact SB_self⟩
    | 10, _ =>
      refine J_tableIn (off := 195) (tgt := 196) dX5_count_1 (by decide) (by decide) (by decide) (by decide) ?_
      refine J_aload_n dX5_count_196 rfl rfl ?_
      refine gX5_backplane wf_X5_10 dX5_count_197 ?_
      refine gX0_plugs (by first | assumption | exact isB1 | exact isB18) wf_X5_127 dX5_count_200 ?_
      refine r_int dX5_count_203 ?_
      exact ⟨⟨_, rfl⟩, by first | rfl | exact SB_self⟩
    | 11, _ =>
      refine J_tableIn (off := 203) (tgt := 204) dX5_count_1 (by decide) (by decide) (by decide) (by decide) ?_
      refine J_aload_n dX5_count_204 rfl rfl ?_
      refine gX5_backplane wf_X5_10 dX5_count_205 ?_
      refine gX0_bus (by first | assumption | exact isB1 | exact isB18) wf_X5_82 dX5_count_208 ?_
      refine gX2_hurtSoFar (by first | assumption | exact isB1 | exact isB18) wf_X5_130 dX5_count_211 ?_
      refine r_int dX5_count_214 ?_
      exact ⟨⟨_, rfl⟩, by first | rfl | exact SB_self⟩
    | 12, _ =>
      refine J_tableIn (off := 214) (tgt := 215) dX5_count_1 (by decide) (by decide) (by decide) (by decide) ?_
      refine J_aload_n dX5_count_215 rfl rfl ?_
      refine gX5_backplane wf_X5_10 dX5_count_216 ?_
      rw [ws_b (b := 1)]
      refine cVi wv_X5_133 (c_X0_pulledTooSoon isB1 hR.1 hn8) dX5_count_219 (ob0 (by first | assumption | exact isB1 | exact isB18)) rfl rfl (kk := ?_)
      refine r_int dX5_count_222 ?_
      exact ⟨⟨_, rfl⟩, by first | rfl | exact SB_self⟩
    | 13, _ =>
      refine J_tableIn (off := 222) (tgt := 223) dX5_count_1 (by decide) (by decide) (by decide) (by decide) ?_
      refine J_aload_n dX5_count_223 rfl rfl ?_
      refine gX5_backplane wf_X5_10 dX5_count_224 ?_
      refine gX0_settings (by first | assumption | exact isB1 | exact isB18) wf_X5_136 dX5_count_227 ?_
      refine J_iconst (v := 0) dX5_count_230 (by decide) ?_
      refine al_set isB1 dX5_count_231 (nIin (k := 0) (by decide) (by decide)) ?_
      refine r_int dX5_count_232 ?_
      exact ⟨⟨_, rfl⟩, by first | rfl | exact SB_self⟩
    | 14, _ =>
      refine J_tableIn (off := 232) (tgt := 233) dX5_count_1 (by decide) (by decide) (by decide) (by decide) ?_
      refine J_aload_n dX5_count_233 rfl rfl ?_
      refine gX5_backplane wf_X5_10 dX5_count_234 ?_
      refine gX0_settings (by first | assumption | exact isB1 | exact isB18) wf_X5_136 dX5_count_237 ?_
      refine J_iconst (v := 1) dX5_count_240 (by decide) ?_
      refine al_set isB1 dX5_count_241 (nIin (k := 1) (by decide) (by decide)) ?_
      refine r_int dX5_count_242 ?_
      exact ⟨⟨_, rfl⟩, by first | rfl | exact SB_self⟩
    | 15, _ =>
      refine J_tableIn (off := 242) (tgt := 243) dX5_count_1 (by decide) (by decide) (by decide) (by decide) ?_
      refine J_aload_n dX5_count_243 rfl rfl ?_
      refine gX5_backplane wf_X5_10 dX5_count_244 ?_
      refine gX0_settings (by first | assumption | exact isB1 | exact isB18) wf_X5_136 dX5_count_247 ?_
      refine J_iconst (v := 2) dX5_count_250 (by decide) ?_
      refine al_set isB1 dX5_count_251 (nIin (k := 2) (by decide) (by decide)) ?_
      refine r_int dX5_count_252 ?_
      exact ⟨⟨_, rfl⟩, by first | rfl | exact SB_self⟩
    | 16, _ =>
      refine J_tableIn (off := 252) (tgt := 253) dX5_count_1 (by decide) (by decide) (by decide) (by decide) ?_
      refine J_aload_n dX5_count_253 rfl rfl ?_
      refine gX5_backplane wf_X5_10 dX5_count_254 ?_
      refine gX0_settings (by first | assumption | exact isB1 | exact isB18) wf_X5_136 dX5_count_257 ?_
      refine J_iconst (v := 3) dX5_count_260 (by decide) ?_
      refine al_set isB1 dX5_count_261 (nIin (k := 3) (by decide) (by decide)) ?_
      refine r_int dX5_count_262 ?_
      exact ⟨⟨_, rfl⟩, by first | rfl | exact SB_self⟩
    | 17, _ =>
      refine J_tableIn (off := 262) (tgt := 263) dX5_count_1 (by decide) (by decide) (by decide) (by decide) ?_
      refine J_aload_n dX5_count_263 rfl rfl ?_
      refine gX5_backplane wf_X5_10 dX5_count_264 ?_
      refine gX0_settings (by first | assumption | exact isB1 | exact isB18) wf_X5_136 dX5_count_267 ?_
      refine J_iconst (v := 4) dX5_count_270 (by decide) ?_
      refine al_set isB1 dX5_count_271 (nIin (k := 4) (by decide) (by decide)) ?_
      refine r_int dX5_count_272 ?_
      exact ⟨⟨_, rfl⟩, by first | rfl | exact SB_self⟩
    | 18, _ =>
      refine J_tableIn (off := 272) (tgt := 273) dX5_count_1 (by decide) (by decide) (by decide) (by decide) ?_
      refine J_aload_n dX5_count_273 rfl rfl ?_
      refine gX5_pad wf_X5_29 dX5_count_274 ?_
      refine gX4_length wf_X5_140 dX5_count_277 ?_
      refine r_int dX5_count_280 ?_
      exact ⟨⟨_, rfl⟩, by first | rfl | exact SB_self⟩
    | 19, _ =>
      refine J_tableIn (off := 280) (tgt := 281) dX5_count_1 (by decide) (by decide) (by decide) (by decide) ?_
      refine J_aload_n dX5_count_281 rfl rfl ?_
      refine gX5_history wf_X5_22 dX5_count_282 ?_
      refine gX3_size wf_X5_143 dX5_count_285 ?_
      refine r_int dX5_count_288 ?_
      exact ⟨⟨_, rfl⟩, by first | rfl | exact SB_self⟩
    | k + 20, hk => exact absurd hk (by omega)

