theorem oS_le {P : Nat → Int32} {L i : Nat} (hi : i ≤ L) : i ≤ (oS P L i).1 ∧ (oS P L i).1 ≤ L ∧ ((oS P L i).2 = true → i + 1 ≤ (oS P L i).1 ∧ i < L) := by
  unfold oS
  split
  · next h =>
    have a := fun p : Nat × Bool => @nS_le P L p
    have b := fun lo hi (p : Nat × Bool) => @dS_le P L lo hi p
    have t (r : Nat × Bool) (h2 : i + 1 ≤ r.1 ∧ r.1 ≤ L) : i ≤ r.1 ∧ r.1 ≤ L ∧ (r.2 = true → i + 1 ≤ r.1 ∧ i < L) := ⟨by omega, h2.2, fun _ => ⟨h2.1, h⟩⟩
    have n0 := a (i + 1, true) h
    have d0 := b 48 57 (i + 1, true) h
    (repeat' split)
    · have d1 := b 46 46 _ n0.2
      have n1 := a _ d1.2
      exact t _ ⟨Nat.le_trans n0.1 (Nat.le_trans d1.1 n1.1), n1.2⟩
    · have d1 := b 64 64 _ d0.2
      have d2 := b 48 57 _ d1.2
      have d3 := b 43 43 _ d2.2
      have n1 := a _ d3.2
      exact t _ ⟨Nat.le_trans d0.1 (Nat.le_trans d1.1 (Nat.le_trans d2.1 (Nat.le_trans d3.1 n1.1))), n1.2⟩
    · have d1 := b 45 45 _ d0.2
      have n1 := a _ d1.2
      exact t _ ⟨Nat.le_trans d0.1 (Nat.le_trans d1.1 n1.1), n1.2⟩
    · exact t _ d0
    · have d1 := b 48 57 _ d0.2
      exact t _ ⟨Nat.le_trans d0.1 d1.1, d1.2⟩
    · exact t _ n0
    · exact ⟨Nat.le_refl _, hi, fun q => absurd (show false = true from q) (by decide)⟩
  · exact ⟨Nat.le_refl _, hi, fun q => absurd (show false = true from q) (by decide)⟩
/-- where a text's reading ends, and whether it met no fault -/
def gS (P : Nat → Int32) (L : Nat) : Nat → Nat → Nat × Bool
  | 0, i => (i, false)
  | j + 1, i => if (oS P L i).2 = true then (if (oS P L i).1 < L then (if (dS P L 59 59 (oS P L i)).2 = true then gS P L j (dS P L 59 59 (oS P L i)).1 else dS P L 59 59 (oS P L i)) else oS P L i) else oS P L i
def GtFin (m : Mem) (s : Rw) (F : Nat → Int32) (L : Nat) (r : Nat × Bool) (v : Option Value) (m9 : Mem) : Prop := (∃ n : Int32, v = some (.int n)) ∧ ∃ G, m9 = RM m G s ∧ RF G L r ∧ ∀ k, k < 8 → G k = F k
theorem RF0 {F : Nat → Int32} {L : Nat} (h7 : F 7 = nI L) (hL : L ≤ 80) : RF (upd (upd F 8 0) 9 0) L (0, true) := ⟨h7, rfl, rfl, Nat.zero_le _, hL⟩
theorem gS_step {P : Nat → Int32} {L j i : Nat} (hi : i ≤ L) (hj : L < i + 2 * (j + 1)) (h1 : (oS P L i).2 = true) (h2 : (oS P L i).1 < L) (h3 : (dS P L 59 59 (oS P L i)).2 = true) : gS P L (j + 1) i = gS P L j (dS P L 59 59 (oS P L i)).1 ∧ (dS P L 59 59 (oS P L i)).1 ≤ L ∧ L < (dS P L 59 59 (oS P L i)).1 + 2 * j := by
  obtain ⟨a1, a2, a3⟩ := oS_le (P := P) hi
  obtain ⟨-, b2, -, b4⟩ := dS_ok h3
  have := (a3 h1).1
  refine ⟨?_, ?_, ?_⟩
  · show (if (oS P L i).2 = true then _ else _) = _
    rw [if_pos h1, if_pos h2, if_pos h3]
  · rw [b4]; show (oS P L i).1 + 1 ≤ L; omega
  · rw [b4]; show L < (oS P L i).1 + 1 + 2 * j; omega
theorem bt {p : Nat × Bool} (h : (if p.2 = true then (0 : Int32) else 1) = 0) : p.2 = true := isz_t h
theorem bf {p : Nat × Bool} (h : ¬ (if p.2 = true then (0 : Int32) else 1) = 0) : ¬ p.2 = true := fun q => h (if_pos q)
set_option maxRecDepth 100000 in
set_option maxHeartbeats 4000000 in
theorem gtEnd {X : jX} {ad : Nat → Nat} {m : Mem} {s : Rw} {F G : Nat → Int32} {L : Nat} {r : Nat × Bool} {n : Int32} (hR : RF G L r) (kfr : ∀ k, k < 8 → G k = F k) {b : Int32} : Jg X RX6 cX6_goesThrough 5 (some .int) "goesThrough" 8 0 0 (QF X ad (GtFin m s F L r)) ad 0 0 14 [(0, .ref 195), (1, .int b), (2, .int n), (3, .int 0)] [] (WS X ad (RM m G s)) := by
  refine J_iload_n dX6_goesThrough_14 rfl rfl ?_
  refine J_if_eq (tgt := 109) dX6_goesThrough_15 (by decide) (fun h15 => ?_) (fun h15 => absurd rfl h15)
  refine J_iload_n dX6_goesThrough_109 rfl rfl ?_
  refine r_int dX6_goesThrough_110 ?_
  exact ⟨⟨_, rfl⟩, _, rfl, hR, kfr⟩

section GT
variable {X : jX} {ad : Nat → Nat} {m : Mem} {s : Rw} {F G : Nat → Int32} {L i j : Nat} {r : Nat × Bool} {n b : Int32}
theorem gtA (hR : RF G L (oS (m 200) L i)) (kfr : ∀ k, k < 8 → G k = F k) (hr : r = gS (m 200) L (j + 1) i) (h26 : ¬ (if (oS (m 200) L i).2 = true then (0 : Int32) else 1) = 0) : Jg X RX6 cX6_goesThrough 5 (some .int) "goesThrough" 8 0 0 (QF X ad (GtFin m s F L r)) ad 0 0 14 [(0, .ref 195), (1, .int b), (2, .int n), (3, .int 0)] [] (WS X ad (RM m G s)) := by
  have e : r = oS (m 200) L i := by rw [hr]; show (if _ then _ else _) = _; rw [if_neg (bf h26)]
  rw [← e] at hR
  exact gtEnd hR kfr
theorem gtB (hR : RF G L (oS (m 200) L i)) (kfr : ∀ k, k < 8 → G k = F k) (hr : r = gS (m 200) L (j + 1) i) (h26 : (if (oS (m 200) L i).2 = true then (0 : Int32) else 1) = 0) (h70 : nI L ≤ nI (oS (m 200) L i).1) : Jg X RX6 cX6_goesThrough 5 (some .int) "goesThrough" 8 0 0 (QF X ad (GtFin m s F L r)) ad 0 0 14 [(0, .ref 195), (1, .int b), (2, .int n), (3, .int 0)] [] (WS X ad (RM m G s)) := by
  have h80 := hR.2.2.2.2
  have e : r = oS (m 200) L i := by
    rw [hr]; show (if _ then _ else _) = _; rw [if_pos (bt h26), if_neg]
    intro h
    exact nI_nle1 h (by omega) h70
  rw [← e] at hR
  exact gtEnd hR kfr
theorem gtC (hR : RF G L (dS (m 200) L 59 59 (oS (m 200) L i))) (kfr : ∀ k, k < 8 → G k = F k) (hr : r = gS (m 200) L (j + 1) i) (h26 : (if (oS (m 200) L i).2 = true then (0 : Int32) else 1) = 0) (h70 : (oS (m 200) L i).1 < L) (h97 : ¬ (if (dS (m 200) L 59 59 (oS (m 200) L i)).2 = true then (0 : Int32) else 1) = 0) : Jg X RX6 cX6_goesThrough 5 (some .int) "goesThrough" 8 0 0 (QF X ad (GtFin m s F L r)) ad 0 0 14 [(0, .ref 195), (1, .int b), (2, .int n), (3, .int 0)] [] (WS X ad (RM m G s)) := by
  have e : r = dS (m 200) L 59 59 (oS (m 200) L i) := by
    rw [hr]; show (if _ then _ else _) = _; rw [if_pos (bt h26), if_pos h70, if_neg (bf h97)]
  rw [← e] at hR
  exact gtEnd hR kfr
end GT
set_option maxRecDepth 100000 in
set_option maxHeartbeats 4000000 in
theorem gtLoop {X : jX} {ad : Nat → Nat} {m : Mem} {s : Rw} {F : Nat → Int32} {L : Nat} {r : Nat × Bool} : ∀ (j i : Nat) (n : Int32) (G : Nat → Int32), i ≤ L → L < i + 2 * j → r = gS (m 200) L j i → RF G L (i, true) → (∀ k, k < 8 → G k = F k) → Jg X RX6 cX6_goesThrough 5 (some .int) "goesThrough" 8 0 0 (QF X ad (GtFin m s F L r)) ad 0 0 14 [(0, .ref 195), (1, .int 0), (2, .int n), (3, .int 1)] [] (WS X ad (RM m G s)) := by
  intro j
  induction j with
  | zero => intro i n G h1 h2; exact absurd h2 (by omega)
  | succ j ih =>
    intro i n G hi hj hr hR kfr
    refine J_iload_n dX6_goesThrough_14 rfl rfl ?_
    refine J_if_eq (tgt := 109) dX6_goesThrough_15 (by decide) (fun h15 => absurd h15 (by decide)) (fun h15 => ?_)
    refine J_aload_n dX6_goesThrough_18 rfl rfl ?_
    refine cVg wv_X6_194 (c_X6_readOrder hR) dX6_goesThrough_19 ob6 rfl rfl (kk := (fun v m9 hf => ?_))
    obtain ⟨rfl, G, rfl, hR, hfr, -⟩ := hf
    have kfr := fun k (hk : k < 8) => (hfr k hk).trans (kfr k hk)
    refine J_aload_n dX6_goesThrough_22 rfl rfl ?_
    refine gR_isFaulty wf_X6_163 dX6_goesThrough_23 ?_
    refine J_topi (fun z9 hz9 => ?_)
    obtain rfl : z9 = (if (oS (m 200) L i).2 = true then 0 else 1) := hz9.trans (by exact hR.2.2.1)
    clear hz9
    refine J_if_ne (tgt := 44) dX6_goesThrough_26 (by decide) (fun h26 => ?_) (fun h26 => ?_)
    · refine J_iconst (v := 0) dX6_goesThrough_44 (by decide) ?_
      refine J_istore_n dX6_goesThrough_45 rfl rfl rfl ?_
      refine J_iload_n dX6_goesThrough_46 rfl rfl ?_
      refine J_iload_n dX6_goesThrough_47 rfl rfl ?_
      refine J_if_eq (tgt := 55) dX6_goesThrough_48 (by decide) (fun h48 => ?_) (fun h48 => absurd (by decide) h48)
      refine J_iconst (v := 0) dX6_goesThrough_55 (by decide) ?_
      refine J_iadd dX6_goesThrough_56 ?_
      refine J_istore_n dX6_goesThrough_57 rfl rfl rfl ?_
      refine J_iload_n dX6_goesThrough_58 rfl rfl ?_
      refine J_if_eq (tgt := 77) dX6_goesThrough_59 (by decide) (fun h59 => ?_) (fun h59 => absurd (by decide) h59)
      refine J_iconst (v := 0) dX6_goesThrough_77 (by decide) ?_
      refine J_istore_n dX6_goesThrough_78 rfl rfl rfl ?_
      refine J_iload_n dX6_goesThrough_79 rfl rfl ?_
      refine J_if_eq (tgt := 14) dX6_goesThrough_80 (by decide) (fun h80 => ?_) (fun h80 => absurd (by decide) h80)
      refine J_lv [0, 1, 2, 3] rfl ?_
      first | exact gtA hR kfr hr h26 | exact gtB hR kfr hr h26 h70 | exact gtC hR kfr hr h26 hlt h97 | skip
      first | done | (obtain ⟨c1, c2, c3⟩ := gS_step (P := m 200) hi hj (bt h26) hlt (bt h97); rw [c1] at hr; refine ih _ _ G c2 c3 hr ?_ kfr; rw [show ((dS (m 200) L 59 59 (oS (m 200) L i)).1, true) = dS (m 200) L 59 59 (oS (m 200) L i) from Prod.ext rfl (bt h97).symm]; exact hR)
    · refine J_iload_n dX6_goesThrough_29 rfl rfl ?_
      refine J_if_eq (tgt := 40) dX6_goesThrough_30 (by decide) (fun h30 => ?_) (fun h30 => absurd rfl h30)
      refine J_iconst (v := 1) dX6_goesThrough_40 (by decide) ?_
      refine J_goto (tgt := 45) dX6_goesThrough_41 (by decide) ?_
      refine J_istore_n dX6_goesThrough_45 rfl rfl rfl ?_
      refine J_iload_n dX6_goesThrough_46 rfl rfl ?_
      refine J_iload_n dX6_goesThrough_47 rfl rfl ?_
      refine J_if_eq (tgt := 55) dX6_goesThrough_48 (by decide) (fun h48 => absurd h48 (by decide)) (fun h48 => ?_)
      refine J_iconst (v := 1) dX6_goesThrough_51 (by decide) ?_
      refine J_goto (tgt := 56) dX6_goesThrough_52 (by decide) ?_
      refine J_iadd dX6_goesThrough_56 ?_
      refine J_istore_n dX6_goesThrough_57 rfl rfl rfl ?_
      refine J_iload_n dX6_goesThrough_58 rfl rfl ?_
      refine J_if_eq (tgt := 77) dX6_goesThrough_59 (by decide) (fun h59 => absurd h59 (by decide)) (fun h59 => ?_)
      refine J_aload_n dX6_goesThrough_62 rfl rfl ?_
      refine gR_spot wf_X6_167 dX6_goesThrough_63 ?_
      refine J_topi (fun z9 hz9 => ?_)
      obtain rfl : z9 = (nI (oS (m 200) L i).1) := hz9.trans (by exact hR.2.1)
      clear hz9
      refine J_aload_n dX6_goesThrough_66 rfl rfl ?_
      refine gR_length wf_X6_152 dX6_goesThrough_67 ?_
      refine J_topi (fun z9 hz9 => ?_)
      obtain rfl : z9 = (nI L) := hz9.trans (by exact hR.1)
      clear hz9
      refine J_icmp_ge (tgt := 77) dX6_goesThrough_70 (by decide) (fun h70 => ?_) (fun h70 => ?_)
      · refine J_iconst (v := 0) dX6_goesThrough_77 (by decide) ?_
        refine J_istore_n dX6_goesThrough_78 rfl rfl rfl ?_
        refine J_iload_n dX6_goesThrough_79 rfl rfl ?_
        refine J_if_eq (tgt := 14) dX6_goesThrough_80 (by decide) (fun h80 => ?_) (fun h80 => absurd (by decide) h80)
        refine J_lv [0, 1, 2, 3] rfl ?_
        first | exact gtA hR kfr hr h26 | exact gtB hR kfr hr h26 h70 | exact gtC hR kfr hr h26 hlt h97 | skip
        first | done | (obtain ⟨c1, c2, c3⟩ := gS_step (P := m 200) hi hj (bt h26) hlt (bt h97); rw [c1] at hr; refine ih _ _ G c2 c3 hr ?_ kfr; rw [show ((dS (m 200) L 59 59 (oS (m 200) L i)).1, true) = dS (m 200) L 59 59 (oS (m 200) L i) from Prod.ext rfl (bt h97).symm]; exact hR)
      · refine J_iconst (v := 1) dX6_goesThrough_73 (by decide) ?_
        refine J_goto (tgt := 78) dX6_goesThrough_74 (by decide) ?_
        refine J_istore_n dX6_goesThrough_78 rfl rfl rfl ?_
        refine J_iload_n dX6_goesThrough_79 rfl rfl ?_
        refine J_if_eq (tgt := 14) dX6_goesThrough_80 (by decide) (fun h80 => absurd h80 (by decide)) (fun h80 => ?_)
        have hlt : (oS (m 200) L i).1 < L := nlt_of h70 (by have h1 := hR.2.2.2.1; have h2 := hR.2.2.2.2; exact Nat.le_trans h1 h2)
        refine J_aload_n dX6_goesThrough_83 rfl rfl ?_
        refine J_bipush (v := 59) dX6_goesThrough_84 (by decide) ?_
        refine J_bipush (v := 59) dX6_goesThrough_86 (by decide) ?_
        refine cVg wv_X6_173 (c_X6_takes (lo := 59) (hi := 59) hR) dX6_goesThrough_88 ob6 rfl rfl (kk := (fun v m9 hf => ?_))
        obtain ⟨G, rfl, rfl, hR, hfr⟩ := hf
        have kfr := fun k (hk : k < 8) => (hfr k (by omega) (by omega)).trans (kfr k hk)
        refine J_istore dX6_goesThrough_91 rfl rfl ?_
        refine J_aload_n dX6_goesThrough_93 rfl rfl ?_
        refine gR_isFaulty wf_X6_163 dX6_goesThrough_94 ?_
        refine J_topi (fun z9 hz9 => ?_)
        obtain rfl : z9 = (if (dS (m 200) L 59 59 (oS (m 200) L i)).2 = true then 0 else 1) := hz9.trans (by exact hR.2.2.1)
        clear hz9
        refine J_if_ne (tgt := 104) dX6_goesThrough_97 (by decide) (fun h97 => ?_) (fun h97 => ?_)
        · refine J_iconst (v := 0) dX6_goesThrough_104 (by decide) ?_
          refine J_istore_n dX6_goesThrough_105 rfl rfl rfl ?_
          refine J_goto (tgt := 14) dX6_goesThrough_106 (by decide) ?_
          refine J_lv [0, 1, 2, 3] rfl ?_
          first | exact gtA hR kfr hr h26 | exact gtB hR kfr hr h26 h70 | exact gtC hR kfr hr h26 hlt h97 | skip
          first | done | (obtain ⟨c1, c2, c3⟩ := gS_step (P := m 200) hi hj (bt h26) hlt (bt h97); rw [c1] at hr; refine ih _ _ G c2 c3 hr ?_ kfr; rw [show ((dS (m 200) L 59 59 (oS (m 200) L i)).1, true) = dS (m 200) L 59 59 (oS (m 200) L i) from Prod.ext rfl (bt h97).symm]; exact hR)
        · refine J_iconst (v := 1) dX6_goesThrough_100 (by decide) ?_
          refine J_goto (tgt := 105) dX6_goesThrough_101 (by decide) ?_
          refine J_istore_n dX6_goesThrough_105 rfl rfl rfl ?_
          refine J_goto (tgt := 14) dX6_goesThrough_106 (by decide) ?_
          refine J_lv [0, 1, 2, 3] rfl ?_
          first | exact gtA hR kfr hr h26 | exact gtB hR kfr hr h26 h70 | exact gtC hR kfr hr h26 hlt h97 | skip
          first | done | (obtain ⟨c1, c2, c3⟩ := gS_step (P := m 200) hi hj (bt h26) hlt (bt h97); rw [c1] at hr; refine ih _ _ G c2 c3 hr ?_ kfr; rw [show ((dS (m 200) L 59 59 (oS (m 200) L i)).1, true) = dS (m 200) L 59 59 (oS (m 200) L i) from Prod.ext rfl (bt h97).symm]; exact hR)

set_option maxRecDepth 100000 in
set_option maxHeartbeats 4000000 in
theorem c_goes0 {X : jX} {ad : Nat → Nat} {m : Mem} {s : Rw} {F : Nat → Int32} {L : Nat} (h7 : F 7 = nI L) (hL : L ≤ 80) : Cm X yX6_goesThrough cX6_goesThrough 5 (some .int) 8 ad [.ref 195, .int 0] (RM m F s) (GtFin m s F L (gS (m 200) L 80 0)) := by
  refine Cm.of (own := RX6) (nm := "goesThrough") (by decide +kernel) rfl rfl rfl rfl ?_
  refine J_aload_n dX6_goesThrough_0 rfl rfl ?_
  refine J_iconst (v := 0) dX6_goesThrough_1 (by decide) ?_
  refine pR_spot wf_X6_167 dX6_goesThrough_2 ?_
  refine J_aload_n dX6_goesThrough_5 rfl rfl ?_
  refine J_iconst (v := 0) dX6_goesThrough_6 (by decide) ?_
  refine pR_isFaulty wf_X6_163 dX6_goesThrough_7 (by first | exact Or.inl rfl | exact Or.inr rfl | exact i01 | exact jin01) ?_
  refine J_iconst (v := 0) dX6_goesThrough_10 (by decide) ?_
  refine J_istore_n dX6_goesThrough_11 rfl rfl rfl ?_
  refine J_iconst (v := 1) dX6_goesThrough_12 (by decide) ?_
  refine J_istore_n dX6_goesThrough_13 rfl rfl rfl ?_
  exact gtLoop 80 0 _ _ (Nat.zero_le _) (by omega) rfl (RF0 h7 hL) (fun k hk => by rw [upd_at, if_neg (by omega), upd_at, if_neg (by omega)])

/-- what a reading answers -/
def ftA (P : Nat → Int32) (L : Nat) : Int32 := if (gS P L 80 0).2 = true then -6 else nI (gS P L 80 0).1
set_option maxRecDepth 100000 in
set_option maxHeartbeats 4000000 in
theorem c_X6_fault {X : jX} {ad : Nat → Nat} {m : Mem} {s : Rw} {F : Nat → Int32} {L : Nat} (h7 : F 7 = nI L) (hL : L ≤ 80) : Cm X yX6_fault cX6_fault 2 (some .int) 9 ad [.ref 195] (RM m F s) (fun v m9 => v = some (.int (ftA (m 200) L)) ∧ ∃ G, m9 = RM m G s ∧ ∀ k, k < 8 → G k = F k) := by
  refine Cm.of (own := RX6) (nm := "fault") (by decide +kernel) rfl rfl rfl rfl ?_
  refine J_aload_n dX6_fault_0 rfl rfl ?_
  refine J_iconst (v := 0) dX6_fault_1 (by decide) ?_
  refine cVg wv_X6_200 (c_goes0 h7 hL) dX6_fault_2 ob6 rfl rfl (kk := (fun v m9 hf => ?_))
  obtain ⟨⟨n, rfl⟩, G, rfl, hR, kfr⟩ := hf
  refine J_istore_n dX6_fault_5 rfl rfl rfl ?_
  refine J_aload_n dX6_fault_6 rfl rfl ?_
  refine gR_isFaulty wf_X6_163 dX6_fault_7 ?_
  refine J_topi (fun z9 hz9 => ?_)
  obtain rfl : z9 = (if (gS (m 200) L 80 0).2 = true then 0 else 1) := hz9.trans (by exact hR.2.2.1)
  clear hz9
  refine J_if_eq (tgt := 20) dX6_fault_10 (by decide) (fun h10 => ?_) (fun h10 => ?_)
  · refine J_bipush (v := -6) dX6_fault_20 (by decide) ?_
    refine r_int dX6_fault_22 ?_
    refine ⟨?_, G, rfl, kfr⟩
    unfold ftA
    first | rw [if_pos (bt h10)] | rw [if_neg (bf h10)]
  · refine J_aload_n dX6_fault_13 rfl rfl ?_
    refine gR_spot wf_X6_167 dX6_fault_14 ?_
    refine J_topi (fun z9 hz9 => ?_)
    obtain rfl : z9 = (nI (gS (m 200) L 80 0).1) := hz9.trans (by exact hR.2.1)
    clear hz9
    refine J_goto (tgt := 22) dX6_fault_17 (by decide) ?_
    refine r_int dX6_fault_22 ?_
    refine ⟨?_, G, rfl, kfr⟩
    unfold ftA
    first | rw [if_pos (bt h10)] | rw [if_neg (bf h10)]

