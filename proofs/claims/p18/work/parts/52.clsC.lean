theorem upd4 {s : Rw} {a b c d : Nat} {x y z v : Int32} (h1 : a ≠ b) (h2 : a ≠ c) (h3 : a ≠ d) (h4 : b ≠ c) (h5 : b ≠ d) (h6 : c ≠ d) : upd (upd (upd (upd s a x) b y) c z) d v = upd (upd (upd (upd s b y) d v) a x) c z := by
  rw [upd_comm (s := upd (upd s a x) b y) h6, upd_comm (s := s) h1, upd_comm (s := upd s b y) h3]
theorem mv_rel {B : Mem} {s : Rw} {n i q : Nat} (h : RpB B s n) (hi : i < n) (hn : n ≤ 8) (hb : Bd s i) (hq : q < 5) (h2 : s (fb i 2) = nI q) : RpB (mvB B i) (if s (fb i 4) = 0 then s else goF s i) n ∧ mvA (B (3 + i) 3) (mvC B i) = (if s (fb i 4) = 0 then 0 else goP s i) := by
  obtain ⟨r1, r2⟩ := h.2.2 i hi
  have e3 : B (3 + i) 3 = s (fb i 3) := r1 3 (by decide)
  have e4 : B (3 + i) 4 = s (fb i 4) := r1 4 (by decide)
  have ec : mvC B i = cl24 (s (fb i 3) + s (fb i 4)) := by unfold mvC; rw [e3, e4]
  have i8 : i < 8 := by omega
  unfold mvB
  rw [mvA_eq, ec, e3, e4]
  by_cases hz : s (fb i 4) = 0
  · rw [if_pos hz, if_pos hz, hz, if_pos (by decide), if_pos (by decide), Int32.add_zero]
    have hd : cl24 (s (fb i 3)) = s (fb i 3) := by
      obtain ⟨d, v, hd, -, h3, -⟩ := hb
      have := cl_up d (by omega) 0 (by decide)
      rw [show nI 0 = 0 from rfl, Int32.add_zero, Nat.add_zero, if_pos hd] at this
      rw [h3, this]
    rw [hd]
    refine ⟨?_, ?_⟩
    · have := RpB_up (k := 3) (v := s (fb i 3)) h i8 (by decide)
      rw [upd_noop rfl] at this
      exact this
    · unfold plg
      split
      · rfl
      · rfl
  · rw [if_neg hz, if_neg hz]
    refine ⟨?_, rfl⟩
    unfold goF goA
    by_cases h0 : 0 ≤ s (fb i 4)
    · have h1 : ¬ s (fb i 4) ≤ 0 := fun g => hz (Int32.le_antisymm g h0)
      rw [if_neg h1, if_pos h0]
      unfold goB
      by_cases h24 : cl24 (s (fb i 3) + s (fb i 4)) = 24
      · rw [if_pos h24, if_pos h24]
        exact RpB_up (RpB_up h i8 (by decide)) i8 (by decide)
      · rw [if_neg h24, if_neg h24, if_neg (by rw [h2]; exact nI_n6 q (by omega)), upd_noop (by rw [upd_fbn (by decide)])]
        exact RpB_up (k := 3) h i8 (by decide)
    · have h1 : s (fb i 4) ≤ 0 := Int32.le_of_lt (Int32.not_le.mp h0)
      rw [if_pos h1, if_neg h0, if_neg h0]
      by_cases hc : cl24 (s (fb i 3) + s (fb i 4)) = 0
      · rw [if_pos hc, if_pos hc, hc]
        unfold goB
        rw [if_neg (by decide), upd_fbn (by decide), upd_same, if_pos rfl, ← upd4 (fb_ne (by decide)) (fb_ne (by decide)) (fb_ne (by decide)) (fb_ne (by decide)) (fb_ne (by decide)) (fb_ne (by decide))]
        exact RpB_up (k := 5) (RpB_up (k := 4) (RpB_up (k := 2) (RpB_up (k := 3) h i8 (by decide)) i8 (by decide)) i8 (by decide)) i8 (by decide)
      · rw [if_neg hc, if_neg hc]
        unfold goB
        have h24 : ¬ cl24 (s (fb i 3) + s (fb i 4)) = 24 := by
          obtain ⟨d, v, hd, hv, h3, ⟨h5, -, -⟩ | ⟨q', hq', h5, h6 | h6⟩⟩ := hb
          · exact absurd (h2.symm.trans h5) (nI_n6 q (by omega))
          · exact absurd (by rw [h6]; exact (neg_v v (by omega)).1) h0
          · have hv0 : v ≠ 0 := fun g => hz (h6.trans ((nIn0 v (by omega)).2 g))
            rw [h3, h6, cl_dn d (by omega) v (by omega)]
            intro g
            have := (nI24 (d - v) (by omega)).1 g
            omega
        rw [if_neg h24, if_neg (by rw [h2]; exact nI_n6 q (by omega)), upd_noop (by rw [upd_fbn (by decide)])]
        exact RpB_up (k := 3) h i8 (by decide)
def gfB (B : Mem) (i : Nat) (t : Int32) : Mem := if B (3 + i) 6 = 0 then (if 100 ≤ B (3 + i) 5 then (if B (3 + i) 8 + 1 < t then up B (3 + i) 8 (B (3 + i) 8 + 1) else up (up (up B (3 + i) 8 (B (3 + i) 8 + 1)) (3 + i) 6 1) (3 + i) 8 0) else B) else B
def unB (B : Mem) (i : Nat) : Mem := up (up (up (if B (3 + i) 6 = 0 then B else if B (3 + i) 7 = 0 then up B (3 + i) 9 (B (3 + i) 9 + 1) else B) (3 + i) 6 0) (3 + i) 7 0) (3 + i) 8 0
set_option maxRecDepth 100000 in
set_option maxHeartbeats 4000000 in
theorem c_X1_greetForTick {X : jX} {ad : Nat → Nat} {m B : Mem} {b i : Nat} {t : Int32} (hb : isB b) (hi : i < 8) : Cd X yX1_greetForTick cX1_greetForTick 2 (none) 0 ad [.ref (b + (3 + i)), .int t] (SB m b B) none (SB m b (gfB B i t)) := by
  refine Cm.of (own := RX1) (nm := "greetForTick") (by decide +kernel) rfl rfl rfl rfl ?_
  refine J_aload_n dX1_greetForTick_0 rfl rfl ?_
  refine gB_isKnown (by first | assumption | exact isB1 | exact isB18) (by first | assumption | omega) wf_X1_30 dX1_greetForTick_1 ?_
  refine J_if_ne (tgt := 16) dX1_greetForTick_4 (by decide) (fun h4 => ?_) (fun h4 => ?_)
  · refine r_void dX1_greetForTick_16 ?_
    refine ⟨rfl, ?_⟩
    unfold gfB
    first | (rw [if_neg h4]; done) | (rw [if_pos h4, if_neg (Int32.not_le.mpr (Int32.not_le.mp h13))]; done) | (rw [if_pos h4, if_pos h13, if_pos h32]; done) | (rw [if_pos h4, if_pos h13, if_neg h32]; done) | (rw [if_pos h4, if_neg h13]; done)
  · refine J_aload_n dX1_greetForTick_7 rfl rfl ?_
    refine gB_power (by first | assumption | exact isB1 | exact isB18) (by first | assumption | omega) wf_X1_27 dX1_greetForTick_8 ?_
    refine J_bipush (v := 100) dX1_greetForTick_11 (by decide) ?_
    refine J_icmp_ge (tgt := 17) dX1_greetForTick_13 (by decide) (fun h13 => ?_) (fun h13 => ?_)
    · refine J_aload_n dX1_greetForTick_17 rfl rfl ?_
      refine J_dup dX1_greetForTick_18 rfl ?_
      refine gB_greeted (by first | assumption | exact isB1 | exact isB18) (by first | assumption | omega) wf_X1_37 dX1_greetForTick_19 ?_
      refine J_iconst (v := 1) dX1_greetForTick_22 (by decide) ?_
      refine J_iadd dX1_greetForTick_23 ?_
      refine pB_greeted (by first | assumption | exact isB1 | exact isB18) (by first | assumption | omega) wf_X1_37 dX1_greetForTick_24 ?_
      refine J_aload_n dX1_greetForTick_27 rfl rfl ?_
      refine gB_greeted (by first | assumption | exact isB1 | exact isB18) (by first | assumption | omega) wf_X1_37 dX1_greetForTick_28 ?_
      refine J_topi (fun z9 hz9 => ?_)
      obtain rfl : z9 = (B (3 + i) 8 + 1) := hz9.trans (by rw [up_rr, if_pos rfl])
      clear hz9
      refine J_iload_n dX1_greetForTick_31 rfl rfl ?_
      refine J_icmp_lt (tgt := 45) dX1_greetForTick_32 (by decide) (fun h32 => ?_) (fun h32 => ?_)
      · refine r_void dX1_greetForTick_45 ?_
        refine ⟨rfl, ?_⟩
        unfold gfB
        first | (rw [if_neg h4]; done) | (rw [if_pos h4, if_neg (Int32.not_le.mpr (Int32.not_le.mp h13))]; done) | (rw [if_pos h4, if_pos h13, if_pos h32]; done) | (rw [if_pos h4, if_pos h13, if_neg h32]; done) | (rw [if_pos h4, if_neg h13]; done)
      · refine J_aload_n dX1_greetForTick_35 rfl rfl ?_
        refine J_iconst (v := 1) dX1_greetForTick_36 (by decide) ?_
        refine pB_isKnown (by first | assumption | exact isB1 | exact isB18) (by first | assumption | omega) wf_X1_30 dX1_greetForTick_37 (by first | exact Or.inl rfl | exact Or.inr rfl | exact i01 | exact jin01) ?_
        refine J_aload_n dX1_greetForTick_40 rfl rfl ?_
        refine J_iconst (v := 0) dX1_greetForTick_41 (by decide) ?_
        refine pB_greeted (by first | assumption | exact isB1 | exact isB18) (by first | assumption | omega) wf_X1_37 dX1_greetForTick_42 ?_
        refine r_void dX1_greetForTick_45 ?_
        refine ⟨rfl, ?_⟩
        unfold gfB
        first | (rw [if_neg h4]; done) | (rw [if_pos h4, if_neg (Int32.not_le.mpr (Int32.not_le.mp h13))]; done) | (rw [if_pos h4, if_pos h13, if_pos h32]; done) | (rw [if_pos h4, if_pos h13, if_neg h32]; done) | (rw [if_pos h4, if_neg h13]; done)
    · refine r_void dX1_greetForTick_16 ?_
      refine ⟨rfl, ?_⟩
      unfold gfB
      first | (rw [if_neg h4]; done) | (rw [if_pos h4, if_neg (Int32.not_le.mpr (Int32.not_le.mp h13))]; done) | (rw [if_pos h4, if_pos h13, if_pos h32]; done) | (rw [if_pos h4, if_pos h13, if_neg h32]; done) | (rw [if_pos h4, if_neg h13]; done)

set_option maxRecDepth 100000 in
set_option maxHeartbeats 4000000 in
theorem c_X1_becomeUnknown {X : jX} {ad : Nat → Nat} {m B : Mem} {b i : Nat}  (hb : isB b) (hi : i < 8) : Cd X yX1_becomeUnknown cX1_becomeUnknown 1 (none) 0 ad [.ref (b + (3 + i))] (SB m b B) none (SB m b (unB B i)) := by
  refine Cm.of (own := RX1) (nm := "becomeUnknown") (by decide +kernel) rfl rfl rfl rfl ?_
  refine J_aload_n dX1_becomeUnknown_0 rfl rfl ?_
  refine gB_isKnown (by first | assumption | exact isB1 | exact isB18) (by first | assumption | omega) wf_X1_30 dX1_becomeUnknown_1 ?_
  refine J_if_eq (tgt := 24) dX1_becomeUnknown_4 (by decide) (fun h4 => ?_) (fun h4 => ?_)
  · refine J_aload_n dX1_becomeUnknown_24 rfl rfl ?_
    refine J_iconst (v := 0) dX1_becomeUnknown_25 (by decide) ?_
    refine pB_isKnown (by first | assumption | exact isB1 | exact isB18) (by first | assumption | omega) wf_X1_30 dX1_becomeUnknown_26 (by first | exact Or.inl rfl | exact Or.inr rfl | exact i01 | exact jin01) ?_
    refine J_aload_n dX1_becomeUnknown_29 rfl rfl ?_
    refine J_iconst (v := 0) dX1_becomeUnknown_30 (by decide) ?_
    refine pB_hasAsked (by first | assumption | exact isB1 | exact isB18) (by first | assumption | omega) wf_X1_34 dX1_becomeUnknown_31 (by first | exact Or.inl rfl | exact Or.inr rfl | exact i01 | exact jin01) ?_
    refine J_aload_n dX1_becomeUnknown_34 rfl rfl ?_
    refine J_iconst (v := 0) dX1_becomeUnknown_35 (by decide) ?_
    refine pB_greeted (by first | assumption | exact isB1 | exact isB18) (by first | assumption | omega) wf_X1_37 dX1_becomeUnknown_36 ?_
    refine r_void dX1_becomeUnknown_39 ?_
    refine ⟨rfl, ?_⟩
    unfold unB
    first | (rw [if_pos h4]; done) | (rw [if_neg h4, if_pos h11]; done) | (rw [if_neg h4, if_neg h11]; done)
  · refine J_aload_n dX1_becomeUnknown_7 rfl rfl ?_
    refine gB_hasAsked (by first | assumption | exact isB1 | exact isB18) (by first | assumption | omega) wf_X1_34 dX1_becomeUnknown_8 ?_
    refine J_if_ne (tgt := 24) dX1_becomeUnknown_11 (by decide) (fun h11 => ?_) (fun h11 => ?_)
    · refine J_aload_n dX1_becomeUnknown_24 rfl rfl ?_
      refine J_iconst (v := 0) dX1_becomeUnknown_25 (by decide) ?_
      refine pB_isKnown (by first | assumption | exact isB1 | exact isB18) (by first | assumption | omega) wf_X1_30 dX1_becomeUnknown_26 (by first | exact Or.inl rfl | exact Or.inr rfl | exact i01 | exact jin01) ?_
      refine J_aload_n dX1_becomeUnknown_29 rfl rfl ?_
      refine J_iconst (v := 0) dX1_becomeUnknown_30 (by decide) ?_
      refine pB_hasAsked (by first | assumption | exact isB1 | exact isB18) (by first | assumption | omega) wf_X1_34 dX1_becomeUnknown_31 (by first | exact Or.inl rfl | exact Or.inr rfl | exact i01 | exact jin01) ?_
      refine J_aload_n dX1_becomeUnknown_34 rfl rfl ?_
      refine J_iconst (v := 0) dX1_becomeUnknown_35 (by decide) ?_
      refine pB_greeted (by first | assumption | exact isB1 | exact isB18) (by first | assumption | omega) wf_X1_37 dX1_becomeUnknown_36 ?_
      refine r_void dX1_becomeUnknown_39 ?_
      refine ⟨rfl, ?_⟩
      unfold unB
      first | (rw [if_pos h4]; done) | (rw [if_neg h4, if_pos h11]; done) | (rw [if_neg h4, if_neg h11]; done)
    · refine J_aload_n dX1_becomeUnknown_14 rfl rfl ?_
      refine J_dup dX1_becomeUnknown_15 rfl ?_
      refine gB_pulledTooSoon (by first | assumption | exact isB1 | exact isB18) (by first | assumption | omega) wf_X1_40 dX1_becomeUnknown_16 ?_
      refine J_iconst (v := 1) dX1_becomeUnknown_19 (by decide) ?_
      refine J_iadd dX1_becomeUnknown_20 ?_
      refine pB_pulledTooSoon (by first | assumption | exact isB1 | exact isB18) (by first | assumption | omega) wf_X1_40 dX1_becomeUnknown_21 ?_
      refine J_aload_n dX1_becomeUnknown_24 rfl rfl ?_
      refine J_iconst (v := 0) dX1_becomeUnknown_25 (by decide) ?_
      refine pB_isKnown (by first | assumption | exact isB1 | exact isB18) (by first | assumption | omega) wf_X1_30 dX1_becomeUnknown_26 (by first | exact Or.inl rfl | exact Or.inr rfl | exact i01 | exact jin01) ?_
      refine J_aload_n dX1_becomeUnknown_29 rfl rfl ?_
      refine J_iconst (v := 0) dX1_becomeUnknown_30 (by decide) ?_
      refine pB_hasAsked (by first | assumption | exact isB1 | exact isB18) (by first | assumption | omega) wf_X1_34 dX1_becomeUnknown_31 (by first | exact Or.inl rfl | exact Or.inr rfl | exact i01 | exact jin01) ?_
      refine J_aload_n dX1_becomeUnknown_34 rfl rfl ?_
      refine J_iconst (v := 0) dX1_becomeUnknown_35 (by decide) ?_
      refine pB_greeted (by first | assumption | exact isB1 | exact isB18) (by first | assumption | omega) wf_X1_37 dX1_becomeUnknown_36 ?_
      refine r_void dX1_becomeUnknown_39 ?_
      refine ⟨rfl, ?_⟩
      unfold unB
      first | (rw [if_pos h4]; done) | (rw [if_neg h4, if_pos h11]; done) | (rw [if_neg h4, if_neg h11]; done)

set_option maxRecDepth 100000 in
set_option maxHeartbeats 4000000 in
theorem c_X1_begin {X : jX} {ad : Nat → Nat} {m B : Mem} {b i : Nat} {x y : Int32} (hb : isB b) (hi : i < 8) : Cd X yX1_begin cX1_begin 3 (none) 0 ad [.ref (b + (3 + i)), .int x, .int y] (SB m b B) none (SB m b (up (up (up (up (up (up (up (up (up (up B (3 + i) 0 x) (3 + i) 1 y) (3 + i) 2 (-6)) (3 + i) 3 0) (3 + i) 4 0) (3 + i) 5 0) (3 + i) 6 0) (3 + i) 7 0) (3 + i) 8 0) (3 + i) 9 0)) := by
  refine Cm.of (own := RX1) (nm := "begin") (by decide +kernel) rfl rfl rfl rfl ?_
  refine J_aload_n dX1_begin_0 rfl rfl ?_
  refine J_iload_n dX1_begin_1 rfl rfl ?_
  refine pB_code (by first | assumption | exact isB1 | exact isB18) (by first | assumption | omega) wf_X1_9 dX1_begin_2 ?_
  refine J_aload_n dX1_begin_5 rfl rfl ?_
  refine J_iload_n dX1_begin_6 rfl rfl ?_
  refine pB_current (by first | assumption | exact isB1 | exact isB18) (by first | assumption | omega) wf_X1_15 dX1_begin_7 ?_
  refine J_aload_n dX1_begin_10 rfl rfl ?_
  refine J_bipush (v := -6) dX1_begin_11 (by decide) ?_
  refine pB_slot (by first | assumption | exact isB1 | exact isB18) (by first | assumption | omega) wf_X1_18 dX1_begin_13 ?_
  refine J_aload_n dX1_begin_16 rfl rfl ?_
  refine J_iconst (v := 0) dX1_begin_17 (by decide) ?_
  refine pB_depth (by first | assumption | exact isB1 | exact isB18) (by first | assumption | omega) wf_X1_21 dX1_begin_18 ?_
  refine J_aload_n dX1_begin_21 rfl rfl ?_
  refine J_iconst (v := 0) dX1_begin_22 (by decide) ?_
  refine pB_speed (by first | assumption | exact isB1 | exact isB18) (by first | assumption | omega) wf_X1_24 dX1_begin_23 ?_
  refine J_aload_n dX1_begin_26 rfl rfl ?_
  refine J_iconst (v := 0) dX1_begin_27 (by decide) ?_
  refine pB_power (by first | assumption | exact isB1 | exact isB18) (by first | assumption | omega) wf_X1_27 dX1_begin_28 ?_
  refine J_aload_n dX1_begin_31 rfl rfl ?_
  refine J_iconst (v := 0) dX1_begin_32 (by decide) ?_
  refine pB_isKnown (by first | assumption | exact isB1 | exact isB18) (by first | assumption | omega) wf_X1_30 dX1_begin_33 (by first | exact Or.inl rfl | exact Or.inr rfl | exact i01 | exact jin01) ?_
  refine J_aload_n dX1_begin_36 rfl rfl ?_
  refine J_iconst (v := 0) dX1_begin_37 (by decide) ?_
  refine pB_hasAsked (by first | assumption | exact isB1 | exact isB18) (by first | assumption | omega) wf_X1_34 dX1_begin_38 (by first | exact Or.inl rfl | exact Or.inr rfl | exact i01 | exact jin01) ?_
  refine J_aload_n dX1_begin_41 rfl rfl ?_
  refine J_iconst (v := 0) dX1_begin_42 (by decide) ?_
  refine pB_greeted (by first | assumption | exact isB1 | exact isB18) (by first | assumption | omega) wf_X1_37 dX1_begin_43 ?_
  refine J_aload_n dX1_begin_46 rfl rfl ?_
  refine J_iconst (v := 0) dX1_begin_47 (by decide) ?_
  refine pB_pulledTooSoon (by first | assumption | exact isB1 | exact isB18) (by first | assumption | omega) wf_X1_40 dX1_begin_48 ?_
  refine r_void dX1_begin_51 ?_
  exact ⟨rfl, rfl⟩

/-- a greeting, where the board touches -/
theorem gt_rel {B : Mem} {s : Rw} {n w i : Nat} (h : RpB B s n) (hi : i < n) (hn : n ≤ 8) (hf : Bf s i) (h2 : ¬ s (fb i 2) = -6) (h3 : ¬ s (fb i 3) < 20) : RpB (gfB B i (s 3)) (grF s w i) n := by
  obtain ⟨r1, r2⟩ := h.2.2 i hi
  have e5 : B (3 + i) 5 = s (fb i 5) := r1 5 (by decide)
  have e6 : B (3 + i) 6 = s (fb i 6) := r1 6 (by decide)
  have e8 : B (3 + i) 8 = s (fb i 8) := r1 8 (by decide)
  have i8 : i < 8 := by omega
  obtain ⟨⟨p, hp, h5⟩, h6, -⟩ := hf
  unfold gfB grF
  rw [e5, e6, e8, if_neg h2, if_neg h3]
  rcases h6 with h6 | h6
  · rw [if_pos h6, if_neg (show ¬ s (fb i 6) = 1 by rw [h6]; decide)]
    by_cases h7 : 100 ≤ s (fb i 5)
    · have h8 : s (fb i 5) = 100 := by
        rw [h5] at h7 ⊢
        exact (show ∀ p, p < 101 → 100 ≤ nI p → nI p = 100 by decide +kernel) p (by omega) h7
      rw [if_pos h7, if_pos h8]
      by_cases h9 : s (fb i 8) + 1 < s 3
      · rw [if_pos h9, if_pos h9, upd_noop h6.symm]
        exact RpB_up (k := 8) h i8 (by decide)
      · rw [if_neg h9, if_neg h9]
        have := RpB_up (k := 8) (v := 0) (RpB_up (k := 6) (v := 1) (RpB_up (k := 8) (v := s (fb i 8) + 1) h i8 (by decide)) i8 (by decide)) i8 (by decide)
        rw [upd_comm (s := s) (fb_ne (by decide)), upd_upd] at this
        exact this
    · rw [if_neg h7, if_neg (show ¬ s (fb i 5) = 100 from fun g => h7 (by rw [g]; decide))]
      exact h
  · rw [if_neg (show ¬ s (fb i 6) = 0 by rw [h6]; decide), if_pos h6]
    exact h
