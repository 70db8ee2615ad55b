/-- outside a block all is as it was -/
def Out (m m' : Mem) (b : Nat) : Prop := ∀ c, (c < b ∨ b + 17 ≤ c) → m' c = m c
/-- a copy under way: the first i boards -/
def Lp (mem m : Mem) (b b2 n i : Nat) : Prop := Out mem m b ∧ m b 3 = nI n ∧ (∀ k, k < 5 → m (b + 1) k = mem (b2 + 1) k) ∧ ∀ q, q < i → ∀ k, k < 10 → m (b + (3 + q)) k = mem (b2 + (3 + q)) k
theorem isB_out {b b2 r : Nat} (h : isB b) (h2 : isB b2) (hne : b ≠ b2) (hr : r < 17) : b2 + r < b ∨ b + 17 ≤ b2 + r := by
  obtain ⟨j, h1, rfl⟩ := h
  obtain ⟨k, h3, rfl⟩ := h2
  omega
theorem isB_out0 {b b2 : Nat} (h : isB b) (h2 : isB b2) (hne : b ≠ b2) : b2 < b ∨ b + 17 ≤ b2 := isB_out (r := 0) h h2 hne (by decide)
theorem Lp_step {mem m m9 : Mem} {b b2 n i : Nat} (h : Lp mem m b b2 n i) (hb : isB b) (h2 : isB b2) (hne : b ≠ b2) (hi : i < 8) (hc : Cp m m9 (b + (3 + i)) (b2 + (3 + i)) 10) : Lp mem m9 b b2 n (i + 1) := by
  obtain ⟨a1, a2, a3, a4⟩ := h
  refine ⟨fun c hcc => (hc.1 c (by omega)).trans (a1 c hcc), by rw [hc.1 _ (by omega)]; exact a2, fun k hk => by rw [hc.1 _ (by omega)]; exact a3 k hk, fun q hq k hk => ?_⟩
  by_cases e : q = i
  · subst e
    rw [hc.2 k hk, a1 _ (isB_out hb h2 hne (by omega))]
  · rw [hc.1 _ (by omega)]; exact a4 q (by omega) k hk
/-- the copy shows what was shown -/
theorem Rep_copy {mem m m6 : Mem} {b b2 n w : Nat} {s : Rw} (hb : isB b) (h2 : isB b2) (hne : b ≠ b2) (hn8 : n ≤ 8) (hR : Rep (blk mem b2) s n w) (h : Lp mem m b b2 n n) (g1 : ∀ d, (d < b + 11 ∨ b + 16 < d) → m6 d = m d) (g2 : ∀ k, (k = 4 ∨ 6 ≤ k ∧ k < 12) → m6 (b + 11) k = m (b2 + 11) k) (g3 : ∀ r, 12 ≤ r → r < 16 → ∀ k, k < w → m6 (b + r) k = m (b2 + r) k) (g4 : ∀ k, k < (wl s w).length → m6 (b + 16) k = m (b2 + 16) k) : Out mem (up (up m6 b 4 (mem b2 4)) b 5 (mem b2 5)) b ∧ Rep (blk (up (up m6 b 4 (mem b2 4)) b 5 (mem b2 5)) b) s n w := by
  obtain ⟨a1, a2, a3, a4⟩ := h
  have em : ∀ r, r < 17 → m (b2 + r) = mem (b2 + r) := fun r hr => a1 _ (isB_out hb h2 hne hr)
  have ec : ∀ r, 1 ≤ r → up (up m6 b 4 (mem b2 4)) b 5 (mem b2 5) (b + r) = m6 (b + r) := fun r hr => by rw [up_ne (by omega), up_ne (by omega)]
  have e0 : ∀ k, k ≠ 4 → k ≠ 5 → up (up m6 b 4 (mem b2 4)) b 5 (mem b2 5) (b + 0) k = m b k := fun k h4 h5 => by
    show up (up m6 b 4 (mem b2 4)) b 5 (mem b2 5) b k = m b k
    rw [up_rr, if_neg h5, up_rr, if_neg h4, g1 b (by omega)]
  obtain ⟨⟨s1, s2, s3⟩, ⟨t1, t2, t3, t4, t5, t6, t7, t8⟩, s4, s5⟩ := hR
  have e11 : ∀ k, (k = 4 ∨ 6 ≤ k ∧ k < 12) → blk (up (up m6 b 4 (mem b2 4)) b 5 (mem b2 5)) b 11 k = mem (b2 + 11) k := fun k hk => by
    show up (up m6 b 4 (mem b2 4)) b 5 (mem b2 5) (b + 11) k = _
    rw [ec 11 (by decide), g2 k hk, em 11 (by decide)]
  have er : ∀ r, 12 ≤ r → r < 16 → ∀ k, k < w → blk (up (up m6 b 4 (mem b2 4)) b 5 (mem b2 5)) b r k = mem (b2 + r) k := fun r h1 h3 k hk => by
    show up (up m6 b 4 (mem b2 4)) b 5 (mem b2 5) (b + r) k = _
    rw [ec r (by omega), g3 r h1 h3 k hk, em r (by omega)]
  refine ⟨fun c hc => by rw [up_ne (by omega), up_ne (by omega), g1 c (by omega)]; exact a1 c hc, ⟨?_, fun k hk => ?_, fun i hi => ⟨fun k hk => ?_, ?_⟩⟩, ⟨?_, fun k hk => ?_, ⟨?_, fun j hj => ?_⟩, ?_, ?_, ?_, ?_, ?_⟩, ?_, ?_⟩
  · exact (e0 3 (by decide) (by decide)).trans a2
  · show up (up m6 b 4 (mem b2 4)) b 5 (mem b2 5) (b + 1) k = _
    rw [ec 1 (by decide), g1 _ (by omega), a3 k hk]; exact s2 k hk
  · show up (up m6 b 4 (mem b2 4)) b 5 (mem b2 5) (b + (3 + i)) k = _
    rw [ec (3 + i) (by omega), g1 _ (by omega), a4 i hi k (by omega)]; exact (s3 i hi).1 k hk
  · show up (up m6 b 4 (mem b2 4)) b 5 (mem b2 5) (b + (3 + i)) 9 = _
    rw [ec (3 + i) (by omega), g1 _ (by omega), a4 i hi 9 (by decide)]; exact (s3 i hi).2
  · exact (e11 4 (Or.inl rfl)).trans t1
  · obtain ⟨u1, u2, u3, u4⟩ := t2 k hk
    exact ⟨(er 12 (by decide) (by decide) k hk).trans u1, (er 13 (by decide) (by decide) k hk).trans u2, (er 14 (by decide) (by decide) k hk).trans u3, (er 15 (by decide) (by decide) k hk).trans u4⟩
  · exact (e11 6 (Or.inr (by decide))).trans t3.1
  · show up (up m6 b 4 (mem b2 4)) b 5 (mem b2 5) (b + 16) j = _
    rw [ec 16 (by decide), g4 j hj, em 16 (by decide)]; exact t3.2 j hj
  · exact (e11 7 (Or.inr (by decide))).trans t4
  · exact t5.imp id (fun q => (e11 8 (Or.inr (by decide))).trans q)
  · exact (e11 9 (Or.inr (by decide))).trans t6
  · exact (e11 10 (Or.inr (by decide))).trans t7
  · exact (e11 11 (Or.inr (by decide))).trans t8
  · show up (up m6 b 4 (mem b2 4)) b 5 (mem b2 5) b 4 = _
    rw [up_rr, if_neg (by decide), up_rr, if_pos rfl]; exact s4
  · show up (up m6 b 4 (mem b2 4)) b 5 (mem b2 5) b 5 = _
    rw [up_rr, if_pos rfl]; exact s5
set_option maxRecDepth 100000 in
set_option maxHeartbeats 4000000 in
theorem copyLoop {X : jX} {ad : Nat → Nat} {mem : Mem} {b b2 n w : Nat} {s : Rw} (hb : isB b) (h2 : isB b2) (hne : b ≠ b2) (hV : Rv s n w) (hR : Rep (blk mem b2) s n w) : ∀ (j i : Nat) (m : Mem), i + j = n → Lp mem m b b2 n i → Jg X RX0 cX0_copyFrom 3 (none) "copyFrom" 2 0 0 (QF X ad (fun v m9 => v = none ∧ Out mem m9 b ∧ Rep (blk m9 b) s n w)) ad 0 0 24 [(0, .ref b), (1, .ref b2), (2, .int (nI i))] [] (WS X ad m) := by
  have hn8 := hV.1.1
  have hw := hV.1.2.2.1.1.1
  have h10 : (wl s w).length ≤ 10 := by have := hV.2.2.2.2.1; unfold opA at this; omega
  have hno0 := isB_out0 hb h2 hne
  intro j
  induction j with
  | zero =>
    intro i m hi h
    obtain rfl : i = n := by omega
    refine J_iload_n dX0_copyFrom_24 rfl rfl ?_
    refine J_aload_n dX0_copyFrom_25 rfl rfl ?_
    refine gX0_boardCount (by first | assumption | exact isB1 | exact isB18) wf_X0_43 dX0_copyFrom_26 ?_
    refine J_topi (fun z9 hz9 => ?_)
    obtain rfl : z9 = (nI i) := hz9.trans (by exact h.2.1)
    clear hz9
    refine J_icmp_ge (tgt := 53) dX0_copyFrom_29 (by decide) (fun h29 => ?_) (fun h29 => absurd (nI_le1 (Nat.le_refl _) (by omega)) h29)
    refine J_aload_n dX0_copyFrom_53 rfl rfl ?_
    refine gX0_bus (by first | assumption | exact isB1 | exact isB18) wf_X0_33 dX0_copyFrom_54 ?_
    refine J_aload_n dX0_copyFrom_57 rfl rfl ?_
    refine gX0_bus (by first | assumption | exact isB1 | exact isB18) wf_X0_33 dX0_copyFrom_58 ?_
    refine cVg wv_X0_51 (c_X2_copyFrom (w := w) (L := (wl s w).length) hb h2 hne ((congrFun (h.1 _ (isB_out hb h2 hne (by decide))) 4).trans hR.2.1.1) hw ((congrFun (h.1 _ (isB_out hb h2 hne (by decide))) 6).trans hR.2.1.2.2.1.1) h10) dX0_copyFrom_61 (ob2 (by first | assumption | exact isB1 | exact isB18)) rfl rfl (kk := (fun v m9 hf9 => ?_))
    obtain ⟨rfl, g1, g2, g3, g4⟩ := hf9
    refine J_aload_n dX0_copyFrom_64 rfl rfl ?_
    refine J_aload_n dX0_copyFrom_65 rfl rfl ?_
    refine gX0_time (by first | assumption | exact isB1 | exact isB18) wf_X0_54 dX0_copyFrom_66 ?_
    refine J_topi (fun z9 hz9 => ?_)
    obtain rfl : z9 = (mem b2 4) := hz9.trans (by rw [g1 _ (by omega), h.1 b2 hno0])
    clear hz9
    refine pX0_time (by first | assumption | exact isB1 | exact isB18) wf_X0_54 dX0_copyFrom_69 ?_
    refine J_aload_n dX0_copyFrom_72 rfl rfl ?_
    refine J_aload_n dX0_copyFrom_73 rfl rfl ?_
    refine gX0_plugs (by first | assumption | exact isB1 | exact isB18) wf_X0_57 dX0_copyFrom_74 ?_
    refine J_topi (fun z9 hz9 => ?_)
    obtain rfl : z9 = (mem b2 5) := hz9.trans (by rw [up_ne (by omega), g1 _ (by omega), h.1 b2 hno0])
    clear hz9
    refine pX0_plugs (by first | assumption | exact isB1 | exact isB18) wf_X0_57 dX0_copyFrom_77 ?_
    refine r_void dX0_copyFrom_80 ?_
    exact ⟨rfl, Rep_copy hb h2 hne hn8 hR h g1 g2 g3 g4⟩
  | succ j ih =>
    intro i m hi h
    have i8 : i < 8 := by omega
    have e9 : m (b2 + (3 + i)) = mem (b2 + (3 + i)) := h.1 _ (isB_out hb h2 hne (by omega))
    have hf := hV.2.1 i (by omega)
    have r1 := (hR.1.2.2 i (by omega)).1
    refine J_iload_n dX0_copyFrom_24 rfl rfl ?_
    refine J_aload_n dX0_copyFrom_25 rfl rfl ?_
    refine gX0_boardCount (by first | assumption | exact isB1 | exact isB18) wf_X0_43 dX0_copyFrom_26 ?_
    refine J_topi (fun z9 hz9 => ?_)
    obtain rfl : z9 = (nI n) := hz9.trans (by exact h.2.1)
    clear hz9
    refine J_icmp_ge (tgt := 53) dX0_copyFrom_29 (by decide) (fun h29 => absurd h29 (nI_nle1 (by omega) (by omega))) (fun h29 => ?_)
    refine J_aload_n dX0_copyFrom_32 rfl rfl ?_
    refine gX0_boards (by first | assumption | exact isB1 | exact isB18) wf_X0_25 dX0_copyFrom_33 ?_
    refine J_iload_n dX0_copyFrom_36 rfl rfl ?_
    refine al_boards hb (k := i) (nI_cl (by omega)) dX0_copyFrom_37 (nIin (by omega) (by decide)) ?_
    refine J_aload_n dX0_copyFrom_38 rfl rfl ?_
    refine gX0_boards (by first | assumption | exact isB1 | exact isB18) wf_X0_25 dX0_copyFrom_39 ?_
    refine J_iload_n dX0_copyFrom_42 rfl rfl ?_
    refine al_boards h2 (k := i) (nI_cl (by omega)) dX0_copyFrom_43 (nIin (by omega) (by decide)) ?_
    refine cVg wv_X0_47 (c_X1_copyFrom hb h2 hne i8 (by rw [e9]; have := r1 6 (by decide); unfold blk at this; rw [this]; exact hf.2.1) (by rw [e9]; have := r1 7 (by decide); unfold blk at this; rw [this]; exact hf.2.2.imp id (fun q => q.1))) dX0_copyFrom_44 (ob1 (by first | assumption | exact isB1 | exact isB18) (by first | assumption | omega)) rfl rfl (kk := (fun v m9 hf9 => ?_))
    obtain ⟨rfl, hc9⟩ := hf9
    refine J_iinc (v := _ + 1) dX0_copyFrom_47 rfl rfl rfl rfl ?_
    rw [show nI i + 1 = nI (i + 1) from (nI_succ i).symm]
    refine J_goto (tgt := 24) dX0_copyFrom_50 (by decide) ?_
    exact ih (i + 1) _ (by omega) (Lp_step h hb h2 hne i8 hc9)

set_option maxRecDepth 100000 in
set_option maxHeartbeats 4000000 in
theorem c_X0_copyFrom {X : jX} {ad : Nat → Nat} {mem : Mem} {b b2 n w : Nat} {s : Rw} (hb : isB b) (h2 : isB b2) (hne : b ≠ b2) (hV : Rv s n w) (hR : Rep (blk mem b2) s n w) : Cm X yX0_copyFrom cX0_copyFrom 3 (none) 2 ad [.ref b, .ref b2] mem (fun v m9 => v = none ∧ Out mem m9 b ∧ Rep (blk m9 b) s n w) := by
  refine Cm.of (own := RX0) (nm := "copyFrom") (by decide +kernel) rfl rfl rfl rfl ?_
  have hn8 := hV.1.1
  have hw := hV.1.2.2.1.1.1
  have h10 : (wl s w).length ≤ 10 := by have := hV.2.2.2.2.1; unfold opA at this; omega
  have hno0 := isB_out0 hb h2 hne
  refine J_aload_n dX0_copyFrom_0 rfl rfl ?_
  refine gX0_settings (by first | assumption | exact isB1 | exact isB18) wf_X0_18 dX0_copyFrom_1 ?_
  refine J_iconst (v := 0) dX0_copyFrom_4 (by decide) ?_
  refine J_aload_n dX0_copyFrom_5 rfl rfl ?_
  refine gX0_settings (by first | assumption | exact isB1 | exact isB18) wf_X0_18 dX0_copyFrom_6 ?_
  refine J_iconst (v := 0) dX0_copyFrom_9 (by decide) ?_
  refine J_iconst (v := 5) dX0_copyFrom_10 (by decide) ?_
  refine a_cp wm_X0_37 dX0_copyFrom_11 rfl rfl (by have := h2.lt; omega) (by have := hb.lt; omega) (CEa_set h2) (CEa_set hb) 5 (by decide) (by decide) (by decide) (fun m11 hc11 => ?_)
  refine J_aload_n dX0_copyFrom_14 rfl rfl ?_
  refine J_aload_n dX0_copyFrom_15 rfl rfl ?_
  refine gX0_boardCount (by first | assumption | exact isB1 | exact isB18) wf_X0_43 dX0_copyFrom_16 ?_
  refine J_topi (fun z9 hz9 => ?_)
  obtain rfl : z9 = (nI n) := hz9.trans (by rw [hc11.1 _ (by omega)]; exact hR.1.1)
  clear hz9
  refine pX0_boardCount (by first | assumption | exact isB1 | exact isB18) wf_X0_43 dX0_copyFrom_19 ?_
  refine J_iconst (v := 0) dX0_copyFrom_22 (by decide) ?_
  refine J_istore_n dX0_copyFrom_23 rfl rfl rfl ?_
  refine copyLoop hb h2 hne hV hR n 0 _ (Nat.zero_add _) ⟨fun c hc => by rw [up_ne (by omega), hc11.1 _ (by omega)], by rw [up_rr, if_pos rfl], fun k hk => by rw [up_ne (by omega)]; exact hc11.2 k hk, fun q hq => absurd hq (by omega)⟩

