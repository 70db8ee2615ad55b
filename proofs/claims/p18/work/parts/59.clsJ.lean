theorem wl_succ {s : Rw} {j : Nat} : wl s (j + 1) = if wv s j / 64 % 4 = 0 then wl s j ++ [j] else wl s j := by
  unfold wl
  rw [List.range_succ, List.filter_append]
  by_cases h : wv s j / 64 % 4 = 0
  · rw [if_pos h, List.filter_cons_of_pos (by unfold isWt; exact beq0.mpr h)]
    rfl
  · rw [if_neg h, List.filter_cons_of_neg (by unfold isWt; intro g; exact h (beq0.mp g))]
    simp
/-- going words of a board, of all boards: counted -/
def cL (s : Rw) (d : Nat) : Nat → Nat
  | 0 => 0
  | j + 1 => if iG (wv s j) = 0 then cL s d j else if iO (wv s j) d = 0 then cL s d j else cL s d j + 1
def cA (s : Rw) : Nat → Nat
  | 0 => 0
  | j + 1 => if iG (wv s j) = 0 then cA s j else cA s j + 1
theorem goO_cL {s : Rw} {d : Nat} : ∀ j, goO s d j = nI (cL s d j) := by
  intro j
  induction j with
  | zero => rfl
  | succ j ih =>
    unfold goO cL
    split
    · rw [Int32.add_zero, ih]
    · split
      · rw [Int32.add_zero, ih]
      · rw [ih, nI_succ]
theorem goN_cA {s : Rw} : ∀ j, goN s j = nI (cA s j) := by
  intro j
  induction j with
  | zero => rfl
  | succ j ih =>
    unfold goN cA
    split
    · rw [Int32.add_zero, ih]
    · rw [ih, nI_succ]
/-- the word on the bus among the first j -/
def bO (s : Rw) (d j : Nat) : Nat := if s 295 = -6 then 0 else if (s 295).toNatClampNeg < j then (if iO (wv s (s 295).toNatClampNeg) d = 0 then 0 else 1) else 0
def bA (s : Rw) (j : Nat) : Nat := if s 295 = -6 then 0 else if (s 295).toNatClampNeg < j then 1 else 0
theorem iG_0 {v : Nat} : iG v = 0 ↔ 2 ≤ v / 64 % 4 := by
  unfold iG
  split
  · next h => exact ⟨fun g => absurd g (by decide), fun g => by omega⟩
  · next h => exact ⟨fun _ => by omega, fun _ => rfl⟩
theorem bus_at {s : Rw} {w j : Nat} (hw : w ≤ 200) (hB : OkB s w) (hj : j < w) (h1 : wv s j / 64 % 4 = 1 ↔ s 295 = nI j) : (wv s j / 64 % 4 = 1 → ¬ s 295 = -6 ∧ (s 295).toNatClampNeg = j) ∧ (¬ s 295 = -6 → (s 295).toNatClampNeg = j → wv s j / 64 % 4 = 1) := by
  constructor
  · intro g
    have e := h1.1 g
    rw [e]
    exact ⟨nI_m6 (by omega), nI_cl (by omega)⟩
  · intro g1 g2
    rcases hB with q | ⟨k, hk, q, -⟩
    · exact absurd q g1
    · rw [q, nI_cl (by omega)] at g2
      subst g2
      exact h1.2 q
theorem cL_eq {s : Rw} {w d : Nat} (hw : w ≤ 200) (hB : OkB s w) (hG : ∀ k, k < w → (wv s k / 64 % 4 = 1 ↔ s 295 = nI k)) : ∀ j, j ≤ w → cL s d j = bO s d j + cO s d (wl s j) := by
  intro j
  induction j with
  | zero =>
    intro _
    unfold bO
    split
    · rfl
    · rw [if_neg (by omega)]; rfl
  | succ j ih =>
    intro hj
    obtain ⟨b1, b2⟩ := bus_at hw hB (show j < w by omega) (hG j (by omega))
    have ih := ih (by omega)
    unfold cL
    rw [wl_succ]
    have bs : wv s j / 64 % 4 ≠ 1 → bO s d (j + 1) = bO s d j := by
      intro h
      unfold bO
      split
      · rfl
      · next h6 =>
        by_cases e : (s 295).toNatClampNeg = j
        · exact absurd (b2 h6 e) h
        · by_cases e2 : (s 295).toNatClampNeg < j
          · rw [if_pos e2, if_pos (by omega)]
          · rw [if_neg e2, if_neg (by omega)]
    by_cases h0 : wv s j / 64 % 4 = 0
    · rw [if_pos h0, if_neg (by rw [iG_0]; omega), cO_app, bs (by omega)]
      by_cases ho : iO (wv s j) d = 0
      · rw [if_pos ho, if_pos ho, ih]; rfl
      · rw [if_neg ho, if_neg ho, ih]; omega
    · rw [if_neg h0]
      by_cases h1 : wv s j / 64 % 4 = 1
      · obtain ⟨c1, c2⟩ := b1 h1
        rw [if_neg (by rw [iG_0]; omega)]
        have e1 : bO s d j = 0 := by unfold bO; rw [if_neg c1, if_neg (by omega)]
        have e2 : bO s d (j + 1) = if iO (wv s j) d = 0 then 0 else 1 := by unfold bO; rw [if_neg c1, if_pos (by omega), c2]
        rw [e2]
        rw [e1] at ih
        by_cases ho : iO (wv s j) d = 0
        · rw [if_pos ho, if_pos ho]; exact ih
        · rw [if_neg ho, if_neg ho]; omega
      · rw [if_pos (by rw [iG_0]; omega), bs h1]; exact ih
theorem cA_eq {s : Rw} {w : Nat} (hw : w ≤ 200) (hB : OkB s w) (hG : ∀ k, k < w → (wv s k / 64 % 4 = 1 ↔ s 295 = nI k)) : ∀ j, j ≤ w → cA s j = bA s j + (wl s j).length := by
  intro j
  induction j with
  | zero =>
    intro _
    unfold bA
    split
    · rfl
    · rw [if_neg (by omega)]; rfl
  | succ j ih =>
    intro hj
    obtain ⟨b1, b2⟩ := bus_at hw hB (show j < w by omega) (hG j (by omega))
    have ih := ih (by omega)
    unfold cA
    rw [wl_succ]
    have bs : wv s j / 64 % 4 ≠ 1 → bA s (j + 1) = bA s j := by
      intro h
      unfold bA
      split
      · rfl
      · next h6 =>
        by_cases e : (s 295).toNatClampNeg = j
        · exact absurd (b2 h6 e) h
        · by_cases e2 : (s 295).toNatClampNeg < j
          · rw [if_pos e2, if_pos (by omega)]
          · rw [if_neg e2, if_neg (by omega)]
    by_cases h0 : wv s j / 64 % 4 = 0
    · rw [if_pos h0, if_neg (by rw [iG_0]; omega), List.length_append, bs (by omega), ih]
      rfl
    · rw [if_neg h0]
      by_cases h1 : wv s j / 64 % 4 = 1
      · obtain ⟨c1, c2⟩ := b1 h1
        rw [if_neg (by rw [iG_0]; omega)]
        have e1 : bA s j = 0 := by unfold bA; rw [if_neg c1, if_neg (by omega)]
        have e2 : bA s (j + 1) = 1 := by unfold bA; rw [if_neg c1, if_pos (by omega)]
        omega
      · rw [if_pos (by rw [iG_0]; omega), bs h1]; exact ih
/-- the counts of the reference are the class's -/
theorem goO_ooA {s : Rw} {n w d : Nat} (hO : OkW s w) (hB : OkB s w) (hI : Iw s n w) : goO s d w = nI (ooA s w d) := by
  have hw := hO.1
  rw [goO_cL, cL_eq hw hB (fun k hk => (hI.1 k hk).2.2) w (Nat.le_refl _)]
  unfold ooA bO
  rcases hB with q | ⟨k, hk, q, -⟩
  · rw [if_pos q, if_pos q]
  · have hm : ¬ s 295 = -6 := by rw [q]; exact nI_m6 (by omega)
    rw [if_neg hm, if_neg hm, q, nI_cl (by omega), if_pos hk]
theorem goN_opA {s : Rw} {n w : Nat} (hO : OkW s w) (hB : OkB s w) (hI : Iw s n w) : goN s w = nI (opA s w) := by
  have hw := hO.1
  rw [goN_cA, cA_eq hw hB (fun k hk => (hI.1 k hk).2.2) w (Nat.le_refl _)]
  unfold opA bA
  rcases hB with q | ⟨k, hk, q, -⟩
  · rw [if_pos q, if_pos q, Nat.add_comm]
  · have hm : ¬ s 295 = -6 := by rw [q]; exact nI_m6 (by omega)
    rw [if_neg hm, if_neg hm, q, nI_cl (by omega), if_pos hk, Nat.add_comm]
theorem ge10 : ∀ x, x < 12 → ((10 : Int32) ≤ nI x ↔ 10 ≤ x) := by decide
theorem lt200 : ∀ x, x < 201 → (nI x < 200 ↔ x < 200) := by decide +kernel
theorem rel_q {B : Mem} {s : Rw} {w p q : Nat} (hW : RpW B s w) (hO : OkW s w) (hw : w < 200) (hp : p < 8) (hq : q < 8) : RpW (up (up (up (up (up (up (up B 12 w (nI p)) 13 w (nI q)) 14 w 0) 15 w 0) 16 (wl s w).length (nI w)) 11 6 (nI (wl s w).length + 1)) 11 4 (nI w + 1)) (upd (upd s 94 (nI (w + 1))) (95 + w) (nI (p + 8 * q))) (w + 1) := by
  obtain ⟨g1, g2, g3, g4, g5, g6, g7, g8⟩ := hW
  generalize ht : upd (upd s 94 (nI (w + 1))) (95 + w) (nI (p + 8 * q)) = t
  have lk : t (95 + w) = nI (p + 8 * q) := by rw [← ht, upd_same]
  have lj : ∀ j, j < w → t (95 + j) = s (95 + j) := fun j hj => by rw [← ht, upd_at, if_neg (by omega), upd_at, if_neg (by omega)]
  have tx : ∀ x, 295 ≤ x → t x = s x := fun x h1 => by rw [← ht, upd_at, if_neg (by omega), upd_at, if_neg (by omega)]
  have ek : wv t w = p + 8 * q := wv_of (by omega) lk
  have e1 : (p + 8 * q) % 8 = p ∧ (p + 8 * q) / 8 % 8 = q ∧ (p + 8 * q) / 64 % 4 = 0 ∧ (p + 8 * q) / 256 = 0 := by omega
  refine ⟨?_, fun j hj => ?_, ?_, ?_, ?_, ?_, ?_, ?_⟩
  · rw [up_rr, if_pos rfl, nI_succ]
  · by_cases hjk : j = w
    · subst hjk
      refine RWd_of (v := p + 8 * q) (by omega) lk ?_ ?_ ?_ ?_
      · rw [up_ne (by decide), up_ne (by decide), up_ne (by decide), up_ne (by decide), up_ne (by decide), up_ne (by decide), up_rr, if_pos rfl, e1.1]
      · rw [up_ne (by decide), up_ne (by decide), up_ne (by decide), up_ne (by decide), up_ne (by decide), up_rr, if_pos rfl, e1.2.1]
      · rw [up_ne (by decide), up_ne (by decide), up_ne (by decide), up_ne (by decide), up_rr, if_pos rfl, e1.2.2.1]; rfl
      · rw [up_ne (by decide), up_ne (by decide), up_ne (by decide), up_rr, if_pos rfl, e1.2.2.2]; rfl
    · exact RWd_same (g2 j (by omega)) (lj j (by omega)) (by rw [up_ne (by decide), up_ne (by decide), up_ne (by decide), up_ne (by decide), up_ne (by decide), up_ne (by decide), up_rr, if_neg hjk]) (by rw [up_ne (by decide), up_ne (by decide), up_ne (by decide), up_ne (by decide), up_ne (by decide), up_rr, if_neg hjk, up_ne (by decide)]) (by rw [up_ne (by decide), up_ne (by decide), up_ne (by decide), up_ne (by decide), up_rr, if_neg hjk, up_ne (by decide), up_ne (by decide)]) (by rw [up_ne (by decide), up_ne (by decide), up_ne (by decide), up_rr, if_neg hjk, up_ne (by decide), up_ne (by decide), up_ne (by decide)])
  · have e : wl t (w + 1) = wl s w ++ [w] := by rw [wl_succ, ek, if_pos e1.2.2.1, wl_same lj]
    rw [e]
    refine ⟨?_, fun j hj => ?_⟩
    · rw [up_rr, if_neg (by decide), up_rr, if_pos rfl, List.length_append]
      exact (nI_succ _).symm
    · rw [up_ne (by decide), up_ne (by decide), up_rr]
      rw [List.length_append] at hj
      have hj2 : j < (wl s w).length + 1 := hj
      by_cases hjl : j = (wl s w).length
      · rw [if_pos hjl, hjl, List.getD_eq_getElem?_getD, List.getElem?_append_right (Nat.le_refl _), Nat.sub_self]
        rfl
      · rw [if_neg hjl, up_ne (by decide), up_ne (by decide), up_ne (by decide), up_ne (by decide), g3.2 j (by omega), List.getD_eq_getElem?_getD, List.getD_eq_getElem?_getD, List.getElem?_append_left (by omega)]
  · rw [up_rr, if_neg (by decide), up_rr, if_neg (by decide), up_ne (by decide), up_ne (by decide), up_ne (by decide), up_ne (by decide), up_ne (by decide), tx 295 (by decide)]; exact g4
  · rw [up_rr, if_neg (by decide), up_rr, if_neg (by decide), up_ne (by decide), up_ne (by decide), up_ne (by decide), up_ne (by decide), up_ne (by decide), tx 295 (by decide), tx 296 (by decide)]; exact g5
  · rw [up_rr, if_neg (by decide), up_rr, if_neg (by decide), up_ne (by decide), up_ne (by decide), up_ne (by decide), up_ne (by decide), up_ne (by decide), tx 300 (by decide)]; exact g6
  · rw [up_rr, if_neg (by decide), up_rr, if_neg (by decide), up_ne (by decide), up_ne (by decide), up_ne (by decide), up_ne (by decide), up_ne (by decide), tx 301 (by decide)]; exact g7
  · rw [up_rr, if_neg (by decide), up_rr, if_neg (by decide), up_ne (by decide), up_ne (by decide), up_ne (by decide), up_ne (by decide), up_ne (by decide), tx 299 (by decide)]; exact g8
theorem eq200 {w : Nat} (hw : w ≤ 200) (h : ¬ nI w < 200) : w = 200 := by
  rcases Nat.lt_or_ge w 200 with g | g
  · exact absurd ((lt200 w (by omega)).2 g) h
  · omega
set_option maxRecDepth 100000 in
set_option maxHeartbeats 4000000 in
theorem c_X2_queueWord {X : jX} {ad : Nat → Nat} {m B : Mem} {b : Nat} {s : Rw} {w : Nat} {p q : Nat} (hb : isB b) (hW : RpW B s w) (hO : OkW s w) (hB : OkB s w) (h10 : opA s w ≤ 10) (hp : p < 8) (hq : q < 8) : Cm X yX2_queueWord cX2_queueWord 4 (some .int) 2 ad [.ref (b + 11), .int (nI p), .int (nI q)] (SB m b B) (fun v m9 => ((10 ≤ opA s w ∨ w = 200) ∧ v = some (.int (-4)) ∧ m9 = SB m b B) ∨ (opA s w < 10 ∧ w < 200 ∧ v = some (.int (nI w)) ∧ ∃ B9, m9 = SB m b B9 ∧ RpW B9 (upd (upd s 94 (nI (w + 1))) (95 + w) (nI (p + 8 * q))) (w + 1) ∧ FrW B B9)) := by
  refine Cm.of (own := RX2) (nm := "queueWord") (by decide +kernel) rfl rfl rfl rfl ?_
  have hw := hO.1
  refine J_aload_n dX2_queueWord_0 rfl rfl ?_
  refine cVi wv_X2_63 (c_X2_openWords hb hW hw hB) dX2_queueWord_1 (ob2 (by first | assumption | exact isB1 | exact isB18)) rfl rfl (kk := ?_)
  refine J_bipush (v := 10) dX2_queueWord_4 (by decide) ?_
  refine J_icmp_ge (tgt := 19) dX2_queueWord_6 (by decide) (fun h6 => ?_) (fun h6 => ?_)
  · refine J_bipush (v := -4) dX2_queueWord_19 (by decide) ?_
    refine r_int dX2_queueWord_21 ?_
    first | exact Or.inl ⟨Or.inl ((ge10 _ (by omega)).1 h6), rfl, rfl⟩ | exact Or.inl ⟨Or.inr (eq200 hw h16), rfl, rfl⟩
  · refine J_aload_n dX2_queueWord_9 rfl rfl ?_
    refine gB_sent (by first | assumption | exact isB1 | exact isB18) wf_X2_31 dX2_queueWord_10 ?_
    refine J_topi (fun z9 hz9 => ?_)
    obtain rfl : z9 = (nI w) := hz9.trans (by exact hW.1)
    clear hz9
    refine J_sipush (v := 200) dX2_queueWord_13 (by decide) ?_
    refine J_icmp_lt (tgt := 22) dX2_queueWord_16 (by decide) (fun h16 => ?_) (fun h16 => ?_)
    · have hlt : w < 200 := (lt200 w (by omega)).1 h16
      have hop : opA s w < 10 := by
        rcases Nat.lt_or_ge (opA s w) 10 with g | g
        · exact g
        · exact absurd ((ge10 _ (by omega)).2 g) h6
      refine J_aload_n dX2_queueWord_22 rfl rfl ?_
      refine gB_sent (by first | assumption | exact isB1 | exact isB18) wf_X2_31 dX2_queueWord_23 ?_
      refine J_topi (fun z9 hz9 => ?_)
      obtain rfl : z9 = (nI w) := hz9.trans (by exact hW.1)
      clear hz9
      refine J_istore_n dX2_queueWord_26 rfl rfl rfl ?_
      refine J_aload_n dX2_queueWord_27 rfl rfl ?_
      refine gX2_senders (by first | assumption | exact isB1 | exact isB18) wf_X2_9 dX2_queueWord_28 ?_
      refine J_iload_n dX2_queueWord_31 rfl rfl ?_
      refine J_iload_n dX2_queueWord_32 rfl rfl ?_
      refine wB_w12 hb w hlt rfl dX2_queueWord_33 ?_
      refine J_aload_n dX2_queueWord_34 rfl rfl ?_
      refine gX2_receivers (by first | assumption | exact isB1 | exact isB18) wf_X2_15 dX2_queueWord_35 ?_
      refine J_iload_n dX2_queueWord_38 rfl rfl ?_
      refine J_iload_n dX2_queueWord_39 rfl rfl ?_
      refine wB_w13 hb w hlt rfl dX2_queueWord_40 ?_
      refine J_aload_n dX2_queueWord_41 rfl rfl ?_
      refine gX2_conditions (by first | assumption | exact isB1 | exact isB18) wf_X2_18 dX2_queueWord_42 ?_
      refine J_iload_n dX2_queueWord_45 rfl rfl ?_
      refine J_iconst (v := 0) dX2_queueWord_46 (by decide) ?_
      refine wB_w14 hb w hlt rfl dX2_queueWord_47 ?_
      refine J_aload_n dX2_queueWord_48 rfl rfl ?_
      refine gX2_hurts (by first | assumption | exact isB1 | exact isB18) wf_X2_21 dX2_queueWord_49 ?_
      refine J_iload_n dX2_queueWord_52 rfl rfl ?_
      refine J_iconst (v := 0) dX2_queueWord_53 (by decide) ?_
      refine wB_w15 hb w hlt rfl dX2_queueWord_54 ?_
      refine J_aload_n dX2_queueWord_55 rfl rfl ?_
      refine gX2_queue (by first | assumption | exact isB1 | exact isB18) wf_X2_24 dX2_queueWord_56 ?_
      refine J_aload_n dX2_queueWord_59 rfl rfl ?_
      refine gB_queued (by first | assumption | exact isB1 | exact isB18) wf_X2_40 dX2_queueWord_60 ?_
      refine J_topi (fun z9 hz9 => ?_)
      obtain rfl : z9 = (nI (wl s w).length) := hz9.trans (by rw [up_ne (by decide), up_ne (by decide), up_ne (by decide), up_ne (by decide)]; exact hW.2.2.1.1)
      clear hz9
      refine J_iload_n dX2_queueWord_63 rfl rfl ?_
      refine wB_w16 hb (wl s w).length (by have h9 := hop; unfold opA at h9; omega) rfl dX2_queueWord_64 ?_
      refine J_aload_n dX2_queueWord_65 rfl rfl ?_
      refine J_dup dX2_queueWord_66 rfl ?_
      refine gB_queued (by first | assumption | exact isB1 | exact isB18) wf_X2_40 dX2_queueWord_67 ?_
      refine J_topi (fun z9 hz9 => ?_)
      obtain rfl : z9 = (nI (wl s w).length) := hz9.trans (by rw [up_ne (by decide), up_ne (by decide), up_ne (by decide), up_ne (by decide), up_ne (by decide)]; exact hW.2.2.1.1)
      clear hz9
      refine J_iconst (v := 1) dX2_queueWord_70 (by decide) ?_
      refine J_iadd dX2_queueWord_71 ?_
      refine pB_queued (by first | assumption | exact isB1 | exact isB18) wf_X2_40 dX2_queueWord_72 ?_
      refine J_aload_n dX2_queueWord_75 rfl rfl ?_
      refine J_dup dX2_queueWord_76 rfl ?_
      refine gB_sent (by first | assumption | exact isB1 | exact isB18) wf_X2_31 dX2_queueWord_77 ?_
      refine J_topi (fun z9 hz9 => ?_)
      obtain rfl : z9 = (nI w) := hz9.trans (by rw [up_rr, if_neg (by decide), up_ne (by decide), up_ne (by decide), up_ne (by decide), up_ne (by decide), up_ne (by decide)]; exact hW.1)
      clear hz9
      refine J_iconst (v := 1) dX2_queueWord_80 (by decide) ?_
      refine J_iadd dX2_queueWord_81 ?_
      refine pB_sent (by first | assumption | exact isB1 | exact isB18) wf_X2_31 dX2_queueWord_82 ?_
      refine J_iload_n dX2_queueWord_85 rfl rfl ?_
      refine r_int dX2_queueWord_86 ?_
      exact Or.inr ⟨hop, hlt, rfl, _, rfl, rel_q hW hO hlt hp hq, FrW.up (FrW.up (FrW.up (FrW.up (FrW.up (FrW.up (FrW.up FrW.rf (by decide)) (by decide)) (by decide)) (by decide)) (by decide)) (by decide)) (by decide)⟩
    · refine J_bipush (v := -4) dX2_queueWord_19 (by decide) ?_
      refine r_int dX2_queueWord_21 ?_
      first | exact Or.inl ⟨Or.inl ((ge10 _ (by omega)).1 h6), rfl, rfl⟩ | exact Or.inl ⟨Or.inr (eq200 hw h16), rfl, rfl⟩

