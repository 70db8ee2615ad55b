/-- the words that wait, in their order -/
def isWt (s : Rw) (k : Nat) : Bool := Nat.beq (wv s k / 64 % 4) 0
def wl (s : Rw) (w : Nat) : List Nat := (List.range w).filter (isWt s)
/-- a block's word shows the row's -/
def RWd (B : Mem) (s : Rw) (k : Nat) : Prop := B 12 k = nI (wv s k % 8) ∧ B 13 k = nI (wv s k / 8 % 8) ∧ B 14 k = nI (wv s k / 64 % 4) ∧ B 15 k = nI (wv s k / 256)
/-- a block's queue -/
def QL (B : Mem) (l : List Nat) : Prop := B 11 6 = nI l.length ∧ ∀ j, j < l.length → B 16 j = nI (l.getD j 0)
/-- a block's bus shows the row's words -/
def RpW (B : Mem) (s : Rw) (w : Nat) : Prop := B 11 4 = nI w ∧ (∀ k, k < w → RWd B s k) ∧ QL B (wl s w) ∧ B 11 7 = s 295 ∧ (s 295 = -6 ∨ B 11 8 = s 296) ∧ B 11 9 = s 300 ∧ B 11 10 = s 301 ∧ B 11 11 = s 299
theorem wl_mem {s : Rw} {w k : Nat} (h : k ∈ wl s w) : k < w ∧ wv s k / 64 % 4 = 0 := by
  unfold wl at h
  obtain ⟨h1, h2⟩ := List.mem_filter.mp h
  exact ⟨List.mem_range.mp h1, Nat.eq_of_beq_eq_true h2⟩
theorem getD_mem {l : List Nat} {j : Nat} (h : j < l.length) : l.getD j 0 ∈ l := by
  rw [List.getD_eq_getElem?_getD, List.getElem?_eq_getElem h]
  exact List.getElem_mem h
theorem wl_at {s : Rw} {w j : Nat} (h : j < (wl s w).length) : (wl s w).getD j 0 < w ∧ wv s ((wl s w).getD j 0) / 64 % 4 = 0 := wl_mem (getD_mem h)
theorem wl_len {s : Rw} {w : Nat} : (wl s w).length ≤ w := by
  unfold wl
  exact Nat.le_trans (List.length_filter_le _ _) (by rw [List.length_range]; exact Nat.le_refl _)
set_option maxRecDepth 100000 in
set_option maxHeartbeats 4000000 in
theorem c_isWord {X : jX} {ad : Nat → Nat} {m B : Mem} {b : Nat} {w : Nat} {k : Nat} (hb : isB b) (h4 : B 11 4 = nI w) (hk : k < w) (hw : w ≤ 200) : Cd X yX2_isWord cX2_isWord 2 (some .boolean) 0 ad [.ref (b + 11), .int (nI k)] (SB m b B) (some (.int 1)) ((SB m b B)) := by
  refine Cm.of (own := RX2) (nm := "isWord") (by decide +kernel) rfl rfl rfl rfl ?_
  refine J_iload_n dX2_isWord_0 rfl rfl ?_
  refine J_if_lt (tgt := 16) dX2_isWord_1 (by decide) (fun h1 => absurd h1 (nI_lt0 (by omega))) (fun h1 => ?_)
  refine J_iload_n dX2_isWord_4 rfl rfl ?_
  refine J_aload_n dX2_isWord_5 rfl rfl ?_
  refine gB_sent (by first | assumption | exact isB1 | exact isB18) wf_X2_31 dX2_isWord_6 ?_
  refine J_topi (fun z9 hz9 => ?_)
  obtain rfl : z9 = (nI w) := hz9.trans (by exact h4)
  clear hz9
  refine J_icmp_ge (tgt := 16) dX2_isWord_9 (by decide) (fun h9 => absurd h9 (nI_nle1 hk (by omega))) (fun h9 => ?_)
  refine J_iconst (v := 1) dX2_isWord_12 (by decide) ?_
  refine J_goto (tgt := 17) dX2_isWord_13 (by decide) ?_
  refine r_bool dX2_isWord_17 (by first | exact Or.inl rfl | exact Or.inr rfl | exact i01 | exact jin01) ?_
  exact ⟨rfl, rfl⟩

set_option maxRecDepth 100000 in
set_option maxHeartbeats 4000000 in
theorem c_isWordN {X : jX} {ad : Nat → Nat} {m B : Mem} {b : Nat}  (hb : isB b) : Cd X yX2_isWord cX2_isWord 2 (some .boolean) 0 ad [.ref (b + 11), .int (-6)] (SB m b B) (some (.int 0)) ((SB m b B)) := by
  refine Cm.of (own := RX2) (nm := "isWord") (by decide +kernel) rfl rfl rfl rfl ?_
  refine J_iload_n dX2_isWord_0 rfl rfl ?_
  refine J_if_lt (tgt := 16) dX2_isWord_1 (by decide) (fun h1 => ?_) (fun h1 => absurd (by decide) h1)
  refine J_iconst (v := 0) dX2_isWord_16 (by decide) ?_
  refine r_bool dX2_isWord_17 (by first | exact Or.inl rfl | exact Or.inr rfl | exact i01 | exact jin01) ?_
  exact ⟨rfl, rfl⟩

set_option maxRecDepth 100000 in
set_option maxHeartbeats 4000000 in
theorem c_isBetween {X : jX} {ad : Nat → Nat} {m B : Mem} {b : Nat} {s : Rw} {w : Nat} {k d : Nat} (hb : isB b) (hW : RpW B s w) (hw : w ≤ 200) (hk : k < w) (hd : d < 8) : Cd X yX2_isBetween cX2_isBetween 3 (some .boolean) 0 ad [.ref (b + 11), .int (nI k), .int (nI d)] (SB m b B) (some (.int (iO (wv s k) d))) ((SB m b B)) := by
  refine Cm.of (own := RX2) (nm := "isBetween") (by decide +kernel) rfl rfl rfl rfl ?_
  refine J_iload_n dX2_isBetween_0 rfl rfl ?_
  refine J_if_lt (tgt := 36) dX2_isBetween_1 (by decide) (fun h1 => absurd h1 (nI_lt0 (by omega))) (fun h1 => ?_)
  refine J_iload_n dX2_isBetween_4 rfl rfl ?_
  refine J_aload_n dX2_isBetween_5 rfl rfl ?_
  refine gB_sent (by first | assumption | exact isB1 | exact isB18) wf_X2_31 dX2_isBetween_6 ?_
  refine J_topi (fun z9 hz9 => ?_)
  obtain rfl : z9 = (nI w) := hz9.trans (by exact hW.1)
  clear hz9
  refine J_icmp_ge (tgt := 36) dX2_isBetween_9 (by decide) (fun h9 => absurd h9 (nI_nle1 hk (by omega))) (fun h9 => ?_)
  refine J_aload_n dX2_isBetween_12 rfl rfl ?_
  refine gX2_senders (by first | assumption | exact isB1 | exact isB18) wf_X2_9 dX2_isBetween_13 ?_
  refine J_iload_n dX2_isBetween_16 rfl rfl ?_
  refine rB_w12 hb k (by omega) rfl dX2_isBetween_17 ?_
  refine J_topi (fun z9 hz9 => ?_)
  obtain rfl : z9 = (nI (wv s k % 8)) := hz9.trans (by exact (hW.2.1 k hk).1)
  clear hz9
  refine J_iload_n dX2_isBetween_18 rfl rfl ?_
  refine J_icmp_eq (tgt := 32) dX2_isBetween_19 (by decide) (fun h19 => ?_) (fun h19 => ?_)
  · refine J_iconst (v := 1) dX2_isBetween_32 (by decide) ?_
    refine J_goto (tgt := 37) dX2_isBetween_33 (by decide) ?_
    refine r_bool dX2_isBetween_37 (by first | exact Or.inl rfl | exact Or.inr rfl | exact i01 | exact jin01) ?_
    first | exact ⟨by rw [iO, if_pos (Or.inl (nI_ij (by omega) (by omega) h19))], rfl⟩ | exact ⟨by rw [iO, if_pos (Or.inr (nI_ij (by omega) (by omega) h29))], rfl⟩ | exact ⟨by rw [iO, if_neg (by rintro (q | q); exact h19 (by rw [q]); exact h29 (by rw [q]))], rfl⟩
  · refine J_aload_n dX2_isBetween_22 rfl rfl ?_
    refine gX2_receivers (by first | assumption | exact isB1 | exact isB18) wf_X2_15 dX2_isBetween_23 ?_
    refine J_iload_n dX2_isBetween_26 rfl rfl ?_
    refine rB_w13 hb k (by omega) rfl dX2_isBetween_27 ?_
    refine J_topi (fun z9 hz9 => ?_)
    obtain rfl : z9 = (nI (wv s k / 8 % 8)) := hz9.trans (by exact (hW.2.1 k hk).2.1)
    clear hz9
    refine J_iload_n dX2_isBetween_28 rfl rfl ?_
    refine J_icmp_ne (tgt := 36) dX2_isBetween_29 (by decide) (fun h29 => ?_) (fun h29 => ?_)
    · refine J_iconst (v := 0) dX2_isBetween_36 (by decide) ?_
      refine r_bool dX2_isBetween_37 (by first | exact Or.inl rfl | exact Or.inr rfl | exact i01 | exact jin01) ?_
      first | exact ⟨by rw [iO, if_pos (Or.inl (nI_ij (by omega) (by omega) h19))], rfl⟩ | exact ⟨by rw [iO, if_pos (Or.inr (nI_ij (by omega) (by omega) h29))], rfl⟩ | exact ⟨by rw [iO, if_neg (by rintro (q | q); exact h19 (by rw [q]); exact h29 (by rw [q]))], rfl⟩
    · refine J_iconst (v := 1) dX2_isBetween_32 (by decide) ?_
      refine J_goto (tgt := 37) dX2_isBetween_33 (by decide) ?_
      refine r_bool dX2_isBetween_37 (by first | exact Or.inl rfl | exact Or.inr rfl | exact i01 | exact jin01) ?_
      first | exact ⟨by rw [iO, if_pos (Or.inl (nI_ij (by omega) (by omega) h19))], rfl⟩ | exact ⟨by rw [iO, if_pos (Or.inr (nI_ij (by omega) (by omega) h29))], rfl⟩ | exact ⟨by rw [iO, if_neg (by rintro (q | q); exact h19 (by rw [q]); exact h29 (by rw [q]))], rfl⟩

set_option maxRecDepth 100000 in
set_option maxHeartbeats 4000000 in
theorem c_isBetweenN {X : jX} {ad : Nat → Nat} {m B : Mem} {b : Nat} {x : Int32} (hb : isB b) : Cd X yX2_isBetween cX2_isBetween 3 (some .boolean) 0 ad [.ref (b + 11), .int (-6), .int x] (SB m b B) (some (.int 0)) ((SB m b B)) := by
  refine Cm.of (own := RX2) (nm := "isBetween") (by decide +kernel) rfl rfl rfl rfl ?_
  refine J_iload_n dX2_isBetween_0 rfl rfl ?_
  refine J_if_lt (tgt := 36) dX2_isBetween_1 (by decide) (fun h1 => ?_) (fun h1 => absurd (by decide) h1)
  refine J_iconst (v := 0) dX2_isBetween_36 (by decide) ?_
  refine r_bool dX2_isBetween_37 (by first | exact Or.inl rfl | exact Or.inr rfl | exact i01 | exact jin01) ?_
  exact ⟨rfl, rfl⟩

def wrA (s : Rw) (w : Nat) (x : Int32) : Int32 := if x < 0 then -6 else if nI (wl s w).length ≤ x then -6 else nI ((wl s w).getD x.toNatClampNeg 0)
theorem lt_of {k l : Nat} (h : ¬ nI l ≤ nI k) (hk : k < 100000) : k < l := by
  rcases Nat.lt_or_ge k l with g | g
  · exact g
  · exact absurd (nI_le1 g hk) h
theorem lt_len {x : Int32} {l : Nat} (h1 : ¬ x < 0) (h2 : ¬ nI l ≤ x) (hl : l ≤ 1000) : x.toNatClampNeg < l ∧ x = nI x.toNatClampNeg := by
  have e := nI_ofN h1
  have a2 := Int32.not_le.mp h2
  rw [Int32.lt_iff_toInt_lt, nI_toInt (by omega)] at a2
  have h3 : x.toNatClampNeg = x.toInt.toNat := rfl
  have a1 := Int32.not_lt.mp h1
  rw [Int32.le_iff_toInt_le] at a1
  have h0 : (0 : Int32).toInt = 0 := rfl
  exact ⟨by omega, e⟩
set_option maxRecDepth 100000 in
set_option maxHeartbeats 4000000 in
theorem c_X2_wordAtRank {X : jX} {ad : Nat → Nat} {m B : Mem} {b : Nat} {s : Rw} {w : Nat} {x : Int32} (hb : isB b) (hQ : QL B (wl s w)) (h10 : (wl s w).length ≤ 10) : Cd X yX2_wordAtRank cX2_wordAtRank 2 (some .int) 0 ad [.ref (b + 11), .int x] (SB m b B) (some (.int (wrA s w x))) ((SB m b B)) := by
  refine Cm.of (own := RX2) (nm := "wordAtRank") (by decide +kernel) rfl rfl rfl rfl ?_
  refine J_iload_n dX2_wordAtRank_0 rfl rfl ?_
  refine J_if_lt (tgt := 21) dX2_wordAtRank_1 (by decide) (fun h1 => ?_) (fun h1 => ?_)
  · refine J_bipush (v := -6) dX2_wordAtRank_21 (by decide) ?_
    refine r_int dX2_wordAtRank_23 ?_
    exact ⟨by first | (rw [wrA, if_pos h1]; done) | (rw [wrA, if_neg h1, if_pos h9]; done) | (rw [wrA, if_neg h1, if_neg h9]; done), rfl⟩
  · refine J_iload_n dX2_wordAtRank_4 rfl rfl ?_
    refine J_aload_n dX2_wordAtRank_5 rfl rfl ?_
    refine gB_queued (by first | assumption | exact isB1 | exact isB18) wf_X2_40 dX2_wordAtRank_6 ?_
    refine J_topi (fun z9 hz9 => ?_)
    obtain rfl : z9 = (nI (wl s w).length) := hz9.trans (by exact hQ.1)
    clear hz9
    refine J_icmp_ge (tgt := 21) dX2_wordAtRank_9 (by decide) (fun h9 => ?_) (fun h9 => ?_)
    · refine J_bipush (v := -6) dX2_wordAtRank_21 (by decide) ?_
      refine r_int dX2_wordAtRank_23 ?_
      exact ⟨by first | (rw [wrA, if_pos h1]; done) | (rw [wrA, if_neg h1, if_pos h9]; done) | (rw [wrA, if_neg h1, if_neg h9]; done), rfl⟩
    · refine J_aload_n dX2_wordAtRank_12 rfl rfl ?_
      refine gX2_queue (by first | assumption | exact isB1 | exact isB18) wf_X2_24 dX2_wordAtRank_13 ?_
      refine J_iload_n dX2_wordAtRank_16 rfl rfl ?_
      refine rB_w16 hb x.toNatClampNeg (by have := (lt_len h1 h9 (by omega)).1; omega) (lt_len h1 h9 (by omega)).2 dX2_wordAtRank_17 ?_
      refine J_topi (fun z9 hz9 => ?_)
      obtain rfl : z9 = (nI ((wl s w).getD x.toNatClampNeg 0)) := hz9.trans (by exact hQ.2 _ (lt_len h1 h9 (by omega)).1)
      clear hz9
      refine J_goto (tgt := 23) dX2_wordAtRank_18 (by decide) ?_
      refine r_int dX2_wordAtRank_23 ?_
      exact ⟨by first | (rw [wrA, if_pos h1]; done) | (rw [wrA, if_neg h1, if_pos h9]; done) | (rw [wrA, if_neg h1, if_neg h9]; done), rfl⟩

def opA (s : Rw) (w : Nat) : Nat := (wl s w).length + (if s 295 = -6 then 0 else 1)
set_option maxRecDepth 100000 in
set_option maxHeartbeats 4000000 in
theorem c_openWords0 {X : jX} {ad : Nat → Nat} {m B : Mem} {b : Nat} {s : Rw} {w : Nat}  (hb : isB b) (hW : RpW B s w) (hw : w ≤ 200) (h6 : s 295 = -6) : Cd X yX2_openWords cX2_openWords 1 (some .int) 1 ad [.ref (b + 11)] (SB m b B) (some (.int (nI (opA s w)))) ((SB m b B)) := by
  refine Cm.of (own := RX2) (nm := "openWords") (by decide +kernel) rfl rfl rfl rfl ?_
  refine J_aload_n dX2_openWords_0 rfl rfl ?_
  refine J_aload_n dX2_openWords_1 rfl rfl ?_
  refine gB_onBus (by first | assumption | exact isB1 | exact isB18) wf_X2_27 dX2_openWords_2 ?_
  refine J_topi (fun z9 hz9 => ?_)
  obtain rfl : z9 = -6 := hz9.trans (by exact hW.2.2.2.1.trans h6)
  clear hz9
  refine cVi wv_X2_55 (c_isWordN hb) dX2_openWords_5 (ob2 (by first | assumption | exact isB1 | exact isB18)) rfl rfl (kk := ?_)
  refine J_if_eq (tgt := 20) dX2_openWords_8 (by decide) (fun h8 => ?_) (fun h8 => absurd rfl h8)
  refine J_aload_n dX2_openWords_20 rfl rfl ?_
  refine gB_queued (by first | assumption | exact isB1 | exact isB18) wf_X2_40 dX2_openWords_21 ?_
  refine J_topi (fun z9 hz9 => ?_)
  obtain rfl : z9 = (nI (wl s w).length) := hz9.trans (by exact hW.2.2.1.1)
  clear hz9
  refine r_int dX2_openWords_24 ?_
  exact ⟨by rw [opA, if_pos h6]; rfl, rfl⟩

set_option maxRecDepth 100000 in
set_option maxHeartbeats 4000000 in
theorem c_openWords1 {X : jX} {ad : Nat → Nat} {m B : Mem} {b : Nat} {s : Rw} {w : Nat} {k : Nat} (hb : isB b) (hW : RpW B s w) (hw : w ≤ 200) (hk : k < w) (h6 : s 295 = nI k) : Cd X yX2_openWords cX2_openWords 1 (some .int) 1 ad [.ref (b + 11)] (SB m b B) (some (.int (nI (opA s w)))) ((SB m b B)) := by
  refine Cm.of (own := RX2) (nm := "openWords") (by decide +kernel) rfl rfl rfl rfl ?_
  refine J_aload_n dX2_openWords_0 rfl rfl ?_
  refine J_aload_n dX2_openWords_1 rfl rfl ?_
  refine gB_onBus (by first | assumption | exact isB1 | exact isB18) wf_X2_27 dX2_openWords_2 ?_
  refine J_topi (fun z9 hz9 => ?_)
  obtain rfl : z9 = (nI k) := hz9.trans (by exact hW.2.2.2.1.trans h6)
  clear hz9
  refine cVi wv_X2_55 (c_isWord hb hW.1 hk hw) dX2_openWords_5 (ob2 (by first | assumption | exact isB1 | exact isB18)) rfl rfl (kk := ?_)
  refine J_if_eq (tgt := 20) dX2_openWords_8 (by decide) (fun h8 => absurd h8 (by decide)) (fun h8 => ?_)
  refine J_aload_n dX2_openWords_11 rfl rfl ?_
  refine gB_queued (by first | assumption | exact isB1 | exact isB18) wf_X2_40 dX2_openWords_12 ?_
  refine J_topi (fun z9 hz9 => ?_)
  obtain rfl : z9 = (nI (wl s w).length) := hz9.trans (by exact hW.2.2.1.1)
  clear hz9
  refine J_iconst (v := 1) dX2_openWords_15 (by decide) ?_
  refine J_iadd dX2_openWords_16 ?_
  refine J_goto (tgt := 24) dX2_openWords_17 (by decide) ?_
  refine r_int dX2_openWords_24 ?_
  exact ⟨by rw [opA, if_neg (by rw [h6]; exact nI_m6 (by omega)), nI_succ], rfl⟩

theorem c_X2_openWords {X : jX} {ad : Nat → Nat} {m B : Mem} {b : Nat} {s : Rw} {w : Nat} (hb : isB b) (hW : RpW B s w) (hw : w ≤ 200) (hB : OkB s w) : Cd X yX2_openWords cX2_openWords 1 (some .int) 1 ad [.ref (b + 11)] (SB m b B) (some (.int (nI (opA s w)))) (SB m b B) := by
  rcases hB with h | ⟨k, hk, h, -⟩
  · exact c_openWords0 hb hW hw h
  · exact c_openWords1 hb hW hw hk h
/-- how many of a list's words are a board's -/
def cO (s : Rw) (d : Nat) : List Nat → Nat
  | [] => 0
  | k :: t => cO s d t + (if iO (wv s k) d = 0 then 0 else 1)
theorem cO_app {s : Rw} {d k : Nat} : ∀ l, cO s d (l ++ [k]) = cO s d l + (if iO (wv s k) d = 0 then 0 else 1) := by
  intro l
  induction l with
  | nil => simp [cO]
  | cons x t ih => simp only [List.cons_append, cO, ih]; omega
theorem take_succ {l : List Nat} {i : Nat} (h : i < l.length) : l.take (i + 1) = l.take i ++ [l.getD i 0] := by
  rw [List.take_succ, List.getElem?_eq_getElem h, List.getD_eq_getElem?_getD, List.getElem?_eq_getElem h]
  rfl
set_option maxRecDepth 100000 in
set_option maxHeartbeats 4000000 in
theorem clsOpenLoop {X : jX} {ad : Nat → Nat} {m B : Mem} {b : Nat} {s : Rw} {w : Nat} {d a0 : Nat} (hb : isB b) (hW : RpW B s w) (hw : w ≤ 200) (h10 : (wl s w).length ≤ 10) (hd : d < 8) : ∀ (j i : Nat) (a : Int32), i + j = (wl s w).length → a = nI (a0 + cO s d ((wl s w).take i)) → Jg X RX2 cX2_openWordsOf 4 (some .int) "openWordsOf" 1 0 0 (QF X ad (fun v m9 => v = some (.int (nI (a0 + cO s d (wl s w)))) ∧ m9 = SB m b B)) ad 0 0 20 [(0, .ref (b + 11)), (1, .int (nI d)), (2, .int a), (3, .int (nI i))] [] (WS X ad (SB m b B)) := by
  intro j
  induction j with
  | zero =>
    intro i a hi ha
    obtain rfl : i = (wl s w).length := by omega
    rw [List.take_length] at ha
    refine J_iload_n dX2_openWordsOf_20 rfl rfl ?_
    refine J_aload_n dX2_openWordsOf_21 rfl rfl ?_
    refine gB_queued (by first | assumption | exact isB1 | exact isB18) wf_X2_40 dX2_openWordsOf_22 ?_
    refine J_topi (fun z9 hz9 => ?_)
    obtain rfl : z9 = (nI (wl s w).length) := hz9.trans (by exact hW.2.2.1.1)
    clear hz9
    refine J_icmp_ge (tgt := 51) dX2_openWordsOf_25 (by decide) (fun h25 => ?_) (fun h25 => absurd (nI_le1 (Nat.le_refl _) (by omega)) h25)
    refine J_iload_n dX2_openWordsOf_51 rfl rfl ?_
    refine r_int dX2_openWordsOf_52 ?_
    exact ⟨by rw [ha], rfl⟩
  | succ j ih =>
    intro i a hi ha
    have hil : i < (wl s w).length := by omega
    have hk := (wl_at hil).1
    have ts := take_succ hil
    refine J_iload_n dX2_openWordsOf_20 rfl rfl ?_
    refine J_aload_n dX2_openWordsOf_21 rfl rfl ?_
    refine gB_queued (by first | assumption | exact isB1 | exact isB18) wf_X2_40 dX2_openWordsOf_22 ?_
    refine J_topi (fun z9 hz9 => ?_)
    obtain rfl : z9 = (nI (wl s w).length) := hz9.trans (by exact hW.2.2.1.1)
    clear hz9
    refine J_icmp_ge (tgt := 51) dX2_openWordsOf_25 (by decide) (fun h25 => absurd h25 (nI_nle1 (by omega) (by omega))) (fun h25 => ?_)
    refine J_aload_n dX2_openWordsOf_28 rfl rfl ?_
    refine J_aload_n dX2_openWordsOf_29 rfl rfl ?_
    refine gX2_queue (by first | assumption | exact isB1 | exact isB18) wf_X2_24 dX2_openWordsOf_30 ?_
    refine J_iload_n dX2_openWordsOf_33 rfl rfl ?_
    refine rB_w16 hb i (by omega) rfl dX2_openWordsOf_34 ?_
    refine J_topi (fun z9 hz9 => ?_)
    obtain rfl : z9 = (nI ((wl s w).getD i 0)) := hz9.trans (by exact hW.2.2.1.2 i hil)
    clear hz9
    refine J_iload_n dX2_openWordsOf_35 rfl rfl ?_
    refine cVi wv_X2_59 (c_isBetween hb hW hw hk hd) dX2_openWordsOf_36 (ob2 (by first | assumption | exact isB1 | exact isB18)) rfl rfl (kk := ?_)
    refine J_if_eq (tgt := 45) dX2_openWordsOf_39 (by decide) (fun h39 => ?_) (fun h39 => ?_)
    · refine J_iinc (v := _ + 1) dX2_openWordsOf_45 rfl rfl rfl rfl ?_
      rw [show nI i + 1 = nI (i + 1) from (nI_succ i).symm]
      refine J_goto (tgt := 20) dX2_openWordsOf_48 (by decide) ?_
      refine ih (i + 1) _ (by omega) ?_
      rw [ts, cO_app, ha]
      first | (rw [if_pos h39]; rfl) | (rw [if_neg h39, ← Nat.add_assoc, nI_succ])
    · refine J_iinc (v := _ + 1) dX2_openWordsOf_42 rfl rfl rfl rfl ?_
      refine J_iinc (v := _ + 1) dX2_openWordsOf_45 rfl rfl rfl rfl ?_
      rw [show nI i + 1 = nI (i + 1) from (nI_succ i).symm]
      refine J_goto (tgt := 20) dX2_openWordsOf_48 (by decide) ?_
      refine ih (i + 1) _ (by omega) ?_
      rw [ts, cO_app, ha]
      first | (rw [if_pos h39]; rfl) | (rw [if_neg h39, ← Nat.add_assoc, nI_succ])

def ooA (s : Rw) (w d : Nat) : Nat := (if s 295 = -6 then 0 else if iO (wv s (s 295).toNatClampNeg) d = 0 then 0 else 1) + cO s d (wl s w)
set_option maxRecDepth 100000 in
set_option maxHeartbeats 4000000 in
theorem c_openOf0 {X : jX} {ad : Nat → Nat} {m B : Mem} {b : Nat} {s : Rw} {w : Nat} {d : Nat} (hb : isB b) (hW : RpW B s w) (hw : w ≤ 200) (h10 : (wl s w).length ≤ 10) (hd : d < 8) (h6 : s 295 = -6) : Cd X yX2_openWordsOf cX2_openWordsOf 4 (some .int) 1 ad [.ref (b + 11), .int (nI d)] (SB m b B) (some (.int (nI (ooA s w d)))) ((SB m b B)) := by
  refine Cm.of (own := RX2) (nm := "openWordsOf") (by decide +kernel) rfl rfl rfl rfl ?_
  refine J_aload_n dX2_openWordsOf_0 rfl rfl ?_
  refine J_aload_n dX2_openWordsOf_1 rfl rfl ?_
  refine gB_onBus (by first | assumption | exact isB1 | exact isB18) wf_X2_27 dX2_openWordsOf_2 ?_
  refine J_topi (fun z9 hz9 => ?_)
  obtain rfl : z9 = -6 := hz9.trans (by exact hW.2.2.2.1.trans h6)
  clear hz9
  refine J_iload_n dX2_openWordsOf_5 rfl rfl ?_
  refine cVi wv_X2_59 (c_isBetweenN hb) dX2_openWordsOf_6 (ob2 (by first | assumption | exact isB1 | exact isB18)) rfl rfl (kk := ?_)
  refine J_if_eq (tgt := 16) dX2_openWordsOf_9 (by decide) (fun h9 => ?_) (fun h9 => absurd rfl h9)
  refine J_iconst (v := 0) dX2_openWordsOf_16 (by decide) ?_
  refine J_istore_n dX2_openWordsOf_17 rfl rfl rfl ?_
  refine J_iconst (v := 0) dX2_openWordsOf_18 (by decide) ?_
  refine J_istore_n dX2_openWordsOf_19 rfl rfl rfl ?_
  unfold ooA
  rw [if_pos h6]
  exact clsOpenLoop (a0 := 0) hb hW hw h10 hd (wl s w).length 0 _ (Nat.zero_add _) rfl

set_option maxRecDepth 100000 in
set_option maxHeartbeats 4000000 in
theorem c_openOf1 {X : jX} {ad : Nat → Nat} {m B : Mem} {b : Nat} {s : Rw} {w : Nat} {d k : Nat} (hb : isB b) (hW : RpW B s w) (hw : w ≤ 200) (h10 : (wl s w).length ≤ 10) (hd : d < 8) (hk : k < w) (h6 : s 295 = nI k) : Cd X yX2_openWordsOf cX2_openWordsOf 4 (some .int) 1 ad [.ref (b + 11), .int (nI d)] (SB m b B) (some (.int (nI (ooA s w d)))) ((SB m b B)) := by
  refine Cm.of (own := RX2) (nm := "openWordsOf") (by decide +kernel) rfl rfl rfl rfl ?_
  refine J_aload_n dX2_openWordsOf_0 rfl rfl ?_
  refine J_aload_n dX2_openWordsOf_1 rfl rfl ?_
  refine gB_onBus (by first | assumption | exact isB1 | exact isB18) wf_X2_27 dX2_openWordsOf_2 ?_
  refine J_topi (fun z9 hz9 => ?_)
  obtain rfl : z9 = (nI k) := hz9.trans (by exact hW.2.2.2.1.trans h6)
  clear hz9
  refine J_iload_n dX2_openWordsOf_5 rfl rfl ?_
  refine cVi wv_X2_59 (c_isBetween hb hW hw hk hd) dX2_openWordsOf_6 (ob2 (by first | assumption | exact isB1 | exact isB18)) rfl rfl (kk := ?_)
  refine J_if_eq (tgt := 16) dX2_openWordsOf_9 (by decide) (fun h9 => ?_) (fun h9 => ?_)
  · refine J_iconst (v := 0) dX2_openWordsOf_16 (by decide) ?_
    refine J_istore_n dX2_openWordsOf_17 rfl rfl rfl ?_
    refine J_iconst (v := 0) dX2_openWordsOf_18 (by decide) ?_
    refine J_istore_n dX2_openWordsOf_19 rfl rfl rfl ?_
    unfold ooA
    rw [if_neg (by rw [h6]; exact nI_m6 (by omega)), h6, nI_cl (by omega)]
    first | (rw [if_pos h9]; exact clsOpenLoop (a0 := 0) hb hW hw h10 hd (wl s w).length 0 _ (Nat.zero_add _) rfl) | (rw [if_neg h9]; exact clsOpenLoop (a0 := 1) hb hW hw h10 hd (wl s w).length 0 _ (Nat.zero_add _) rfl)
  · refine J_iconst (v := 1) dX2_openWordsOf_12 (by decide) ?_
    refine J_goto (tgt := 17) dX2_openWordsOf_13 (by decide) ?_
    refine J_istore_n dX2_openWordsOf_17 rfl rfl rfl ?_
    refine J_iconst (v := 0) dX2_openWordsOf_18 (by decide) ?_
    refine J_istore_n dX2_openWordsOf_19 rfl rfl rfl ?_
    unfold ooA
    rw [if_neg (by rw [h6]; exact nI_m6 (by omega)), h6, nI_cl (by omega)]
    first | (rw [if_pos h9]; exact clsOpenLoop (a0 := 0) hb hW hw h10 hd (wl s w).length 0 _ (Nat.zero_add _) rfl) | (rw [if_neg h9]; exact clsOpenLoop (a0 := 1) hb hW hw h10 hd (wl s w).length 0 _ (Nat.zero_add _) rfl)

theorem c_X2_openWordsOf {X : jX} {ad : Nat → Nat} {m B : Mem} {b : Nat} {s : Rw} {w d : Nat} (hb : isB b) (hW : RpW B s w) (hw : w ≤ 200) (h10 : (wl s w).length ≤ 10) (hd : d < 8) (hB : OkB s w) : Cd X yX2_openWordsOf cX2_openWordsOf 4 (some .int) 1 ad [.ref (b + 11), .int (nI d)] (SB m b B) (some (.int (nI (ooA s w d)))) (SB m b B) := by
  rcases hB with h | ⟨k, hk, h, -⟩
  · exact c_openOf0 hb hW hw h10 hd h
  · exact c_openOf1 hb hW hw h10 hd hk h
def isDl (s : Rw) (d k : Nat) : Int32 := if wv s k % 8 = d then (if wv s k / 64 % 4 = 2 then 1 else 0) else 0
def dlC (s : Rw) (d : Nat) : Nat → Nat
  | 0 => 0
  | k + 1 => if isDl s d k = 0 then dlC s d k else dlC s d k + 1
theorem dl_a {s : Rw} {d i : Nat} (h : ¬ nI (wv s i % 8) = nI d) : nI (dlC s d i) = nI (dlC s d (i + 1)) := by
  have e : isDl s d i = 0 := by unfold isDl; rw [if_neg (fun g => h (by rw [g]))]
  show _ = nI (if isDl s d i = 0 then dlC s d i else dlC s d i + 1)
  rw [if_pos e]
theorem dl_b {s : Rw} {d i : Nat} (h : ¬ nI (wv s i / 64 % 4) = 2) : nI (dlC s d i) = nI (dlC s d (i + 1)) := by
  have e : isDl s d i = 0 := by
    unfold isDl
    rw [if_neg (show ¬ wv s i / 64 % 4 = 2 from fun g => h (by rw [g]; rfl))]
    split <;> rfl
  show _ = nI (if isDl s d i = 0 then dlC s d i else dlC s d i + 1)
  rw [if_pos e]
theorem dl_c {s : Rw} {d i : Nat} (hd : d < 8) (h : nI (wv s i % 8) = nI d) (h2 : nI (wv s i / 64 % 4) = 2) : nI (dlC s d i) + 1 = nI (dlC s d (i + 1)) := by
  have e : isDl s d i = 1 := by
    unfold isDl
    rw [if_pos (nI_ij (by omega) (by omega) h), if_pos ((show ∀ x, x < 4 → nI x = 2 → x = 2 by decide) _ (by omega) h2)]
  show _ = nI (if isDl s d i = 0 then dlC s d i else dlC s d i + 1)
  rw [if_neg (by rw [e]; decide), nI_succ]
set_option maxRecDepth 100000 in
set_option maxHeartbeats 4000000 in
theorem clsDelLoop {X : jX} {ad : Nat → Nat} {m B : Mem} {b : Nat} {s : Rw} {w : Nat} {d : Nat} (hb : isB b) (hW : RpW B s w) (hw : w ≤ 200) (hd : d < 8) : ∀ (j i : Nat) (a : Int32), i + j = w → a = nI (dlC s d i) → Jg X RX2 cX2_deliveredFrom 4 (some .int) "deliveredFrom" 0 0 0 (QF X ad (fun v m9 => v = some (.int (nI (dlC s d w))) ∧ m9 = SB m b B)) ad 0 0 4 [(0, .ref (b + 11)), (1, .int (nI d)), (2, .int a), (3, .int (nI i))] [] (WS X ad (SB m b B)) := by
  intro j
  induction j with
  | zero =>
    intro i a hi ha
    obtain rfl : i = w := by omega
    refine J_iload_n dX2_deliveredFrom_4 rfl rfl ?_
    refine J_aload_n dX2_deliveredFrom_5 rfl rfl ?_
    refine gB_sent (by first | assumption | exact isB1 | exact isB18) wf_X2_31 dX2_deliveredFrom_6 ?_
    refine J_topi (fun z9 hz9 => ?_)
    obtain rfl : z9 = (nI i) := hz9.trans (by exact hW.1)
    clear hz9
    refine J_icmp_ge (tgt := 41) dX2_deliveredFrom_9 (by decide) (fun h9 => ?_) (fun h9 => absurd (nI_le1 (Nat.le_refl _) (by omega)) h9)
    refine J_iload_n dX2_deliveredFrom_41 rfl rfl ?_
    refine r_int dX2_deliveredFrom_42 ?_
    exact ⟨by rw [ha], rfl⟩
  | succ j ih =>
    intro i a hi ha
    obtain ⟨k1, k2, k3, k4⟩ := hW.2.1 i (by omega)
    refine J_iload_n dX2_deliveredFrom_4 rfl rfl ?_
    refine J_aload_n dX2_deliveredFrom_5 rfl rfl ?_
    refine gB_sent (by first | assumption | exact isB1 | exact isB18) wf_X2_31 dX2_deliveredFrom_6 ?_
    refine J_topi (fun z9 hz9 => ?_)
    obtain rfl : z9 = (nI w) := hz9.trans (by exact hW.1)
    clear hz9
    refine J_icmp_ge (tgt := 41) dX2_deliveredFrom_9 (by decide) (fun h9 => absurd h9 (nI_nle1 (by omega) (by omega))) (fun h9 => ?_)
    refine J_aload_n dX2_deliveredFrom_12 rfl rfl ?_
    refine gX2_senders (by first | assumption | exact isB1 | exact isB18) wf_X2_9 dX2_deliveredFrom_13 ?_
    refine J_iload_n dX2_deliveredFrom_16 rfl rfl ?_
    refine rB_w12 hb i (by omega) rfl dX2_deliveredFrom_17 ?_
    refine J_topi (fun z9 hz9 => ?_)
    obtain rfl : z9 = (nI (wv s i % 8)) := hz9.trans (by exact k1)
    clear hz9
    refine J_iload_n dX2_deliveredFrom_18 rfl rfl ?_
    refine J_icmp_ne (tgt := 35) dX2_deliveredFrom_19 (by decide) (fun h19 => ?_) (fun h19 => ?_)
    · refine J_iinc (v := _ + 1) dX2_deliveredFrom_35 rfl rfl rfl rfl ?_
      rw [show nI i + 1 = nI (i + 1) from (nI_succ i).symm]
      refine J_goto (tgt := 4) dX2_deliveredFrom_38 (by decide) ?_
      refine ih (i + 1) _ (by omega) ?_
      rw [ha]
      first | exact dl_a h19 | exact dl_b h29 | exact dl_c hd h19 h29
    · refine J_aload_n dX2_deliveredFrom_22 rfl rfl ?_
      refine gX2_conditions (by first | assumption | exact isB1 | exact isB18) wf_X2_18 dX2_deliveredFrom_23 ?_
      refine J_iload_n dX2_deliveredFrom_26 rfl rfl ?_
      refine rB_w14 hb i (by omega) rfl dX2_deliveredFrom_27 ?_
      refine J_topi (fun z9 hz9 => ?_)
      obtain rfl : z9 = (nI (wv s i / 64 % 4)) := hz9.trans (by exact k3)
      clear hz9
      refine J_iconst (v := 2) dX2_deliveredFrom_28 (by decide) ?_
      refine J_icmp_ne (tgt := 35) dX2_deliveredFrom_29 (by decide) (fun h29 => ?_) (fun h29 => ?_)
      · refine J_iinc (v := _ + 1) dX2_deliveredFrom_35 rfl rfl rfl rfl ?_
        rw [show nI i + 1 = nI (i + 1) from (nI_succ i).symm]
        refine J_goto (tgt := 4) dX2_deliveredFrom_38 (by decide) ?_
        refine ih (i + 1) _ (by omega) ?_
        rw [ha]
        first | exact dl_a h19 | exact dl_b h29 | exact dl_c hd h19 h29
      · refine J_iinc (v := _ + 1) dX2_deliveredFrom_32 rfl rfl rfl rfl ?_
        refine J_iinc (v := _ + 1) dX2_deliveredFrom_35 rfl rfl rfl rfl ?_
        rw [show nI i + 1 = nI (i + 1) from (nI_succ i).symm]
        refine J_goto (tgt := 4) dX2_deliveredFrom_38 (by decide) ?_
        refine ih (i + 1) _ (by omega) ?_
        rw [ha]
        first | exact dl_a h19 | exact dl_b h29 | exact dl_c hd h19 h29

set_option maxRecDepth 100000 in
set_option maxHeartbeats 4000000 in
theorem c_X2_deliveredFrom {X : jX} {ad : Nat → Nat} {m B : Mem} {b : Nat} {s : Rw} {w : Nat} {d : Nat} (hb : isB b) (hW : RpW B s w) (hw : w ≤ 200) (hd : d < 8) : Cd X yX2_deliveredFrom cX2_deliveredFrom 4 (some .int) 0 ad [.ref (b + 11), .int (nI d)] (SB m b B) (some (.int (nI (dlC s d w)))) ((SB m b B)) := by
  refine Cm.of (own := RX2) (nm := "deliveredFrom") (by decide +kernel) rfl rfl rfl rfl ?_
  refine J_iconst (v := 0) dX2_deliveredFrom_0 (by decide) ?_
  refine J_istore_n dX2_deliveredFrom_1 rfl rfl rfl ?_
  refine J_iconst (v := 0) dX2_deliveredFrom_2 (by decide) ?_
  refine J_istore_n dX2_deliveredFrom_3 rfl rfl rfl ?_
  exact clsDelLoop hb hW hw hd w 0 _ (by omega) rfl

