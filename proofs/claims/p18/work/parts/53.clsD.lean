theorem jin_no {x : Int32} {n : Nat} (hn : n ≤ 1000) (h1 : ¬ x < 0) (h2 : ¬ nI n ≤ x) : ¬ jin x 0 (nI n - 1) = 0 := by
  have a1 := Int32.not_lt.mp h1
  have a2 := Int32.not_le.mp h2
  rw [Int32.le_iff_toInt_le] at a1
  rw [Int32.lt_iff_toInt_lt, nI_toInt (by omega)] at a2
  have h0 : (0 : Int32).toInt = 0 := rfl
  cases n with
  | zero => omega
  | succ k =>
    rw [nI_pred]
    unfold jin
    rw [if_neg h1, if_neg]
    · decide
    · rw [Int32.lt_iff_toInt_lt, nI_toInt (by omega)]
      omega
theorem jin_m6 {n : Nat} : jin (-6) 0 (nI n - 1) = 0 := by
  unfold jin
  rw [if_pos (by decide)]
theorem jin_ok {q n : Nat} (h : q < n) (hn : n ≤ 1000) : ¬ nI q < 0 ∧ ¬ nI n ≤ nI q := ⟨nI_lt0 (by omega), nI_nle1 h (by omega)⟩
theorem bI_none {s : Rw} {x : Int32} : ∀ n, (∀ k, k < n → ¬ s (fb k 2) = x) → bI s x n = -6 := by
  intro n
  induction n with
  | zero => intro _; rfl
  | succ k ih =>
    intro h
    unfold bI
    rw [if_neg (h k (by omega))]
    exact ih (fun j hj => h j (by omega))
/-- settings as they should be -/
def Sg (s : Rw) : Prop := (s 0 = 0 ∨ s 0 = 1) ∧ (∃ a, 1 ≤ a ∧ a ≤ 50 ∧ s 1 = nI a) ∧ (∃ a, 1 ≤ a ∧ a ≤ 9 ∧ s 2 = nI a) ∧ ∃ a, 1 ≤ a ∧ a ≤ 9 ∧ s 3 = nI a
/-- the set of known boards -/
def kS (s : Rw) : Nat → Int32
  | 0 => 0
  | k + 1 => if s (fb k 6) = 0 then kS s k else kS s k ||| 1 <<< (nI k &&& 31)
theorem kS_bit : ∀ k, k < 8 → ∀ A, A < 256 → nI A ||| 1 <<< (nI k &&& 31) = nI (A ||| 2 ^ k) ∧ A ||| 2 ^ k < 256 := by decide +kernel
theorem bit_or : ∀ p, p < 8 → ∀ k, k < 8 → ∀ A, A < 256 → (nI (A ||| 2 ^ k) >>> (nI p &&& 31)) &&& 1 = if p = k then 1 else (nI A >>> (nI p &&& 31)) &&& 1 := by decide +kernel
theorem kS_spec {s : Rw} : ∀ n, n ≤ 8 → ∃ A, A < 256 ∧ kS s n = nI A ∧ ∀ p, p < 8 → (nI A >>> (nI p &&& 31)) &&& 1 = if p < n ∧ ¬ s (fb p 6) = 0 then 1 else 0 := by
  intro n
  induction n with
  | zero => intro _; exact ⟨0, by decide, rfl, fun p hp => by rw [if_neg (by omega)]; exact (show ∀ p, p < 8 → (nI 0 >>> (nI p &&& 31)) &&& 1 = 0 by decide) p hp⟩
  | succ k ih =>
    intro hk
    obtain ⟨A, hA, h1, h2⟩ := ih (by omega)
    unfold kS
    by_cases hz : s (fb k 6) = 0
    · rw [if_pos hz]
      refine ⟨A, hA, h1, fun p hp => ?_⟩
      rw [h2 p hp]
      by_cases hpk : p = k
      · subst hpk
        rw [if_neg (by omega), if_neg (fun g => g.2 hz)]
      · by_cases q : p < k ∧ ¬ s (fb p 6) = 0
        · rw [if_pos q, if_pos ⟨by omega, q.2⟩]
        · rw [if_neg q, if_neg (fun g => q ⟨by omega, g.2⟩)]
    · rw [if_neg hz, h1]
      obtain ⟨e1, e2⟩ := kS_bit k (by omega) A hA
      refine ⟨A ||| 2 ^ k, e2, e1, fun p hp => ?_⟩
      rw [bit_or p hp k (by omega) A hA]
      by_cases hpk : p = k
      · subst hpk
        rw [if_pos rfl, if_pos ⟨by omega, hz⟩]
      · rw [if_neg hpk, h2 p hp]
        by_cases q : p < k ∧ ¬ s (fb p 6) = 0
        · rw [if_pos q, if_pos ⟨by omega, q.2⟩]
        · rw [if_neg q, if_neg (fun g => q ⟨by omega, g.2⟩)]
theorem hd_mono {s : Rw} {i : Nat} (h : ¬ hd s i = 0) : ∀ j, ¬ hd s (i + j) = 0 := by
  intro j
  induction j with
  | zero => exact h
  | succ j ih =>
    show ¬ (if hd s (i + j) = 0 then hd1 s (i + j) else 1) = 0
    rw [if_neg ih]
    decide
set_option maxRecDepth 100000 in
set_option maxHeartbeats 4000000 in
theorem c_boardAt {X : jX} {ad : Nat → Nat} {m B : Mem} {b : Nat} {s : Rw} {n : Nat} {i : Nat} (hb : isB b) (hR : RpB B s n) (hn8 : n ≤ 8) (hi : i < n) : Cd X yX0_boardAt cX0_boardAt 2 (some (.object "PlugPins$Board")) 0 ad [.ref b, .int (nI i)] (SB m b B) (some (.ref (b + (3 + i)))) ((SB m b B)) := by
  refine Cm.of (own := RX0) (nm := "boardAt") (by decide +kernel) rfl rfl rfl rfl ?_
  refine J_iload_n dX0_boardAt_0 rfl rfl ?_
  refine J_if_lt (tgt := 21) dX0_boardAt_1 (by decide) (fun h1 => absurd h1 (jin_ok hi (by omega)).1) (fun h1 => ?_)
  refine J_iload_n dX0_boardAt_4 rfl rfl ?_
  refine J_aload_n dX0_boardAt_5 rfl rfl ?_
  refine gB_boardCount (by first | assumption | exact isB1 | exact isB18) wf_X0_43 dX0_boardAt_6 ?_
  refine J_topi (fun z9 hz9 => ?_)
  obtain rfl : z9 = (nI n) := hz9.trans (by exact hR.1)
  clear hz9
  refine J_icmp_ge (tgt := 21) dX0_boardAt_9 (by decide) (fun h9 => absurd h9 (jin_ok hi (by omega)).2) (fun h9 => ?_)
  refine J_aload_n dX0_boardAt_12 rfl rfl ?_
  refine gX0_boards (by first | assumption | exact isB1 | exact isB18) wf_X0_25 dX0_boardAt_13 ?_
  refine J_iload_n dX0_boardAt_16 rfl rfl ?_
  refine al_boards hb (k := i) (nI_cl (by omega)) dX0_boardAt_17 (nIin (by omega) (by decide)) ?_
  refine J_goto (tgt := 22) dX0_boardAt_18 (by decide) ?_
  refine r_ref dX0_boardAt_22 ?_
  exact ⟨rfl, rfl⟩

set_option maxRecDepth 100000 in
set_option maxHeartbeats 4000000 in
theorem c_boardAtN {X : jX} {ad : Nat → Nat} {m B : Mem} {b : Nat} {s : Rw} {n : Nat} {x : Int32} (hb : isB b) (hR : RpB B s n) (hn8 : n ≤ 8) (hx : jin x 0 (nI n - 1) = 0) : Cd X yX0_boardAt cX0_boardAt 2 (some (.object "PlugPins$Board")) 0 ad [.ref b, .int x] (SB m b B) (some .null) ((SB m b B)) := by
  refine Cm.of (own := RX0) (nm := "boardAt") (by decide +kernel) rfl rfl rfl rfl ?_
  refine J_iload_n dX0_boardAt_0 rfl rfl ?_
  refine J_if_lt (tgt := 21) dX0_boardAt_1 (by decide) (fun h1 => ?_) (fun h1 => ?_)
  · refine J_null dX0_boardAt_21 ?_
    refine r_null dX0_boardAt_22 ?_
    exact ⟨rfl, rfl⟩
  · refine J_iload_n dX0_boardAt_4 rfl rfl ?_
    refine J_aload_n dX0_boardAt_5 rfl rfl ?_
    refine gB_boardCount (by first | assumption | exact isB1 | exact isB18) wf_X0_43 dX0_boardAt_6 ?_
    refine J_topi (fun z9 hz9 => ?_)
    obtain rfl : z9 = (nI n) := hz9.trans (by exact hR.1)
    clear hz9
    refine J_icmp_ge (tgt := 21) dX0_boardAt_9 (by decide) (fun h9 => ?_) (fun h9 => absurd hx (jin_no (by omega) h1 h9))
    refine J_null dX0_boardAt_21 ?_
    refine r_null dX0_boardAt_22 ?_
    exact ⟨rfl, rfl⟩

set_option maxRecDepth 100000 in
set_option maxHeartbeats 4000000 in
theorem clsBoardLoop {X : jX} {ad : Nat → Nat} {m B : Mem} {b : Nat} {s : Rw} {n : Nat} {q : Nat} (hb : isB b) (hR : RpB B s n) (hn8 : n ≤ 8) (hD : Ds s n) (hq : q < 5) : ∀ (j i : Nat), i + j = n → (∀ k, k < i → ¬ s (fb k 2) = nI q) → Jg X RX0 cX0_boardIn 3 (some .int) "boardIn" 0 0 0 (QF X ad (fun v m9 => v = some (.int (bI s (nI q) n)) ∧ m9 = SB m b B)) ad 0 0 2 [(0, .ref b), (1, .int (nI q)), (2, .int (nI i))] [] (WS X ad (SB m b B)) := by
  intro j
  induction j with
  | zero =>
    intro i hi hno
    obtain rfl : i = n := by omega
    refine J_iload_n dX0_boardIn_2 rfl rfl ?_
    refine J_aload_n dX0_boardIn_3 rfl rfl ?_
    refine gB_boardCount (by first | assumption | exact isB1 | exact isB18) wf_X0_43 dX0_boardIn_4 ?_
    refine J_topi (fun z9 hz9 => ?_)
    obtain rfl : z9 = (nI i) := hz9.trans (by exact hR.1)
    clear hz9
    refine J_icmp_ge (tgt := 31) dX0_boardIn_7 (by decide) (fun h7 => ?_) (fun h7 => absurd (nI_le1 (Nat.le_refl _) (by omega)) h7)
    refine J_bipush (v := -6) dX0_boardIn_31 (by decide) ?_
    refine r_int dX0_boardIn_33 ?_
    exact ⟨by rw [bI_none _ hno], rfl⟩
  | succ j ih =>
    intro i hi hno
    obtain ⟨r1, r2⟩ := hR.2.2 i (by omega)
    refine J_iload_n dX0_boardIn_2 rfl rfl ?_
    refine J_aload_n dX0_boardIn_3 rfl rfl ?_
    refine gB_boardCount (by first | assumption | exact isB1 | exact isB18) wf_X0_43 dX0_boardIn_4 ?_
    refine J_topi (fun z9 hz9 => ?_)
    obtain rfl : z9 = (nI n) := hz9.trans (by exact hR.1)
    clear hz9
    refine J_icmp_ge (tgt := 31) dX0_boardIn_7 (by decide) (fun h7 => absurd h7 (nI_nle1 (by omega) (by omega))) (fun h7 => ?_)
    refine J_aload_n dX0_boardIn_10 rfl rfl ?_
    refine gX0_boards (by first | assumption | exact isB1 | exact isB18) wf_X0_25 dX0_boardIn_11 ?_
    refine J_iload_n dX0_boardIn_14 rfl rfl ?_
    refine al_boards hb (k := i) (nI_cl (by omega)) dX0_boardIn_15 (nIin (by omega) (by decide)) ?_
    refine gB_slot (by first | assumption | exact isB1 | exact isB18) (by first | assumption | omega) wf_X0_60 dX0_boardIn_16 ?_
    refine J_topi (fun z9 hz9 => ?_)
    obtain rfl : z9 = (s (fb i 2)) := hz9.trans (by exact r1 2 (by decide))
    clear hz9
    refine J_iload_n dX0_boardIn_19 rfl rfl ?_
    refine J_icmp_ne (tgt := 25) dX0_boardIn_20 (by decide) (fun h20 => ?_) (fun h20 => ?_)
    · refine J_iinc (v := _ + 1) dX0_boardIn_25 rfl rfl rfl rfl ?_
      rw [show nI i + 1 = nI (i + 1) from (nI_succ i).symm]
      refine J_goto (tgt := 2) dX0_boardIn_28 (by decide) ?_
      exact ih (i + 1) (by omega) (fun k hk => by
          by_cases e : k = i
          · rw [e]; exact h20
          · exact hno k (by omega))
    · refine J_iload_n dX0_boardIn_23 rfl rfl ?_
      refine r_int dX0_boardIn_24 ?_
      exact ⟨by rw [bI_of hn8 hD (by omega) hq h20], rfl⟩

set_option maxRecDepth 100000 in
set_option maxHeartbeats 4000000 in
theorem c_X0_boardIn {X : jX} {ad : Nat → Nat} {m B : Mem} {b : Nat} {s : Rw} {n : Nat} {q : Nat} (hb : isB b) (hR : RpB B s n) (hn8 : n ≤ 8) (hD : Ds s n) (hq : q < 5) : Cd X yX0_boardIn cX0_boardIn 3 (some .int) 0 ad [.ref b, .int (nI q)] (SB m b B) (some (.int (bI s (nI q) n))) ((SB m b B)) := by
  refine Cm.of (own := RX0) (nm := "boardIn") (by decide +kernel) rfl rfl rfl rfl ?_
  refine J_iconst (v := 0) dX0_boardIn_0 (by decide) ?_
  refine J_istore_n dX0_boardIn_1 rfl rfl rfl ?_
  exact clsBoardLoop hb hR hn8 hD hq n 0 (by omega) (fun k hk => absurd hk (by omega))

set_option maxRecDepth 100000 in
set_option maxHeartbeats 4000000 in
theorem clsDrawLoop {X : jX} {ad : Nat → Nat} {m B : Mem} {b : Nat} {s : Rw} {n : Nat} (hb : isB b) (hR : RpB B s n) (hn8 : n ≤ 8) : ∀ (j i : Nat) (a : Int32), i + j = n → a = dr s i → Jg X RX0 cX0_drawn 3 (some .int) "drawn" 0 0 0 (QF X ad (fun v m9 => v = some (.int (dr s n)) ∧ m9 = SB m b B)) ad 0 0 4 [(0, .ref b), (1, .int a), (2, .int (nI i))] [] (WS X ad (SB m b B)) := by
  intro j
  induction j with
  | zero =>
    intro i a hi ha
    obtain rfl : i = n := by omega
    refine J_iload_n dX0_drawn_4 rfl rfl ?_
    refine J_aload_n dX0_drawn_5 rfl rfl ?_
    refine gB_boardCount (by first | assumption | exact isB1 | exact isB18) wf_X0_43 dX0_drawn_6 ?_
    refine J_topi (fun z9 hz9 => ?_)
    obtain rfl : z9 = (nI i) := hz9.trans (by exact hR.1)
    clear hz9
    refine J_icmp_ge (tgt := 43) dX0_drawn_9 (by decide) (fun h9 => ?_) (fun h9 => absurd (nI_le1 (Nat.le_refl _) (by omega)) h9)
    refine J_iload_n dX0_drawn_43 rfl rfl ?_
    refine r_int dX0_drawn_44 ?_
    exact ⟨by rw [ha], rfl⟩
  | succ j ih =>
    intro i a hi ha
    obtain ⟨r1, r2⟩ := hR.2.2 i (by omega)
    refine J_iload_n dX0_drawn_4 rfl rfl ?_
    refine J_aload_n dX0_drawn_5 rfl rfl ?_
    refine gB_boardCount (by first | assumption | exact isB1 | exact isB18) wf_X0_43 dX0_drawn_6 ?_
    refine J_topi (fun z9 hz9 => ?_)
    obtain rfl : z9 = (nI n) := hz9.trans (by exact hR.1)
    clear hz9
    refine J_icmp_ge (tgt := 43) dX0_drawn_9 (by decide) (fun h9 => absurd h9 (nI_nle1 (by omega) (by omega))) (fun h9 => ?_)
    refine J_iload_n dX0_drawn_12 rfl rfl ?_
    refine J_aload_n dX0_drawn_13 rfl rfl ?_
    refine gX0_boards (by first | assumption | exact isB1 | exact isB18) wf_X0_25 dX0_drawn_14 ?_
    refine J_iload_n dX0_drawn_17 rfl rfl ?_
    refine al_boards hb (k := i) (nI_cl (by omega)) dX0_drawn_18 (nIin (by omega) (by decide)) ?_
    refine gB_current (by first | assumption | exact isB1 | exact isB18) (by first | assumption | omega) wf_X0_70 dX0_drawn_19 ?_
    refine J_topi (fun z9 hz9 => ?_)
    obtain rfl : z9 = (s (fb i 1)) := hz9.trans (by exact r1 1 (by decide))
    clear hz9
    refine J_aload_n dX0_drawn_22 rfl rfl ?_
    refine gX0_boards (by first | assumption | exact isB1 | exact isB18) wf_X0_25 dX0_drawn_23 ?_
    refine J_iload_n dX0_drawn_26 rfl rfl ?_
    refine al_boards hb (k := i) (nI_cl (by omega)) dX0_drawn_27 (nIin (by omega) (by decide)) ?_
    refine gB_power (by first | assumption | exact isB1 | exact isB18) (by first | assumption | omega) wf_X0_73 dX0_drawn_28 ?_
    refine J_topi (fun z9 hz9 => ?_)
    obtain rfl : z9 = (s (fb i 5)) := hz9.trans (by exact r1 5 (by decide))
    clear hz9
    refine J_imul dX0_drawn_31 ?_
    refine J_bipush (v := 100) dX0_drawn_32 (by decide) ?_
    refine J_idiv dX0_drawn_34 (by decide) ?_
    refine J_iadd dX0_drawn_35 ?_
    refine J_istore_n dX0_drawn_36 rfl rfl rfl ?_
    refine J_iinc (v := _ + 1) dX0_drawn_37 rfl rfl rfl rfl ?_
    rw [show nI i + 1 = nI (i + 1) from (nI_succ i).symm]
    refine J_goto (tgt := 4) dX0_drawn_40 (by decide) ?_
    exact ih (i + 1) _ (by omega) (by rw [ha]; rfl)

set_option maxRecDepth 100000 in
set_option maxHeartbeats 4000000 in
theorem c_X0_drawn {X : jX} {ad : Nat → Nat} {m B : Mem} {b : Nat} {s : Rw} {n : Nat}  (hb : isB b) (hR : RpB B s n) (hn8 : n ≤ 8) : Cd X yX0_drawn cX0_drawn 3 (some .int) 0 ad [.ref b] (SB m b B) (some (.int (dr s n))) ((SB m b B)) := by
  refine Cm.of (own := RX0) (nm := "drawn") (by decide +kernel) rfl rfl rfl rfl ?_
  refine J_iconst (v := 0) dX0_drawn_0 (by decide) ?_
  refine J_istore_n dX0_drawn_1 rfl rfl rfl ?_
  refine J_iconst (v := 0) dX0_drawn_2 (by decide) ?_
  refine J_istore_n dX0_drawn_3 rfl rfl rfl ?_
  exact clsDrawLoop hb hR hn8 n 0 _ (by omega) rfl

set_option maxRecDepth 100000 in
set_option maxHeartbeats 4000000 in
theorem clsSoonLoop {X : jX} {ad : Nat → Nat} {m B : Mem} {b : Nat} {s : Rw} {n : Nat} (hb : isB b) (hR : RpB B s n) (hn8 : n ≤ 8) : ∀ (j i : Nat) (a : Int32), i + j = n → a = ts s i → Jg X RX0 cX0_pulledTooSoon 3 (some .int) "pulledTooSoon" 0 0 0 (QF X ad (fun v m9 => v = some (.int (ts s n)) ∧ m9 = SB m b B)) ad 0 0 4 [(0, .ref b), (1, .int a), (2, .int (nI i))] [] (WS X ad (SB m b B)) := by
  intro j
  induction j with
  | zero =>
    intro i a hi ha
    obtain rfl : i = n := by omega
    refine J_iload_n dX0_pulledTooSoon_4 rfl rfl ?_
    refine J_aload_n dX0_pulledTooSoon_5 rfl rfl ?_
    refine gB_boardCount (by first | assumption | exact isB1 | exact isB18) wf_X0_43 dX0_pulledTooSoon_6 ?_
    refine J_topi (fun z9 hz9 => ?_)
    obtain rfl : z9 = (nI i) := hz9.trans (by exact hR.1)
    clear hz9
    refine J_icmp_ge (tgt := 30) dX0_pulledTooSoon_9 (by decide) (fun h9 => ?_) (fun h9 => absurd (nI_le1 (Nat.le_refl _) (by omega)) h9)
    refine J_iload_n dX0_pulledTooSoon_30 rfl rfl ?_
    refine r_int dX0_pulledTooSoon_31 ?_
    exact ⟨by rw [ha], rfl⟩
  | succ j ih =>
    intro i a hi ha
    obtain ⟨r1, r2⟩ := hR.2.2 i (by omega)
    refine J_iload_n dX0_pulledTooSoon_4 rfl rfl ?_
    refine J_aload_n dX0_pulledTooSoon_5 rfl rfl ?_
    refine gB_boardCount (by first | assumption | exact isB1 | exact isB18) wf_X0_43 dX0_pulledTooSoon_6 ?_
    refine J_topi (fun z9 hz9 => ?_)
    obtain rfl : z9 = (nI n) := hz9.trans (by exact hR.1)
    clear hz9
    refine J_icmp_ge (tgt := 30) dX0_pulledTooSoon_9 (by decide) (fun h9 => absurd h9 (nI_nle1 (by omega) (by omega))) (fun h9 => ?_)
    refine J_iload_n dX0_pulledTooSoon_12 rfl rfl ?_
    refine J_aload_n dX0_pulledTooSoon_13 rfl rfl ?_
    refine gX0_boards (by first | assumption | exact isB1 | exact isB18) wf_X0_25 dX0_pulledTooSoon_14 ?_
    refine J_iload_n dX0_pulledTooSoon_17 rfl rfl ?_
    refine al_boards hb (k := i) (nI_cl (by omega)) dX0_pulledTooSoon_18 (nIin (by omega) (by decide)) ?_
    refine gB_pulledTooSoon (by first | assumption | exact isB1 | exact isB18) (by first | assumption | omega) wf_X0_76 dX0_pulledTooSoon_19 ?_
    refine J_topi (fun z9 hz9 => ?_)
    obtain rfl : z9 = (s (fb i 10)) := hz9.trans (by exact r2)
    clear hz9
    refine J_iadd dX0_pulledTooSoon_22 ?_
    refine J_istore_n dX0_pulledTooSoon_23 rfl rfl rfl ?_
    refine J_iinc (v := _ + 1) dX0_pulledTooSoon_24 rfl rfl rfl rfl ?_
    rw [show nI i + 1 = nI (i + 1) from (nI_succ i).symm]
    refine J_goto (tgt := 4) dX0_pulledTooSoon_27 (by decide) ?_
    exact ih (i + 1) _ (by omega) (by rw [ha]; rfl)

set_option maxRecDepth 100000 in
set_option maxHeartbeats 4000000 in
theorem c_X0_pulledTooSoon {X : jX} {ad : Nat → Nat} {m B : Mem} {b : Nat} {s : Rw} {n : Nat}  (hb : isB b) (hR : RpB B s n) (hn8 : n ≤ 8) : Cd X yX0_pulledTooSoon cX0_pulledTooSoon 3 (some .int) 0 ad [.ref b] (SB m b B) (some (.int (ts s n))) ((SB m b B)) := by
  refine Cm.of (own := RX0) (nm := "pulledTooSoon") (by decide +kernel) rfl rfl rfl rfl ?_
  refine J_iconst (v := 0) dX0_pulledTooSoon_0 (by decide) ?_
  refine J_istore_n dX0_pulledTooSoon_1 rfl rfl rfl ?_
  refine J_iconst (v := 0) dX0_pulledTooSoon_2 (by decide) ?_
  refine J_istore_n dX0_pulledTooSoon_3 rfl rfl rfl ?_
  exact clsSoonLoop hb hR hn8 n 0 _ (by omega) rfl

set_option maxRecDepth 100000 in
set_option maxHeartbeats 4000000 in
theorem clsKnownLoop {X : jX} {ad : Nat → Nat} {m B : Mem} {b : Nat} {s : Rw} {n : Nat} (hb : isB b) (hR : RpB B s n) (hn8 : n ≤ 8) : ∀ (j i : Nat) (a : Int32), i + j = n → a = kS s i → Jg X RX0 cX0_knownSet 3 (some .int) "knownSet" 0 0 0 (QF X ad (fun v m9 => v = some (.int (kS s n)) ∧ m9 = SB m b B)) ad 0 0 4 [(0, .ref b), (1, .int a), (2, .int (nI i))] [] (WS X ad (SB m b B)) := by
  intro j
  induction j with
  | zero =>
    intro i a hi ha
    obtain rfl : i = n := by omega
    refine J_iload_n dX0_knownSet_4 rfl rfl ?_
    refine J_aload_n dX0_knownSet_5 rfl rfl ?_
    refine gB_boardCount (by first | assumption | exact isB1 | exact isB18) wf_X0_43 dX0_knownSet_6 ?_
    refine J_topi (fun z9 hz9 => ?_)
    obtain rfl : z9 = (nI i) := hz9.trans (by exact hR.1)
    clear hz9
    refine J_icmp_ge (tgt := 36) dX0_knownSet_9 (by decide) (fun h9 => ?_) (fun h9 => absurd (nI_le1 (Nat.le_refl _) (by omega)) h9)
    refine J_iload_n dX0_knownSet_36 rfl rfl ?_
    refine r_int dX0_knownSet_37 ?_
    exact ⟨by rw [ha], rfl⟩
  | succ j ih =>
    intro i a hi ha
    obtain ⟨r1, r2⟩ := hR.2.2 i (by omega)
    refine J_iload_n dX0_knownSet_4 rfl rfl ?_
    refine J_aload_n dX0_knownSet_5 rfl rfl ?_
    refine gB_boardCount (by first | assumption | exact isB1 | exact isB18) wf_X0_43 dX0_knownSet_6 ?_
    refine J_topi (fun z9 hz9 => ?_)
    obtain rfl : z9 = (nI n) := hz9.trans (by exact hR.1)
    clear hz9
    refine J_icmp_ge (tgt := 36) dX0_knownSet_9 (by decide) (fun h9 => absurd h9 (nI_nle1 (by omega) (by omega))) (fun h9 => ?_)
    refine J_aload_n dX0_knownSet_12 rfl rfl ?_
    refine gX0_boards (by first | assumption | exact isB1 | exact isB18) wf_X0_25 dX0_knownSet_13 ?_
    refine J_iload_n dX0_knownSet_16 rfl rfl ?_
    refine al_boards hb (k := i) (nI_cl (by omega)) dX0_knownSet_17 (nIin (by omega) (by decide)) ?_
    refine gB_isKnown (by first | assumption | exact isB1 | exact isB18) (by first | assumption | omega) wf_X0_63 dX0_knownSet_18 ?_
    refine J_topi (fun z9 hz9 => ?_)
    obtain rfl : z9 = (s (fb i 6)) := hz9.trans (by exact r1 6 (by decide))
    clear hz9
    refine J_if_eq (tgt := 30) dX0_knownSet_21 (by decide) (fun h21 => ?_) (fun h21 => ?_)
    · refine J_iinc (v := _ + 1) dX0_knownSet_30 rfl rfl rfl rfl ?_
      rw [show nI i + 1 = nI (i + 1) from (nI_succ i).symm]
      refine J_goto (tgt := 4) dX0_knownSet_33 (by decide) ?_
      exact ih (i + 1) _ (by omega) (by rw [ha]; first | (simp only [kS, h21, reduceIte]; done))
    · refine J_iload_n dX0_knownSet_24 rfl rfl ?_
      refine J_iconst (v := 1) dX0_knownSet_25 (by decide) ?_
      refine J_iload_n dX0_knownSet_26 rfl rfl ?_
      refine J_ishl dX0_knownSet_27 ?_
      refine J_ior dX0_knownSet_28 ?_
      refine J_istore_n dX0_knownSet_29 rfl rfl rfl ?_
      refine J_iinc (v := _ + 1) dX0_knownSet_30 rfl rfl rfl rfl ?_
      rw [show nI i + 1 = nI (i + 1) from (nI_succ i).symm]
      refine J_goto (tgt := 4) dX0_knownSet_33 (by decide) ?_
      exact ih (i + 1) _ (by omega) (by rw [ha]; first | (simp only [kS, h21, reduceIte]; done))

set_option maxRecDepth 100000 in
set_option maxHeartbeats 4000000 in
theorem c_X0_knownSet {X : jX} {ad : Nat → Nat} {m B : Mem} {b : Nat} {s : Rw} {n : Nat}  (hb : isB b) (hR : RpB B s n) (hn8 : n ≤ 8) : Cd X yX0_knownSet cX0_knownSet 3 (some .int) 0 ad [.ref b] (SB m b B) (some (.int (kS s n))) ((SB m b B)) := by
  refine Cm.of (own := RX0) (nm := "knownSet") (by decide +kernel) rfl rfl rfl rfl ?_
  refine J_iconst (v := 0) dX0_knownSet_0 (by decide) ?_
  refine J_istore_n dX0_knownSet_1 rfl rfl rfl ?_
  refine J_iconst (v := 0) dX0_knownSet_2 (by decide) ?_
  refine J_istore_n dX0_knownSet_3 rfl rfl rfl ?_
  exact clsKnownLoop hb hR hn8 n 0 _ (by omega) rfl

def pS (s : Rw) : Nat → Int32
  | 0 => 0
  | k + 1 => if s (fb k 2) = -6 then pS s k else pS s k ||| 1 <<< (nI k &&& 31)
set_option maxRecDepth 100000 in
set_option maxHeartbeats 4000000 in
theorem clsPlugLoop {X : jX} {ad : Nat → Nat} {m B : Mem} {b : Nat} {s : Rw} {n : Nat} (hb : isB b) (hR : RpB B s n) (hn8 : n ≤ 8) : ∀ (j i : Nat) (a : Int32), i + j = n → a = pS s i → Jg X RX0 cX0_pluggedSet 3 (some .int) "pluggedSet" 0 0 0 (QF X ad (fun v m9 => v = some (.int (pS s n)) ∧ m9 = SB m b B)) ad 0 0 4 [(0, .ref b), (1, .int a), (2, .int (nI i))] [] (WS X ad (SB m b B)) := by
  intro j
  induction j with
  | zero =>
    intro i a hi ha
    obtain rfl : i = n := by omega
    refine J_iload_n dX0_pluggedSet_4 rfl rfl ?_
    refine J_aload_n dX0_pluggedSet_5 rfl rfl ?_
    refine gB_boardCount (by first | assumption | exact isB1 | exact isB18) wf_X0_43 dX0_pluggedSet_6 ?_
    refine J_topi (fun z9 hz9 => ?_)
    obtain rfl : z9 = (nI i) := hz9.trans (by exact hR.1)
    clear hz9
    refine J_icmp_ge (tgt := 38) dX0_pluggedSet_9 (by decide) (fun h9 => ?_) (fun h9 => absurd (nI_le1 (Nat.le_refl _) (by omega)) h9)
    refine J_iload_n dX0_pluggedSet_38 rfl rfl ?_
    refine r_int dX0_pluggedSet_39 ?_
    exact ⟨by rw [ha], rfl⟩
  | succ j ih =>
    intro i a hi ha
    obtain ⟨r1, r2⟩ := hR.2.2 i (by omega)
    refine J_iload_n dX0_pluggedSet_4 rfl rfl ?_
    refine J_aload_n dX0_pluggedSet_5 rfl rfl ?_
    refine gB_boardCount (by first | assumption | exact isB1 | exact isB18) wf_X0_43 dX0_pluggedSet_6 ?_
    refine J_topi (fun z9 hz9 => ?_)
    obtain rfl : z9 = (nI n) := hz9.trans (by exact hR.1)
    clear hz9
    refine J_icmp_ge (tgt := 38) dX0_pluggedSet_9 (by decide) (fun h9 => absurd h9 (nI_nle1 (by omega) (by omega))) (fun h9 => ?_)
    refine J_aload_n dX0_pluggedSet_12 rfl rfl ?_
    refine gX0_boards (by first | assumption | exact isB1 | exact isB18) wf_X0_25 dX0_pluggedSet_13 ?_
    refine J_iload_n dX0_pluggedSet_16 rfl rfl ?_
    refine al_boards hb (k := i) (nI_cl (by omega)) dX0_pluggedSet_17 (nIin (by omega) (by decide)) ?_
    refine gB_slot (by first | assumption | exact isB1 | exact isB18) (by first | assumption | omega) wf_X0_60 dX0_pluggedSet_18 ?_
    refine J_topi (fun z9 hz9 => ?_)
    obtain rfl : z9 = (s (fb i 2)) := hz9.trans (by exact r1 2 (by decide))
    clear hz9
    refine J_bipush (v := -6) dX0_pluggedSet_21 (by decide) ?_
    refine J_icmp_eq (tgt := 32) dX0_pluggedSet_23 (by decide) (fun h23 => ?_) (fun h23 => ?_)
    · refine J_iinc (v := _ + 1) dX0_pluggedSet_32 rfl rfl rfl rfl ?_
      rw [show nI i + 1 = nI (i + 1) from (nI_succ i).symm]
      refine J_goto (tgt := 4) dX0_pluggedSet_35 (by decide) ?_
      exact ih (i + 1) _ (by omega) (by rw [ha]; first | (simp only [pS, h23, reduceIte]; done))
    · refine J_iload_n dX0_pluggedSet_26 rfl rfl ?_
      refine J_iconst (v := 1) dX0_pluggedSet_27 (by decide) ?_
      refine J_iload_n dX0_pluggedSet_28 rfl rfl ?_
      refine J_ishl dX0_pluggedSet_29 ?_
      refine J_ior dX0_pluggedSet_30 ?_
      refine J_istore_n dX0_pluggedSet_31 rfl rfl rfl ?_
      refine J_iinc (v := _ + 1) dX0_pluggedSet_32 rfl rfl rfl rfl ?_
      rw [show nI i + 1 = nI (i + 1) from (nI_succ i).symm]
      refine J_goto (tgt := 4) dX0_pluggedSet_35 (by decide) ?_
      exact ih (i + 1) _ (by omega) (by rw [ha]; first | (simp only [pS, h23, reduceIte]; done))

set_option maxRecDepth 100000 in
set_option maxHeartbeats 4000000 in
theorem c_X0_pluggedSet {X : jX} {ad : Nat → Nat} {m B : Mem} {b : Nat} {s : Rw} {n : Nat}  (hb : isB b) (hR : RpB B s n) (hn8 : n ≤ 8) : Cd X yX0_pluggedSet cX0_pluggedSet 3 (some .int) 0 ad [.ref b] (SB m b B) (some (.int (pS s n))) ((SB m b B)) := by
  refine Cm.of (own := RX0) (nm := "pluggedSet") (by decide +kernel) rfl rfl rfl rfl ?_
  refine J_iconst (v := 0) dX0_pluggedSet_0 (by decide) ?_
  refine J_istore_n dX0_pluggedSet_1 rfl rfl rfl ?_
  refine J_iconst (v := 0) dX0_pluggedSet_2 (by decide) ?_
  refine J_istore_n dX0_pluggedSet_3 rfl rfl rfl ?_
  exact clsPlugLoop hb hR hn8 n 0 _ (by omega) rfl

set_option maxRecDepth 100000 in
set_option maxHeartbeats 4000000 in
theorem c_X0_boardSet {X : jX} {ad : Nat → Nat} {m B : Mem} {b : Nat} {s : Rw} {n : Nat}  (hb : isB b) (hR : RpB B s n) (hn8 : n ≤ 8) : Cd X yX0_boardSet cX0_boardSet 1 (some .int) 0 ad [.ref b] (SB m b B) (some (.int (1 <<< (nI n &&& 31) - 1))) ((SB m b B)) := by
  refine Cm.of (own := RX0) (nm := "boardSet") (by decide +kernel) rfl rfl rfl rfl ?_
  refine J_iconst (v := 1) dX0_boardSet_0 (by decide) ?_
  refine J_aload_n dX0_boardSet_1 rfl rfl ?_
  refine gB_boardCount (by first | assumption | exact isB1 | exact isB18) wf_X0_43 dX0_boardSet_2 ?_
  refine J_topi (fun z9 hz9 => ?_)
  obtain rfl : z9 = (nI n) := hz9.trans (by exact hR.1)
  clear hz9
  refine J_ishl dX0_boardSet_5 ?_
  refine J_iconst (v := 1) dX0_boardSet_6 (by decide) ?_
  refine J_isub dX0_boardSet_7 ?_
  refine r_int dX0_boardSet_8 ?_
  exact ⟨rfl, rfl⟩

set_option maxRecDepth 100000 in
set_option maxHeartbeats 4000000 in
theorem clsHeldLoop {X : jX} {ad : Nat → Nat} {m B : Mem} {b : Nat} {s : Rw} {n : Nat} (hb : isB b) (hR : RpB B s n) (hn8 : n ≤ 8) (h01 : s 0 = 1) : ∀ (j i : Nat), i + j = n → hd s i = 0 → Jg X RX0 cX0_isHeld 2 (some .boolean) "isHeld" 2 0 0 (QF X ad (fun v m9 => v = some (.int (isH s n)) ∧ m9 = SB m b B)) ad 0 0 13 [(0, .ref b), (1, .int (nI i))] [] (WS X ad (SB m b B)) := by
  intro j
  induction j with
  | zero =>
    intro i hi hno
    obtain rfl : i = n := by omega
    refine J_iload_n dX0_isHeld_13 rfl rfl ?_
    refine J_aload_n dX0_isHeld_14 rfl rfl ?_
    refine gB_boardCount (by first | assumption | exact isB1 | exact isB18) wf_X0_43 dX0_isHeld_15 ?_
    refine J_topi (fun z9 hz9 => ?_)
    obtain rfl : z9 = (nI i) := hz9.trans (by exact hR.1)
    clear hz9
    refine J_icmp_ge (tgt := 41) dX0_isHeld_18 (by decide) (fun h18 => ?_) (fun h18 => absurd (nI_le1 (Nat.le_refl _) (by omega)) h18)
    refine J_iconst (v := 0) dX0_isHeld_41 (by decide) ?_
    refine r_bool dX0_isHeld_42 (by first | exact Or.inl rfl | exact Or.inr rfl | exact i01 | exact jin01) ?_
    exact ⟨by rw [isH, if_pos hno], rfl⟩
  | succ j ih =>
    intro i hi hno
    obtain ⟨r1, r2⟩ := hR.2.2 i (by omega)
    refine J_iload_n dX0_isHeld_13 rfl rfl ?_
    refine J_aload_n dX0_isHeld_14 rfl rfl ?_
    refine gB_boardCount (by first | assumption | exact isB1 | exact isB18) wf_X0_43 dX0_isHeld_15 ?_
    refine J_topi (fun z9 hz9 => ?_)
    obtain rfl : z9 = (nI n) := hz9.trans (by exact hR.1)
    clear hz9
    refine J_icmp_ge (tgt := 41) dX0_isHeld_18 (by decide) (fun h18 => absurd h18 (nI_nle1 (by omega) (by omega))) (fun h18 => ?_)
    refine J_aload_n dX0_isHeld_21 rfl rfl ?_
    refine gX0_boards (by first | assumption | exact isB1 | exact isB18) wf_X0_25 dX0_isHeld_22 ?_
    refine J_iload_n dX0_isHeld_25 rfl rfl ?_
    refine al_boards hb (k := i) (nI_cl (by omega)) dX0_isHeld_26 (nIin (by omega) (by decide)) ?_
    refine cVi wv_X0_79 (c_X1_holdsBus hb (i := i) (by omega)) dX0_isHeld_27 (ob1 (by first | assumption | exact isB1 | exact isB18) (by first | assumption | omega)) rfl rfl (kk := ?_)
    refine J_topi (fun z9 hz9 => ?_)
    obtain rfl : z9 = (hd1 s i) := hz9.trans (by rw [r1 3 (by decide), r1 4 (by decide)]; exact hb_eq)
    clear hz9
    refine J_if_eq (tgt := 35) dX0_isHeld_30 (by decide) (fun h30 => ?_) (fun h30 => ?_)
    · refine J_iinc (v := _ + 1) dX0_isHeld_35 rfl rfl rfl rfl ?_
      rw [show nI i + 1 = nI (i + 1) from (nI_succ i).symm]
      refine J_goto (tgt := 13) dX0_isHeld_38 (by decide) ?_
      exact ih (i + 1) (by omega) (by show (if hd s i = 0 then hd1 s i else 1) = 0; rw [if_pos hno]; exact h30)
    · refine J_iconst (v := 1) dX0_isHeld_33 (by decide) ?_
      refine r_bool dX0_isHeld_34 (by first | exact Or.inl rfl | exact Or.inr rfl | exact i01 | exact jin01) ?_
      have e : ¬ hd s (i + 1) = 0 := by show ¬ (if hd s i = 0 then hd1 s i else 1) = 0; rw [if_pos hno]; exact h30
      have e2 := hd_mono e j
      rw [show i + 1 + j = n by omega] at e2
      exact ⟨by rw [isH, if_neg e2, if_pos h01], rfl⟩

set_option maxRecDepth 100000 in
set_option maxHeartbeats 4000000 in
theorem c_X0_isHeld {X : jX} {ad : Nat → Nat} {m B : Mem} {b : Nat} {s : Rw} {n : Nat}  (hb : isB b) (hR : RpB B s n) (hn8 : n ≤ 8) (h01 : s 0 = 0 ∨ s 0 = 1) : Cd X yX0_isHeld cX0_isHeld 2 (some .boolean) 2 ad [.ref b] (SB m b B) (some (.int (isH s n))) ((SB m b B)) := by
  refine Cm.of (own := RX0) (nm := "isHeld") (by decide +kernel) rfl rfl rfl rfl ?_
  refine J_aload_n dX0_isHeld_0 rfl rfl ?_
  refine gX0_settings (by first | assumption | exact isB1 | exact isB18) wf_X0_18 dX0_isHeld_1 ?_
  refine J_iconst (v := 0) dX0_isHeld_4 (by decide) ?_
  refine rB_set hb 0 (by decide) rfl dX0_isHeld_5 ?_
  refine J_topi (fun z9 hz9 => ?_)
  obtain rfl : z9 = (s 0) := hz9.trans (by exact hR.2.1 0 (by decide))
  clear hz9
  refine J_if_ne (tgt := 11) dX0_isHeld_6 (by decide) (fun h6 => ?_) (fun h6 => ?_)
  · refine J_iconst (v := 0) dX0_isHeld_11 (by decide) ?_
    refine J_istore_n dX0_isHeld_12 rfl rfl rfl ?_
    exact clsHeldLoop hb hR hn8 (h01.resolve_left h6) n 0 (by omega) rfl
  · refine J_iconst (v := 0) dX0_isHeld_9 (by decide) ?_
    refine r_bool dX0_isHeld_10 (by first | exact Or.inl rfl | exact Or.inr rfl | exact i01 | exact jin01) ?_
    refine ⟨?_, rfl⟩
    unfold isH
    rw [if_neg (show ¬ s 0 = 1 by rw [h6]; decide)]
    split <;> rfl

theorem knF_low {s : Rw} {n i : Nat} {x : Int32} (hi : i < n) (hk : ¬ knB s x i = 0) (hno : ∀ k, k < i → knB s x k = 0) : ∀ j, n - i ≤ j → j ≤ n → knF s n x j = nI i := by
  intro j
  induction j with
  | zero => intro h1; omega
  | succ j ih =>
    intro h1 h2
    unfold knF
    by_cases e : n - 1 - j = i
    · rw [e, if_neg hk]
    · rw [if_pos (hno _ (by omega))]
      exact ih (by omega) (by omega)
theorem knF_none {s : Rw} {n : Nat} {x : Int32} (hno : ∀ k, k < n → knB s x k = 0) : ∀ j, j ≤ n → knF s n x j = -6 := by
  intro j
  induction j with
  | zero => intro _; rfl
  | succ j ih =>
    intro h2
    unfold knF
    rw [if_pos (hno _ (by omega))]
    exact ih (by omega)
theorem knB_of {s : Rw} {x : Int32} {i : Nat} (h6 : s (fb i 6) = 0 ∨ s (fb i 6) = 1) : (¬ s (fb i 6) = 0 ∧ s (fb i 0) = x → ¬ knB s x i = 0) ∧ (s (fb i 6) = 0 → knB s x i = 0) ∧ (¬ s (fb i 0) = x → knB s x i = 0) := by
  unfold knB
  rcases h6 with h | h
  · rw [h, if_neg (by decide)]
    exact ⟨fun g => absurd rfl g.1, fun _ => rfl, fun _ => rfl⟩
  · rw [h, if_pos rfl]
    refine ⟨fun g => by rw [if_pos g.2]; decide, fun g => absurd g (by decide), fun g => by rw [if_neg g]⟩
set_option maxRecDepth 100000 in
set_option maxHeartbeats 4000000 in
theorem clsCodeLoop {X : jX} {ad : Nat → Nat} {m B : Mem} {b : Nat} {s : Rw} {n : Nat} {x : Int32} (hb : isB b) (hR : RpB B s n) (hn8 : n ≤ 8) (hf : ∀ i, i < n → Bf s i) : ∀ (j i : Nat), i + j = n → (∀ k, k < i → knB s x k = 0) → Jg X RX0 cX0_knownWithCode 3 (some .int) "knownWithCode" 0 0 0 (QF X ad (fun v m9 => v = some (.int (knF s n x n)) ∧ m9 = SB m b B)) ad 0 0 2 [(0, .ref b), (1, .int x), (2, .int (nI i))] [] (WS X ad (SB m b B)) := by
  intro j
  induction j with
  | zero =>
    intro i hi hno
    obtain rfl : i = n := by omega
    refine J_iload_n dX0_knownWithCode_2 rfl rfl ?_
    refine J_aload_n dX0_knownWithCode_3 rfl rfl ?_
    refine gB_boardCount (by first | assumption | exact isB1 | exact isB18) wf_X0_43 dX0_knownWithCode_4 ?_
    refine J_topi (fun z9 hz9 => ?_)
    obtain rfl : z9 = (nI i) := hz9.trans (by exact hR.1)
    clear hz9
    refine J_icmp_ge (tgt := 43) dX0_knownWithCode_7 (by decide) (fun h7 => ?_) (fun h7 => absurd (nI_le1 (Nat.le_refl _) (by omega)) h7)
    refine J_bipush (v := -6) dX0_knownWithCode_43 (by decide) ?_
    refine r_int dX0_knownWithCode_45 ?_
    exact ⟨by rw [knF_none hno _ (Nat.le_refl _)], rfl⟩
  | succ j ih =>
    intro i hi hno
    obtain ⟨r1, r2⟩ := hR.2.2 i (by omega)
    have hB := knB_of (x := x) (hf i (by omega)).2.1
    refine J_iload_n dX0_knownWithCode_2 rfl rfl ?_
    refine J_aload_n dX0_knownWithCode_3 rfl rfl ?_
    refine gB_boardCount (by first | assumption | exact isB1 | exact isB18) wf_X0_43 dX0_knownWithCode_4 ?_
    refine J_topi (fun z9 hz9 => ?_)
    obtain rfl : z9 = (nI n) := hz9.trans (by exact hR.1)
    clear hz9
    refine J_icmp_ge (tgt := 43) dX0_knownWithCode_7 (by decide) (fun h7 => absurd h7 (nI_nle1 (by omega) (by omega))) (fun h7 => ?_)
    refine J_aload_n dX0_knownWithCode_10 rfl rfl ?_
    refine gX0_boards (by first | assumption | exact isB1 | exact isB18) wf_X0_25 dX0_knownWithCode_11 ?_
    refine J_iload_n dX0_knownWithCode_14 rfl rfl ?_
    refine al_boards hb (k := i) (nI_cl (by omega)) dX0_knownWithCode_15 (nIin (by omega) (by decide)) ?_
    refine gB_isKnown (by first | assumption | exact isB1 | exact isB18) (by first | assumption | omega) wf_X0_63 dX0_knownWithCode_16 ?_
    refine J_topi (fun z9 hz9 => ?_)
    obtain rfl : z9 = (s (fb i 6)) := hz9.trans (by exact r1 6 (by decide))
    clear hz9
    refine J_if_eq (tgt := 37) dX0_knownWithCode_19 (by decide) (fun h19 => ?_) (fun h19 => ?_)
    · refine J_iinc (v := _ + 1) dX0_knownWithCode_37 rfl rfl rfl rfl ?_
      rw [show nI i + 1 = nI (i + 1) from (nI_succ i).symm]
      refine J_goto (tgt := 2) dX0_knownWithCode_40 (by decide) ?_
      have hz : knB s x i = 0 := by first | exact hB.2.1 h19 | exact hB.2.2 h32
      refine ih (i + 1) (by omega) (fun k hk => ?_)
      by_cases e : k = i
      · rw [e]; exact hz
      · exact hno k (by omega)
    · refine J_aload_n dX0_knownWithCode_22 rfl rfl ?_
      refine gX0_boards (by first | assumption | exact isB1 | exact isB18) wf_X0_25 dX0_knownWithCode_23 ?_
      refine J_iload_n dX0_knownWithCode_26 rfl rfl ?_
      refine al_boards hb (k := i) (nI_cl (by omega)) dX0_knownWithCode_27 (nIin (by omega) (by decide)) ?_
      refine gB_code (by first | assumption | exact isB1 | exact isB18) (by first | assumption | omega) wf_X0_67 dX0_knownWithCode_28 ?_
      refine J_topi (fun z9 hz9 => ?_)
      obtain rfl : z9 = (s (fb i 0)) := hz9.trans (by exact r1 0 (by decide))
      clear hz9
      refine J_iload_n dX0_knownWithCode_31 rfl rfl ?_
      refine J_icmp_ne (tgt := 37) dX0_knownWithCode_32 (by decide) (fun h32 => ?_) (fun h32 => ?_)
      · refine J_iinc (v := _ + 1) dX0_knownWithCode_37 rfl rfl rfl rfl ?_
        rw [show nI i + 1 = nI (i + 1) from (nI_succ i).symm]
        refine J_goto (tgt := 2) dX0_knownWithCode_40 (by decide) ?_
        have hz : knB s x i = 0 := by first | exact hB.2.1 h19 | exact hB.2.2 h32
        refine ih (i + 1) (by omega) (fun k hk => ?_)
        by_cases e : k = i
        · rw [e]; exact hz
        · exact hno k (by omega)
      · refine J_iload_n dX0_knownWithCode_35 rfl rfl ?_
        refine r_int dX0_knownWithCode_36 ?_
        exact ⟨by rw [knF_low (by omega) (hB.1 ⟨h19, h32⟩) hno n (by omega) (Nat.le_refl _)], rfl⟩

set_option maxRecDepth 100000 in
set_option maxHeartbeats 4000000 in
theorem c_X0_knownWithCode {X : jX} {ad : Nat → Nat} {m B : Mem} {b : Nat} {s : Rw} {n : Nat} {x : Int32} (hb : isB b) (hR : RpB B s n) (hn8 : n ≤ 8) (hf : ∀ i, i < n → Bf s i) : Cd X yX0_knownWithCode cX0_knownWithCode 3 (some .int) 0 ad [.ref b, .int x] (SB m b B) (some (.int (knF s n x n))) ((SB m b B)) := by
  refine Cm.of (own := RX0) (nm := "knownWithCode") (by decide +kernel) rfl rfl rfl rfl ?_
  refine J_iconst (v := 0) dX0_knownWithCode_0 (by decide) ?_
  refine J_istore_n dX0_knownWithCode_1 rfl rfl rfl ?_
  exact clsCodeLoop hb hR hn8 hf n 0 (by omega) (fun k hk => absurd hk (by omega))

