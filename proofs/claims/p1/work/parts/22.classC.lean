theorem nI_ofN {x : Int32} (h : ¬ x < 0) : x = nI x.toNatClampNeg := by
  have h1 := Int32.not_lt.mp h
  rw [Int32.le_iff_toInt_le] at h1
  have h0 : (0 : Int32).toInt = 0 := rfl
  rw [h0] at h1
  have h2 : x.toInt < 2147483648 := x.toInt_lt
  have h3 : x.toNatClampNeg = x.toInt.toNat := rfl
  apply Int32.toInt_inj.mp
  rw [nI_toInt (by omega)]
  omega
theorem jin_nat {x lo hi : Int32} {n : Nat} (hlo : ¬ lo < 0) (hn : hi.toInt = (n : Int)) (h : ¬ jin x lo hi = 0) : ∃ k, k ≤ n ∧ x = nI k := by
  unfold jin at h
  split at h
  · exact absurd rfl h
  · next h1 =>
    split at h
    · exact absurd rfl h
    · next h2 =>
      have a1 := Int32.not_lt.mp h1
      have a2 := Int32.not_lt.mp h2
      have a3 := Int32.not_lt.mp hlo
      rw [Int32.le_iff_toInt_le] at a1 a2 a3
      have h0 : (0 : Int32).toInt = 0 := rfl
      rw [h0] at a3
      have hx : ¬ x < 0 := by
        rw [Int32.not_lt, Int32.le_iff_toInt_le, h0]
        omega
      refine ⟨x.toNatClampNeg, ?_, nI_ofN hx⟩
      have h3 : x.toNatClampNeg = x.toInt.toNat := rfl
      omega
theorem tin {w : Int32} {n : Nat} {m : Int} (hn : m + 1 = (n : Int)) (h : ¬ (w.toInt < 0 ∨ m < w.toInt)) : ∃ k, k < n ∧ w = nI k := by
  have hx : ¬ w < 0 := by
    rw [Int32.not_lt, Int32.le_iff_toInt_le]
    have h0 : (0 : Int32).toInt = 0 := rfl
    rw [h0]
    omega
  refine ⟨w.toNatClampNeg, ?_, nI_ofN hx⟩
  have h3 : w.toNatClampNeg = w.toInt.toNat := rfl
  omega
theorem Fz.up4 {m : Mem} {b : Nat} {v : Int32} (h : Fz m b) : Fz (up m b 4 v) b := by
  obtain ⟨h3, h4, h6, h7⟩ := h
  exact ⟨by simp [up_apply, h3], by simp [up_apply, h4], by simp [up_apply, h6], by simp [up_apply, h7]⟩
theorem Out.up {m0 m : Mem} {b k : Nat} {v : Int32} (h : Out m0 m b) : Out m0 (up m b k v) b := fun c hc => by rw [up_ne (by omega), h c hc]
theorem Out.rf {m : Mem} {b : Nat} : Out m m b := fun _ _ => rfl
theorem nI_le1 {a b : Nat} (h : a ≤ b) (hb : b < 100000) : nI a ≤ nI b := by
  rw [Int32.le_iff_toInt_le, nI_toInt (by omega), nI_toInt (by omega)]
  omega
theorem nI_nle1 {a b : Nat} (h : a < b) (hb : b < 100000) : ¬ nI b ≤ nI a := by
  rw [Int32.le_iff_toInt_le, nI_toInt (by omega), nI_toInt (by omega)]
  omega
set_option maxRecDepth 100000 in
set_option maxHeartbeats 4000000 in
theorem passLoop {X : jX} {ad : Nat → Nat} {mem : Mem} {b T : Nat} {D : Int32} (hb : isB b) (hT : T ≤ 99) : ∀ (n i : Nat) (m : Mem), i + n = T → Fz m b → m (b + 11) 9 = D → Out mem m b → Jg X RX0 cX0_passTicks 4 (some .int) "passTicks" 4 0 0 (QF X ad (fun v m => v = some (.int 0) ∧ Out mem m b)) ad 0 0 38 [(0, .ref b), (1, .int (nI T)), (2, .int D), (3, .int (nI i))] [] (WS X ad m) := by
  intro n
  induction n with
  | zero =>
    intro i m hi hz hD hO
    obtain rfl : i = T := by omega
    refine J_iload_n dX0_passTicks_38 rfl rfl ?_
    refine J_iload_n dX0_passTicks_39 rfl rfl ?_
    refine J_icmp_ge (tgt := 53) dX0_passTicks_40 (by decide) (fun h40 => ?_) (fun h40 => absurd (nI_le1 (Nat.le_refl _) (by omega)) h40)
    refine J_aload_n dX0_passTicks_53 rfl rfl ?_
    refine gX0_bus (by first | assumption | exact isB1 | exact isB18) wf_X0_33 dX0_passTicks_54 ?_
    refine gX2_delivered (by first | assumption | exact isB1 | exact isB18) wf_X0_138 dX0_passTicks_57 ?_
    refine J_iload_n dX0_passTicks_60 rfl rfl ?_
    refine J_isub dX0_passTicks_61 ?_
    refine r_int dX0_passTicks_62 ?_
    exact ⟨by rw [hD, Int32.sub_self], hO⟩
  | succ n ih =>
    intro i m hi hz hD hO
    refine J_iload_n dX0_passTicks_38 rfl rfl ?_
    refine J_iload_n dX0_passTicks_39 rfl rfl ?_
    refine J_icmp_ge (tgt := 53) dX0_passTicks_40 (by decide) (fun h40 => absurd h40 (nI_nle1 (by omega) (by omega))) (fun h40 => ?_)
    refine J_aload_n dX0_passTicks_43 rfl rfl ?_
    refine cVv wv_X0_141 (c_X0_tick hb hz) dX0_passTicks_44 (ob0 (by first | assumption | exact isB1 | exact isB18)) rfl rfl (kk := ?_)
    refine J_iinc (v := _ + 1) dX0_passTicks_47 rfl rfl rfl rfl ?_
    rw [show nI i + 1 = nI (i + 1) from (nI_succ i).symm]
    refine J_goto (tgt := 38) dX0_passTicks_50 (by decide) ?_
    exact ih (i + 1) _ (by omega) hz.up4 (by simp [up_apply, hD]) hO.up

def pas (t : Int32) : Int32 := if jin t 1 99 = 0 then -2 else 0
set_option maxRecDepth 100000 in
set_option maxHeartbeats 4000000 in
theorem c_X0_passTicks {X : jX} {ad : Nat → Nat} {mem : Mem} {b : Nat} {t : Int32} (hb : isB b) (hz : Fz mem b) (ht : mem b 4 = 0) : Cm X yX0_passTicks cX0_passTicks 4 (some .int) 4 ad [.ref b, .int t] mem (fun v m => v = some (.int (pas t)) ∧ Out mem m b) := by
  refine Cm.of (own := RX0) (nm := "passTicks") (by decide +kernel) rfl rfl rfl rfl ?_
  refine J_iload_n dX0_passTicks_0 rfl rfl ?_
  refine J_iconst (v := 1) dX0_passTicks_1 (by decide) ?_
  refine J_bipush (v := 99) dX0_passTicks_2 (by decide) ?_
  refine cSNi ws_X0_103 c_X5_isIn dX0_passTicks_4 (kk := ?_)
  refine J_if_ne (tgt := 13) dX0_passTicks_7 (by decide) (fun h7 => ?_) (fun h7 => ?_)
  · refine J_aload_n dX0_passTicks_13 rfl rfl ?_
    refine gX0_time (by first | assumption | exact isB1 | exact isB18) wf_X0_54 dX0_passTicks_14 ?_
    refine J_iload_n dX0_passTicks_17 rfl rfl ?_
    refine J_iadd dX0_passTicks_18 ?_
    refine J_sipush (v := 9999) dX0_passTicks_19 (by decide) ?_
    refine J_icmp_le (tgt := 28) dX0_passTicks_22 (by decide) (fun h22 => ?_) (fun h22 => absurd (by obtain ⟨k, hk, rfl⟩ := jin_nat (n := 99) (by decide) rfl h7; rw [ht]; exact (show ∀ k, k < 100 → (0 : Int32) + nI k ≤ 9999 by decide) k (by omega)) h22)
    refine J_aload_n dX0_passTicks_28 rfl rfl ?_
    refine gX0_bus (by first | assumption | exact isB1 | exact isB18) wf_X0_33 dX0_passTicks_29 ?_
    refine gX2_delivered (by first | assumption | exact isB1 | exact isB18) wf_X0_138 dX0_passTicks_32 ?_
    refine J_istore_n dX0_passTicks_35 rfl rfl rfl ?_
    refine J_iconst (v := 0) dX0_passTicks_36 (by decide) ?_
    refine J_istore_n dX0_passTicks_37 rfl rfl rfl ?_
    obtain ⟨k, hk, rfl⟩ := jin_nat (n := 99) (by decide) rfl h7
    have e : pas (nI k) = 0 := by simp only [pas, if_neg h7]
    rw [e]
    exact passLoop hb hk k 0 mem (by omega) hz rfl Out.rf
  · refine J_bipush (v := -2) dX0_passTicks_10 (by decide) ?_
    refine r_int dX0_passTicks_12 ?_
    exact ⟨by simp only [pas, *, reduceIte], Out.rf⟩

def chI : Nat → Int64 → Int32 → Int32
  | 0, r, f => if lg_cmp r 0 = 0 then f else 0
  | n + 1, r, f => if lg_cmp (r &&& 255) 0 = 0 then (if lg_cmp r 0 = 0 then f else 0) else if jin ((r &&& 255).toInt32) 33 126 = 0 then 0 else chI n ((r.toUInt64 >>> ((8 : Int32).toInt64.toUInt64 &&& Int64.toUInt64 63)).toInt64) (f + 1)
set_option maxRecDepth 100000 in
set_option maxHeartbeats 4000000 in
theorem chLoop {X : jX} {ad : Nat → Nat} {mem : Mem} {c0 : Int64} {R : Int32} : ∀ (n f : Nat) (r : Int64), f + n = 8 → R = chI n r (nI f) → Jg X RX4 cX4_charactersIn 5 (some .int) "charactersIn" 1 0 0 (QF X ad (fun v m => v = some (.int R) ∧ m = mem)) ad 0 0 5 [(0, .long c0), (2, .long r), (4, .int (nI f))] [] (WS X ad mem) := by
  intro n
  induction n with
  | zero =>
    intro f r hf hR
    obtain rfl : f = 8 := by omega
    refine J_iload dX4_charactersIn_5 rfl ?_
    refine J_bipush (v := 8) dX4_charactersIn_7 (by decide) ?_
    refine J_icmp_ge (tgt := 51) dX4_charactersIn_9 (by decide) (fun h9 => ?_) (fun h9 => absurd (nI_le1 (a := 8) (b := 8) (Nat.le_refl _) (by omega)) h9)
    refine J_lload_n dX4_charactersIn_51 rfl rfl ?_
    refine J_lconst (v := 0) dX4_charactersIn_52 (by decide) ?_
    refine J_lcmp dX4_charactersIn_53 ?_
    refine J_if_ne (tgt := 62) dX4_charactersIn_54 (by decide) (fun h54 => ?_) (fun h54 => ?_)
    · refine J_iconst (v := 0) dX4_charactersIn_62 (by decide) ?_
      refine r_int dX4_charactersIn_63 ?_
      exact ⟨by rw [hR]; simp only [chI, *, reduceIte], rfl⟩
    · refine J_iload dX4_charactersIn_57 rfl ?_
      refine J_goto (tgt := 63) dX4_charactersIn_59 (by decide) ?_
      refine r_int dX4_charactersIn_63 ?_
      exact ⟨by rw [hR]; simp only [chI, *, reduceIte], rfl⟩
  | succ n ih =>
    intro f r hf hR
    refine J_iload dX4_charactersIn_5 rfl ?_
    refine J_bipush (v := 8) dX4_charactersIn_7 (by decide) ?_
    refine J_icmp_ge (tgt := 51) dX4_charactersIn_9 (by decide) (fun h9 => absurd h9 (nI_nle1 (a := f) (b := 8) (by omega) (by omega))) (fun h9 => ?_)
    refine J_lload_n dX4_charactersIn_12 rfl rfl ?_
    refine J_ldc2 wl_X4_26 dX4_charactersIn_13 ?_
    refine J_land dX4_charactersIn_16 ?_
    refine J_lconst (v := 0) dX4_charactersIn_17 (by decide) ?_
    refine J_lcmp dX4_charactersIn_18 ?_
    refine J_if_eq (tgt := 51) dX4_charactersIn_19 (by decide) (fun h19 => ?_) (fun h19 => ?_)
    · refine J_lload_n dX4_charactersIn_51 rfl rfl ?_
      refine J_lconst (v := 0) dX4_charactersIn_52 (by decide) ?_
      refine J_lcmp dX4_charactersIn_53 ?_
      refine J_if_ne (tgt := 62) dX4_charactersIn_54 (by decide) (fun h54 => ?_) (fun h54 => ?_)
      · refine J_iconst (v := 0) dX4_charactersIn_62 (by decide) ?_
        refine r_int dX4_charactersIn_63 ?_
        exact ⟨by rw [hR]; simp only [chI, *, reduceIte], rfl⟩
      · refine J_iload dX4_charactersIn_57 rfl ?_
        refine J_goto (tgt := 63) dX4_charactersIn_59 (by decide) ?_
        refine r_int dX4_charactersIn_63 ?_
        exact ⟨by rw [hR]; simp only [chI, *, reduceIte], rfl⟩
    · refine J_lload_n dX4_charactersIn_22 rfl rfl ?_
      refine J_ldc2 wl_X4_26 dX4_charactersIn_23 ?_
      refine J_land dX4_charactersIn_26 ?_
      refine J_l2i dX4_charactersIn_27 rfl ?_
      refine J_bipush (v := 33) dX4_charactersIn_28 (by decide) ?_
      refine J_bipush (v := 126) dX4_charactersIn_30 (by decide) ?_
      refine cSNi ws_X4_28 c_X5_isIn dX4_charactersIn_32 (kk := ?_)
      refine J_if_ne (tgt := 40) dX4_charactersIn_35 (by decide) (fun h35 => ?_) (fun h35 => ?_)
      · refine J_lload_n dX4_charactersIn_40 rfl rfl ?_
        refine J_bipush (v := 8) dX4_charactersIn_41 (by decide) ?_
        refine J_lushr dX4_charactersIn_43 rfl ?_
        refine J_lstore_n dX4_charactersIn_44 rfl rfl rfl rfl ?_
        refine J_iinc (v := _ + 1) dX4_charactersIn_45 rfl rfl rfl rfl ?_
        rw [show nI f + 1 = nI (f + 1) from (nI_succ f).symm]
        refine J_goto (tgt := 5) dX4_charactersIn_48 (by decide) ?_
        exact ih (f + 1) _ (by omega) (by rw [hR]; simp only [chI, *, reduceIte]; rw [nI_succ])
      · refine J_iconst (v := 0) dX4_charactersIn_38 (by decide) ?_
        refine r_int dX4_charactersIn_39 ?_
        exact ⟨by rw [hR]; simp only [chI, *, reduceIte], rfl⟩

set_option maxRecDepth 100000 in
set_option maxHeartbeats 4000000 in
theorem c_X4_charactersIn {X : jX} {ad : Nat → Nat} {mem : Mem} {c : Int64}  : Cd X yX4_charactersIn cX4_charactersIn 5 (some .int) 1 ad [.long c] mem (some (.int (chI 8 c 0))) (mem) := by
  refine Cm.of (own := RX4) (nm := "charactersIn") (by decide +kernel) rfl rfl rfl rfl ?_
  refine J_lload_n dX4_charactersIn_0 rfl rfl ?_
  refine J_lstore_n dX4_charactersIn_1 rfl rfl rfl rfl ?_
  refine J_iconst (v := 0) dX4_charactersIn_2 (by decide) ?_
  refine J_istore dX4_charactersIn_3 rfl rfl ?_
  exact chLoop 8 0 c rfl rfl

theorem chI_le : ∀ (n f : Nat) (r : Int64), f + n ≤ 8 → ∃ k, k ≤ f + n ∧ chI n r (nI f) = nI k := by
  intro n
  induction n with
  | zero =>
    intro f r h
    unfold chI
    split
    · exact ⟨f, by omega, rfl⟩
    · exact ⟨0, by omega, rfl⟩
  | succ n ih =>
    intro f r h
    unfold chI
    split
    · split
      · exact ⟨f, by omega, rfl⟩
      · exact ⟨0, by omega, rfl⟩
    · split
      · exact ⟨0, by omega, rfl⟩
      · rw [← nI_succ]
        obtain ⟨k, hk, e⟩ := ih (f + 1) ((r.toUInt64 >>> ((8 : Int32).toInt64.toUInt64 &&& Int64.toUInt64 63)).toInt64) (by omega)
        exact ⟨k, by omega, e⟩
set_option maxRecDepth 100000 in
set_option maxHeartbeats 4000000 in
theorem apLoop {X : jX} {ad : Nat → Nat} {mem : Mem} {c : Int64} {M : Nat} (hM : M ≤ 8) : ∀ (j : Nat) (m : Mem), j ≤ M → m 190 1 = nI (M - j) → (∀ c, c ≠ 190 → c ≠ 191 → m c = mem c) → Jg X RX4 cX4_append 5 (some .int) "append" 2 0 0 (QF X ad (fun v m9 => v = some (.int (nI M)) ∧ ∀ c, c ≠ 190 → c ≠ 191 → m9 c = mem c)) ad 0 0 31 [(0, .ref 190), (1, .long c), (3, .int (nI M)), (4, .int (nI j - 1))] [] (WS X ad m) := by
  intro j
  induction j with
  | zero =>
    intro m hj hm hq
    refine J_iload dX4_append_31 rfl ?_
    refine J_if_lt (tgt := 73) dX4_append_33 (by decide) (fun h33 => ?_) (fun h33 => absurd (show nI 0 - 1 < 0 by decide) h33)
    refine J_aload_n dX4_append_73 rfl rfl ?_
    refine gX4_length wf_X4_22 dX4_append_74 ?_
    refine r_int dX4_append_77 ?_
    exact ⟨by rw [hm]; rfl, hq⟩
  | succ j ih =>
    intro m hj hm hq
    refine J_iload dX4_append_31 rfl ?_
    refine J_if_lt (tgt := 73) dX4_append_33 (by decide) (fun h33 => absurd h33 (by rw [nI_pred]; exact fun h => absurd h (by rw [Int32.not_lt, Int32.le_iff_toInt_le, nI_toInt (by omega)]; exact Int.natCast_nonneg j))) (fun h33 => ?_)
    refine J_aload_n dX4_append_36 rfl rfl ?_
    refine gX4_signs wf_X4_9 dX4_append_37 ?_
    refine J_aload_n dX4_append_40 rfl rfl ?_
    refine gX4_length wf_X4_22 dX4_append_41 ?_
    refine J_lload_n dX4_append_44 rfl rfl ?_
    refine J_bipush (v := 8) dX4_append_45 (by decide) ?_
    refine J_iload dX4_append_47 rfl ?_
    refine J_imul dX4_append_49 ?_
    refine J_lushr dX4_append_50 rfl ?_
    refine J_l2i dX4_append_51 rfl ?_
    refine J_sipush (v := 255) dX4_append_52 (by decide) ?_
    refine J_iand dX4_append_55 ?_
    refine as_signs dX4_append_56 (by rw [hm]; exact nIin (by omega) (by decide)) ?_
    refine J_aload_n dX4_append_57 rfl rfl ?_
    refine J_dup dX4_append_58 rfl ?_
    refine gX4_length wf_X4_22 dX4_append_59 ?_
    refine J_iconst (v := 1) dX4_append_62 (by decide) ?_
    refine J_iadd dX4_append_63 ?_
    refine pX4_length wf_X4_22 dX4_append_64 ?_
    refine J_iinc (v := _ + (-1)) dX4_append_67 rfl rfl rfl rfl ?_
    rw [nI_pred, ← Int32.sub_eq_add_neg]
    refine J_goto (tgt := 31) dX4_append_70 (by decide) ?_
    refine ih _ (by omega) ?_ (fun c h1 h2 => by rw [up_ne h1, up_ne h2, hq c h1 h2])
    rw [up_apply, if_pos ⟨rfl, rfl⟩, up_ne (by decide), hm, show M - j = (M - (j + 1)) + 1 by omega, nI_succ]

def ptr (c : Int64) : Int32 := if chI 8 c 0 = 0 then -2 else chI 8 c 0
set_option maxRecDepth 100000 in
set_option maxHeartbeats 4000000 in
theorem c_X4_append {X : jX} {ad : Nat → Nat} {mem : Mem} {c : Int64} (hl : mem 190 1 = 0) : Cm X yX4_append cX4_append 5 (some .int) 2 ad [.ref 190, .long c] mem (fun v m9 => v = some (.int (ptr c)) ∧ ∀ c, c ≠ 190 → c ≠ 191 → m9 c = mem c) := by
  refine Cm.of (own := RX4) (nm := "append") (by decide +kernel) rfl rfl rfl rfl ?_
  refine J_lload_n dX4_append_0 rfl rfl ?_
  refine cSi ws_X4_18 c_X4_charactersIn dX4_append_1 (kk := ?_)
  refine J_istore_n dX4_append_4 rfl rfl rfl ?_
  refine J_iload_n dX4_append_5 rfl rfl ?_
  refine J_if_ne (tgt := 12) dX4_append_6 (by decide) (fun h6 => ?_) (fun h6 => ?_)
  · refine J_aload_n dX4_append_12 rfl rfl ?_
    refine gX4_length wf_X4_22 dX4_append_13 ?_
    refine J_iload_n dX4_append_16 rfl rfl ?_
    refine J_iadd dX4_append_17 ?_
    refine J_bipush (v := 80) dX4_append_18 (by decide) ?_
    refine J_icmp_le (tgt := 26) dX4_append_20 (by decide) (fun h20 => ?_) (fun h20 => absurd (by obtain ⟨k, hk, e⟩ := chI_le 8 0 c (by decide); rw [hl, show chI 8 c 0 = nI k from e]; exact (show ∀ k, k < 9 → (0 : Int32) + nI k ≤ 80 by decide) k (by omega)) h20)
    refine J_iload_n dX4_append_26 rfl rfl ?_
    refine J_iconst (v := 1) dX4_append_27 (by decide) ?_
    refine J_isub dX4_append_28 ?_
    refine J_istore dX4_append_29 rfl rfl ?_
    obtain ⟨k, hk, e⟩ := chI_le 8 0 c (by decide)
    have e1 : chI 8 c 0 = nI k := e
    have e2 : ptr c = nI k := by rw [← e1]; simp only [ptr, if_neg h6]
    rw [e1, e2]
    exact apLoop (by omega) k mem (Nat.le_refl _) (by rw [hl, Nat.sub_self]; rfl) (fun _ _ _ => rfl)
  · refine J_bipush (v := -2) dX4_append_9 (by decide) ?_
    refine r_int dX4_append_11 ?_
    exact ⟨by simp only [ptr, *, reduceIte], fun _ _ _ => rfl⟩

set_option maxRecDepth 100000 in
set_option maxHeartbeats 4000000 in
theorem c_X4_clear {X : jX} {ad : Nat → Nat} {mem : Mem}   : Cm X yX4_clear cX4_clear 2 (some .int) 0 ad [.ref 190] mem (fun v m => v = some (.int (mem 190 1)) ∧ ∀ c, c ≠ 190 → m c = mem c) := by
  refine Cm.of (own := RX4) (nm := "clear") (by decide +kernel) rfl rfl rfl rfl ?_
  refine J_aload_n dX4_clear_0 rfl rfl ?_
  refine gX4_length wf_X4_22 dX4_clear_1 ?_
  refine J_istore_n dX4_clear_4 rfl rfl rfl ?_
  refine J_aload_n dX4_clear_5 rfl rfl ?_
  refine J_iconst (v := 0) dX4_clear_6 (by decide) ?_
  refine pX4_length wf_X4_22 dX4_clear_7 ?_
  refine J_iload_n dX4_clear_10 rfl rfl ?_
  refine r_int dX4_clear_11 ?_
  exact ⟨rfl, fun c hc => up_ne hc⟩

set_option maxRecDepth 100000 in
set_option maxHeartbeats 4000000 in
theorem c_X4_startReading {X : jX} {ad : Nat → Nat} {mem : Mem}   : Cd X yX4_startReading cX4_startReading 1 (none) 0 ad [.ref 190] mem none (up mem 190 2 0) := by
  refine Cm.of (own := RX4) (nm := "startReading") (by decide +kernel) rfl rfl rfl rfl ?_
  refine J_aload_n dX4_startReading_0 rfl rfl ?_
  refine J_iconst (v := 0) dX4_startReading_1 (by decide) ?_
  refine pX4_place wf_X4_39 dX4_startReading_2 ?_
  refine r_void dX4_startReading_5 ?_
  exact ⟨rfl, rfl⟩

set_option maxRecDepth 100000 in
set_option maxHeartbeats 4000000 in
theorem c_X4_signHere {X : jX} {ad : Nat → Nat} {mem : Mem}  (hl : mem 190 1 = 0) (hp : mem 190 2 = 0) : Cd X yX4_signHere cX4_signHere 1 (some .int) 0 ad [.ref 190] mem (some (.int (-6))) (mem) := by
  refine Cm.of (own := RX4) (nm := "signHere") (by decide +kernel) rfl rfl rfl rfl ?_
  refine J_aload_n dX4_signHere_0 rfl rfl ?_
  refine gX4_place wf_X4_39 dX4_signHere_1 ?_
  refine J_if_lt (tgt := 30) dX4_signHere_4 (by decide) (fun h4 => absurd h4 (lk0 hp)) (fun h4 => ?_)
  refine J_aload_n dX4_signHere_7 rfl rfl ?_
  refine gX4_place wf_X4_39 dX4_signHere_8 ?_
  refine J_aload_n dX4_signHere_11 rfl rfl ?_
  refine gX4_length wf_X4_22 dX4_signHere_12 ?_
  refine J_icmp_ge (tgt := 30) dX4_signHere_15 (by decide) (fun h15 => ?_) (fun h15 => absurd (by rw [hl, hp]; decide) h15)
  refine J_bipush (v := -6) dX4_signHere_30 (by decide) ?_
  refine r_int dX4_signHere_32 ?_
  exact ⟨rfl, rfl⟩

set_option maxRecDepth 100000 in
set_option maxHeartbeats 4000000 in
theorem c_X4_formOf {X : jX} {ad : Nat → Nat} {mem : Mem}  (had : ∀ k, ad (1000 + k) = jx X k) : Cd X yX4_formOf cX4_formOf 1 (some (.object "java/lang/String")) 0 ad [.int (-6)] mem (some (.ref 1016)) (mem) := by
  refine Cm.of (own := RX4) (nm := "formOf") (by decide +kernel) rfl rfl rfl rfl ?_
  refine J_iload_n dX4_formOf_0 rfl rfl ?_
  refine J_lookup (tgt := 78) dX4_formOf_1 (by decide) rfl (by decide) ?_
  refine J_ldcS (n := 1016) rfl 6 (by decide) rfl (had 16) dX4_formOf_78 ?_
  refine r_ref dX4_formOf_80 ?_
  exact ⟨rfl, rfl⟩

set_option maxRecDepth 100000 in
set_option maxHeartbeats 4000000 in
theorem c_J0_isEmpty_aae02 {X : jX} {ad : Nat → Nat} {mem : Mem}  (had : ∀ k, ad (1000 + k) = jx X k) : Cd X yJ0_isEmpty_aae02 cJ0_isEmpty_aae02 1 (some .boolean) 0 ad [.ref 1016] mem (some (.int 1)) (mem) := by
  refine Cm.of (own := RJ0) (nm := "isEmpty") (by decide +kernel) rfl rfl rfl rfl ?_
  refine J_aload_n dJ0_isEmpty_aae02_0 rfl rfl ?_
  refine J_sval (q := 1026) 6 (by decide) (had 16) (had 26) wf_J0_9 dJ0_isEmpty_aae02_1 ?_
  refine J_slenb (v := 0) 6 (by decide) (had 26) rfl dJ0_isEmpty_aae02_4 ?_
  refine J_if_ne (tgt := 12) dJ0_isEmpty_aae02_5 (by decide) (fun h5 => absurd rfl h5) (fun h5 => ?_)
  refine J_iconst (v := 1) dJ0_isEmpty_aae02_8 (by decide) ?_
  refine J_goto (tgt := 13) dJ0_isEmpty_aae02_9 (by decide) ?_
  refine r_bool dJ0_isEmpty_aae02_13 (by first | exact Or.inl rfl | exact Or.inr rfl | exact i01 | exact jin01) ?_
  exact ⟨rfl, rfl⟩

set_option maxRecDepth 100000 in
set_option maxHeartbeats 4000000 in
theorem c_X4_readOrder {X : jX} {ad : Nat → Nat} {mem : Mem}  (had : ∀ k, ad (1000 + k) = jx X k) (hl : mem 190 1 = 0) (hp : mem 190 2 = 0) : Cd X yX4_readOrder cX4_readOrder 6 (some .boolean) 5 ad [.ref 190] mem (some (.int 0)) (up mem 190 3 (-6)) := by
  refine Cm.of (own := RX4) (nm := "readOrder") (by decide +kernel) rfl rfl rfl rfl ?_
  refine J_aload_n dX4_readOrder_0 rfl rfl ?_
  refine J_aload_n dX4_readOrder_1 rfl rfl ?_
  refine cVi wv_X4_49 (c_X4_signHere hl hp) dX4_readOrder_2 ob4 rfl rfl (kk := ?_)
  refine pX4_kind wf_X4_53 dX4_readOrder_5 ?_
  refine J_aload_n dX4_readOrder_8 rfl rfl ?_
  refine gX4_kind wf_X4_53 dX4_readOrder_9 ?_
  rw [show up mem 190 3 (-6) 190 3 = -6 by rw [up_apply, if_pos ⟨rfl, rfl⟩]]
  refine cSr ws_X4_56 (c_X4_formOf had) dX4_readOrder_12 (kk := ?_)
  refine J_astore_n dX4_readOrder_15 rfl rfl rfl ?_
  refine J_aload_n dX4_readOrder_16 rfl rfl ?_
  refine cStri wv_X4_60 (c_J0_isEmpty_aae02 had) dX4_readOrder_17 6 (by decide) (had 16) (kk := ?_)
  refine J_if_eq (tgt := 25) dX4_readOrder_20 (by decide) (fun h20 => absurd h20 (by decide)) (fun h20 => ?_)
  refine J_iconst (v := 0) dX4_readOrder_23 (by decide) ?_
  refine r_bool dX4_readOrder_24 (by first | exact Or.inl rfl | exact Or.inr rfl | exact i01 | exact jin01) ?_
  exact ⟨rfl, rfl⟩

set_option maxRecDepth 100000 in
set_option maxHeartbeats 4000000 in
theorem c_X4_faultPlace {X : jX} {ad : Nat → Nat} {mem : Mem}  (had : ∀ k, ad (1000 + k) = jx X k) (hl : mem 190 1 = 0) : Cm X yX4_faultPlace cX4_faultPlace 2 (some .int) 6 ad [.ref 190] mem (fun v m => v = some (.int 0) ∧ ∀ c, c ≠ 190 → m c = mem c) := by
  refine Cm.of (own := RX4) (nm := "faultPlace") (by decide +kernel) rfl rfl rfl rfl ?_
  refine J_aload_n dX4_faultPlace_0 rfl rfl ?_
  refine cVv wv_X4_32 c_X4_startReading dX4_faultPlace_1 ob4 rfl rfl (kk := ?_)
  refine J_iconst (v := 0) dX4_faultPlace_4 (by decide) ?_
  refine J_istore_n dX4_faultPlace_5 rfl rfl rfl ?_
  refine J_iload_n dX4_faultPlace_6 rfl rfl ?_
  refine J_bipush (v := 80) dX4_faultPlace_7 (by decide) ?_
  refine J_icmp_ge (tgt := 56) dX4_faultPlace_9 (by decide) (fun h9 => absurd h9 (by decide)) (fun h9 => ?_)
  refine J_aload_n dX4_faultPlace_12 rfl rfl ?_
  refine cVi wv_X4_35 (c_X4_readOrder had (by simp [up_apply, hl]) (by simp [up_apply])) dX4_faultPlace_13 ob4 rfl rfl (kk := ?_)
  refine J_if_ne (tgt := 24) dX4_faultPlace_16 (by decide) (fun h16 => absurd rfl h16) (fun h16 => ?_)
  refine J_aload_n dX4_faultPlace_19 rfl rfl ?_
  refine gX4_place wf_X4_39 dX4_faultPlace_20 ?_
  refine r_int dX4_faultPlace_23 ?_
  exact ⟨by simp [up_apply], fun c hc => by rw [up_ne hc, up_ne hc]⟩

