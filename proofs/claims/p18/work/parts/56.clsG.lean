/-- what the words of a row keep -/
def Iw (s : Rw) (n w : Nat) : Prop := (∀ k, k < w → wv s k % 8 < n ∧ wv s k / 8 % 8 < n ∧ (wv s k / 64 % 4 = 1 ↔ s 295 = nI k)) ∧ opA s w ≤ 10 ∧ (s 295 = -6 ∨ ∃ t, 1 ≤ t ∧ t ≤ 9 ∧ s 296 = nI t) ∧ ∀ i, i < 8 → s (fb i 9) = nI (dlC s i w)
theorem beq0 {a : Nat} : Nat.beq a 0 = true ↔ a = 0 := ⟨Nat.eq_of_beq_eq_true, fun h => by rw [h]; rfl⟩
theorem wl_congr {s t : Rw} {w : Nat} (h : ∀ k, k < w → (wv t k / 64 % 4 = 0 ↔ wv s k / 64 % 4 = 0)) : wl t w = wl s w := by
  unfold wl
  apply List.filter_congr
  intro k hk
  have hk := List.mem_range.mp hk
  unfold isWt
  rw [Bool.eq_iff_iff, beq0, beq0]
  exact h k hk
theorem wl_k {s t : Rw} {w k : Nat} (hk : wv t k / 64 % 4 = 0 ↔ wv s k / 64 % 4 = 0) (hj : ∀ j, j < w → j ≠ k → t (95 + j) = s (95 + j)) : wl t w = wl s w := wl_congr (fun j h => by
  by_cases hjk : j = k
  · rw [hjk]; exact hk
  · rw [wv_eq (hj j h hjk)])
theorem wl_same {s t : Rw} {w : Nat} (h : ∀ k, k < w → t (95 + k) = s (95 + k)) : wl t w = wl s w := wl_congr (fun k hk => by rw [wv_eq (h k hk)])
theorem RWd_same {B B' : Mem} {s t : Rw} {k : Nat} (h : RWd B s k) (h1 : t (95 + k) = s (95 + k)) (h2 : B' 12 k = B 12 k) (h3 : B' 13 k = B 13 k) (h4 : B' 14 k = B 14 k) (h5 : B' 15 k = B 15 k) : RWd B' t k := by
  unfold RWd
  rw [wv_eq h1, h2, h3, h4, h5]
  exact h
/-- of a block, the bus alone has changed -/
def FrW (B B' : Mem) : Prop := ∀ r, r < 11 → B' r = B r
theorem FrW.up {B B' : Mem} {c k : Nat} {v : Int32} (h : FrW B B') (hc : 11 ≤ c) : FrW B (up B' c k v) := fun r hr => by rw [up_ne (by omega)]; exact h r hr
theorem FrW.rf {B : Mem} : FrW B B := fun _ _ => rfl
def abA (B : Mem) (k : Nat) : Nat → Int32
  | 0 => B 12 k
  | 1 => B 13 k
  | 2 => B 14 k
  | 3 => B 15 k
  | _ => if nI k = B 11 7 then B 11 8 else 0
theorem iw_a {x : Int32} {w : Nat} (h1 : x < 0) : some (Value.int 0) = some (Value.int (if jin x 0 (nI w - 1) = 0 then 0 else 1)) := by
  rw [if_pos (show jin x 0 (nI w - 1) = 0 by unfold jin; rw [if_pos h1])]
theorem iw_b {x : Int32} {w : Nat} (hw : w ≤ 200) (h1 : ¬ x < 0) (h9 : nI w ≤ x) : some (Value.int 0) = some (Value.int (if jin x 0 (nI w - 1) = 0 then 0 else 1)) := by
  rw [if_pos]
  unfold jin
  rw [if_neg h1]
  have a1 := Int32.not_lt.mp h1
  rw [Int32.le_iff_toInt_le] at a1 h9
  rw [nI_toInt (by omega)] at h9
  rw [if_pos]
  rw [Int32.lt_iff_toInt_lt]
  cases w with
  | zero => have e : (nI 0 - 1 : Int32).toInt = -1 := by decide
            have h0 : (0 : Int32).toInt = 0 := rfl
            omega
  | succ w => rw [nI_pred, nI_toInt (by omega)]; omega
theorem iw_c {x : Int32} {w : Nat} (hw : w ≤ 200) (h1 : ¬ x < 0) (h9 : ¬ nI w ≤ x) : some (Value.int 1) = some (Value.int (if jin x 0 (nI w - 1) = 0 then 0 else 1)) := by
  rw [if_neg (jin_no (by omega) h1 h9)]
set_option maxRecDepth 100000 in
set_option maxHeartbeats 4000000 in
theorem c_isWordX {X : jX} {ad : Nat → Nat} {m B : Mem} {b : Nat} {s : Rw} {w : Nat} {x : Int32} (hb : isB b) (hW : RpW B s w) (hw : w ≤ 200) : Cd X yX2_isWord cX2_isWord 2 (some .boolean) 0 ad [.ref (b + 11), .int x] (SB m b B) (some (.int (if jin x 0 (nI w - 1) = 0 then 0 else 1))) ((SB m b B)) := by
  refine Cm.of (own := RX2) (nm := "isWord") (by decide +kernel) rfl rfl rfl rfl ?_
  refine J_iload_n dX2_isWord_0 rfl rfl ?_
  refine J_if_lt (tgt := 16) dX2_isWord_1 (by decide) (fun h1 => ?_) (fun h1 => ?_)
  · refine J_iconst (v := 0) dX2_isWord_16 (by decide) ?_
    refine r_bool dX2_isWord_17 (by first | exact Or.inl rfl | exact Or.inr rfl | exact i01 | exact jin01) ?_
    first | exact ⟨iw_a h1, rfl⟩ | exact ⟨iw_b hw h1 h9, rfl⟩ | exact ⟨iw_c hw h1 h9, rfl⟩
  · refine J_iload_n dX2_isWord_4 rfl rfl ?_
    refine J_aload_n dX2_isWord_5 rfl rfl ?_
    refine gB_sent (by first | assumption | exact isB1 | exact isB18) wf_X2_31 dX2_isWord_6 ?_
    refine J_topi (fun z9 hz9 => ?_)
    obtain rfl : z9 = (nI w) := hz9.trans (by exact hW.1)
    clear hz9
    refine J_icmp_ge (tgt := 16) dX2_isWord_9 (by decide) (fun h9 => ?_) (fun h9 => ?_)
    · refine J_iconst (v := 0) dX2_isWord_16 (by decide) ?_
      refine r_bool dX2_isWord_17 (by first | exact Or.inl rfl | exact Or.inr rfl | exact i01 | exact jin01) ?_
      first | exact ⟨iw_a h1, rfl⟩ | exact ⟨iw_b hw h1 h9, rfl⟩ | exact ⟨iw_c hw h1 h9, rfl⟩
    · refine J_iconst (v := 1) dX2_isWord_12 (by decide) ?_
      refine J_goto (tgt := 17) dX2_isWord_13 (by decide) ?_
      refine r_bool dX2_isWord_17 (by first | exact Or.inl rfl | exact Or.inr rfl | exact i01 | exact jin01) ?_
      first | exact ⟨iw_a h1, rfl⟩ | exact ⟨iw_b hw h1 h9, rfl⟩ | exact ⟨iw_c hw h1 h9, rfl⟩

set_option maxRecDepth 100000 in
set_option maxHeartbeats 4000000 in
theorem c_X2_aboutWord {X : jX} {ad : Nat → Nat} {m B : Mem} {b : Nat} {s : Rw} {w : Nat} {x y : Int32} (hb : isB b) (hW : RpW B s w) (hw : w ≤ 200) : Cd X yX2_aboutWord cX2_aboutWord 3 (some .int) 1 ad [.ref (b + 11), .int x, .int y] (SB m b B) (some (.int (if jin x 0 (nI w - 1) = 0 then -1 else if y.toInt < 0 ∨ 4 < y.toInt then -2 else abA B x.toNatClampNeg y.toNatClampNeg))) ((SB m b B)) := by
  refine Cm.of (own := RX2) (nm := "aboutWord") (by decide +kernel) rfl rfl rfl rfl ?_
  refine J_aload_n dX2_aboutWord_0 rfl rfl ?_
  refine J_iload_n dX2_aboutWord_1 rfl rfl ?_
  refine cVi wv_X2_55 (c_isWordX hb hW hw) dX2_aboutWord_2 (ob2 (by first | assumption | exact isB1 | exact isB18)) rfl rfl (kk := ?_)
  refine J_if_ne (tgt := 10) dX2_aboutWord_5 (by decide) (fun h5 => ?_) (fun h5 => ?_)
  · have h5c : ¬ jin x 0 (nI w - 1) = 0 := fun g => h5 (if_pos g)
    obtain ⟨q, hq, rfl⟩ := jinN (by omega) h5c
    have e8 : (nI q).toNatClampNeg = q := nI_cl (by omega)
    refine J_iload_n dX2_aboutWord_10 rfl rfl ?_
    by_cases hts : y.toInt < 0 ∨ 4 < y.toInt
    · refine J_tableOut (tgt := 89) dX2_aboutWord_11 hts (by decide) ?_
      refine J_bipush (v := -2) dX2_aboutWord_89 (by decide) ?_
      refine r_int dX2_aboutWord_91 ?_
      exact ⟨by rw [if_neg h5c, if_pos hts], rfl⟩
    · obtain ⟨k, hk, rfl⟩ := tin (n := 5) (m := 4) rfl hts
      match k, hk with
      | 0, _ =>
        refine J_tableIn (off := 33) (tgt := 44) dX2_aboutWord_11 (by decide) (by decide) (by decide) (by decide) ?_
        refine J_aload_n dX2_aboutWord_44 rfl rfl ?_
        refine gX2_senders (by first | assumption | exact isB1 | exact isB18) wf_X2_9 dX2_aboutWord_45 ?_
        refine J_iload_n dX2_aboutWord_48 rfl rfl ?_
        refine rB_w12 hb q (by omega) rfl dX2_aboutWord_49 ?_
        refine r_int dX2_aboutWord_50 ?_
        exact ⟨by rw [if_neg h5c, if_neg (by decide), e8]; rfl, rfl⟩
      | 1, _ =>
        refine J_tableIn (off := 40) (tgt := 51) dX2_aboutWord_11 (by decide) (by decide) (by decide) (by decide) ?_
        refine J_aload_n dX2_aboutWord_51 rfl rfl ?_
        refine gX2_receivers (by first | assumption | exact isB1 | exact isB18) wf_X2_15 dX2_aboutWord_52 ?_
        refine J_iload_n dX2_aboutWord_55 rfl rfl ?_
        refine rB_w13 hb q (by omega) rfl dX2_aboutWord_56 ?_
        refine r_int dX2_aboutWord_57 ?_
        exact ⟨by rw [if_neg h5c, if_neg (by decide), e8]; rfl, rfl⟩
      | 2, _ =>
        refine J_tableIn (off := 47) (tgt := 58) dX2_aboutWord_11 (by decide) (by decide) (by decide) (by decide) ?_
        refine J_aload_n dX2_aboutWord_58 rfl rfl ?_
        refine gX2_conditions (by first | assumption | exact isB1 | exact isB18) wf_X2_18 dX2_aboutWord_59 ?_
        refine J_iload_n dX2_aboutWord_62 rfl rfl ?_
        refine rB_w14 hb q (by omega) rfl dX2_aboutWord_63 ?_
        refine r_int dX2_aboutWord_64 ?_
        exact ⟨by rw [if_neg h5c, if_neg (by decide), e8]; rfl, rfl⟩
      | 3, _ =>
        refine J_tableIn (off := 54) (tgt := 65) dX2_aboutWord_11 (by decide) (by decide) (by decide) (by decide) ?_
        refine J_aload_n dX2_aboutWord_65 rfl rfl ?_
        refine gX2_hurts (by first | assumption | exact isB1 | exact isB18) wf_X2_21 dX2_aboutWord_66 ?_
        refine J_iload_n dX2_aboutWord_69 rfl rfl ?_
        refine rB_w15 hb q (by omega) rfl dX2_aboutWord_70 ?_
        refine r_int dX2_aboutWord_71 ?_
        exact ⟨by rw [if_neg h5c, if_neg (by decide), e8]; rfl, rfl⟩
      | 4, _ =>
        refine J_tableIn (off := 61) (tgt := 72) dX2_aboutWord_11 (by decide) (by decide) (by decide) (by decide) ?_
        refine J_iload_n dX2_aboutWord_72 rfl rfl ?_
        refine J_aload_n dX2_aboutWord_73 rfl rfl ?_
        refine gB_onBus (by first | assumption | exact isB1 | exact isB18) wf_X2_27 dX2_aboutWord_74 ?_
        refine J_icmp_ne (tgt := 87) dX2_aboutWord_77 (by decide) (fun h77 => ?_) (fun h77 => ?_)
        · refine J_iconst (v := 0) dX2_aboutWord_87 (by decide) ?_
          refine r_int dX2_aboutWord_88 ?_
          exact ⟨by rw [if_neg h5c, if_neg (by decide), e8]; first | (exact (congrArg (fun z => some (Value.int z)) (if_pos h77)).symm) | (exact (congrArg (fun z => some (Value.int z)) (if_neg h77)).symm), rfl⟩
        · refine J_aload_n dX2_aboutWord_80 rfl rfl ?_
          refine gB_ticksLeft (by first | assumption | exact isB1 | exact isB18) wf_X2_43 dX2_aboutWord_81 ?_
          refine J_goto (tgt := 88) dX2_aboutWord_84 (by decide) ?_
          refine r_int dX2_aboutWord_88 ?_
          exact ⟨by rw [if_neg h5c, if_neg (by decide), e8]; first | (exact (congrArg (fun z => some (Value.int z)) (if_pos h77)).symm) | (exact (congrArg (fun z => some (Value.int z)) (if_neg h77)).symm), rfl⟩
      | k + 5, hk => exact absurd hk (by omega)
  · refine J_iconst (v := -1) dX2_aboutWord_8 (by decide) ?_
    refine r_int dX2_aboutWord_9 ?_
    exact ⟨by rw [if_pos (Classical.byContradiction fun g => by rw [if_neg g] at h5; exact absurd h5 (by decide))], rfl⟩

set_option maxRecDepth 100000 in
set_option maxHeartbeats 4000000 in
theorem c_X2_freeBus {X : jX} {ad : Nat → Nat} {m B : Mem} {b : Nat} {w : Nat} {k : Nat} {x : Int32} (hb : isB b) (h7 : B 11 7 = nI k) (h4w : B 11 4 = nI w) (hk : k < w) (hw : w ≤ 200) : Cd X yX2_freeBus cX2_freeBus 2 (none) 0 ad [.ref (b + 11), .int x] (SB m b B) none (SB m b (up (up (up B 14 k x) 11 7 (-6)) 11 8 0)) := by
  refine Cm.of (own := RX2) (nm := "freeBus") (by decide +kernel) rfl rfl rfl rfl ?_
  refine J_aload_n dX2_freeBus_0 rfl rfl ?_
  refine gB_onBus (by first | assumption | exact isB1 | exact isB18) wf_X2_27 dX2_freeBus_1 ?_
  refine J_topi (fun z9 hz9 => ?_)
  obtain rfl : z9 = (nI k) := hz9.trans (by exact h7)
  clear hz9
  refine J_if_lt (tgt := 28) dX2_freeBus_4 (by decide) (fun h4 => absurd h4 (nI_lt0 (by omega))) (fun h4 => ?_)
  refine J_aload_n dX2_freeBus_7 rfl rfl ?_
  refine gB_onBus (by first | assumption | exact isB1 | exact isB18) wf_X2_27 dX2_freeBus_8 ?_
  refine J_topi (fun z9 hz9 => ?_)
  obtain rfl : z9 = (nI k) := hz9.trans (by exact h7)
  clear hz9
  refine J_aload_n dX2_freeBus_11 rfl rfl ?_
  refine gB_sent (by first | assumption | exact isB1 | exact isB18) wf_X2_31 dX2_freeBus_12 ?_
  refine J_topi (fun z9 hz9 => ?_)
  obtain rfl : z9 = (nI w) := hz9.trans (by exact h4w)
  clear hz9
  refine J_icmp_ge (tgt := 28) dX2_freeBus_15 (by decide) (fun h15 => absurd h15 (nI_nle1 hk (by omega))) (fun h15 => ?_)
  refine J_aload_n dX2_freeBus_18 rfl rfl ?_
  refine gX2_conditions (by first | assumption | exact isB1 | exact isB18) wf_X2_18 dX2_freeBus_19 ?_
  refine J_aload_n dX2_freeBus_22 rfl rfl ?_
  refine gB_onBus (by first | assumption | exact isB1 | exact isB18) wf_X2_27 dX2_freeBus_23 ?_
  refine J_topi (fun z9 hz9 => ?_)
  obtain rfl : z9 = (nI k) := hz9.trans (by exact h7)
  clear hz9
  refine J_iload_n dX2_freeBus_26 rfl rfl ?_
  refine wB_w14 hb k (by omega) rfl dX2_freeBus_27 ?_
  refine J_aload_n dX2_freeBus_28 rfl rfl ?_
  refine J_bipush (v := -6) dX2_freeBus_29 (by decide) ?_
  refine pB_onBus (by first | assumption | exact isB1 | exact isB18) wf_X2_27 dX2_freeBus_31 ?_
  refine J_aload_n dX2_freeBus_34 rfl rfl ?_
  refine J_iconst (v := 0) dX2_freeBus_35 (by decide) ?_
  refine pB_ticksLeft (by first | assumption | exact isB1 | exact isB18) wf_X2_43 dX2_freeBus_36 ?_
  refine r_void dX2_freeBus_39 ?_
  exact ⟨rfl, rfl⟩

theorem hu_nat : ∀ v, v < 768 → (nI (v + 256) / 256 = 3 ↔ ¬ nI (v / 256) + 1 < 3) := by decide +kernel
theorem srF_h {s : Rw} {p : Int32} {k : Nat} (hp : ¬ p = 0) (h : ¬ nI (wv s k + 256) / 256 = 3) : srF s p k = upd (upd (upd s (95 + k) (nI (wv s k + 256))) 299 (s 299 + 1)) 296 (s 2) := by unfold srF; rw [if_neg hp, if_neg h]
theorem srF_l {s : Rw} {p : Int32} {k : Nat} (hp : ¬ p = 0) (h : nI (wv s k + 256) / 256 = 3) : srF s p k = lostF (upd (upd (upd s (95 + k) (nI (wv s k + 256))) 299 (s 299 + 1)) 296 (s 2)) k (wv s k + 256) := by unfold srF; rw [if_neg hp, if_pos h]
theorem srF_t {s : Rw} {k : Nat} (h : ¬ s 296 - 1 = 0) : srF s 0 k = upd s 296 (s 296 - 1) := by unfold srF; rw [if_pos rfl, if_neg h]
theorem srF_d {s : Rw} {k : Nat} (h : s 296 - 1 = 0) : srF s 0 k = upd (upd (upd (upd (upd s 296 (s 296 - 1)) (95 + k) (nI (setSt (wv s k) 2))) 300 (s 300 + 1)) (fb (wv s k % 8) 9) (s (fb (wv s k % 8) 9) + 1)) 295 (-6) := by unfold srF; rw [if_pos rfl, if_pos h]
theorem v256s {v : Nat} : (v + 256) % 8 = v % 8 ∧ (v + 256) / 8 % 8 = v / 8 % 8 ∧ (v + 256) / 64 % 4 = v / 64 % 4 ∧ (v + 256) / 256 = v / 256 + 1 := by omega
theorem setSt_p {v t : Nat} (ht : t < 4) : setSt v t % 8 = v % 8 ∧ setSt v t / 8 % 8 = v / 8 % 8 ∧ setSt v t / 64 % 4 = t ∧ setSt v t / 256 = v / 256 := by unfold setSt; omega
theorem RWd_of {B : Mem} {s : Rw} {k v : Nat} (hv : v < 1024) (h : s (95 + k) = nI v) (h1 : B 12 k = nI (v % 8)) (h2 : B 13 k = nI (v / 8 % 8)) (h3 : B 14 k = nI (v / 64 % 4)) (h4 : B 15 k = nI (v / 256)) : RWd B s k := by
  unfold RWd
  rw [wv_of hv h]
  exact ⟨h1, h2, h3, h4⟩
theorem QL_same {B B' : Mem} {l : List Nat} (h : QL B l) (h6 : B' 11 6 = B 11 6) (h16 : B' 16 = B 16) : QL B' l := ⟨h6.trans h.1, fun j hj => by rw [h16]; exact h.2 j hj⟩
section SR
variable {B : Mem} {s : Rw} {w k : Nat} {p : Int32}
theorem rel_h (hW : RpW B s w) (hO : OkW s w) (hk : k < w) (hb : s 295 = nI k) (h768 : wv s k < 768) (hp : ¬ p = 0) (h3 : nI (wv s k / 256) + 1 < 3) : RpW (up (up (up B 15 k (nI (wv s k / 256) + 1)) 11 11 (s 299 + 1)) 11 8 (s 2)) (srF s p k) w := by
  have hw := hO.1
  rw [srF_h hp (fun g => (hu_nat _ h768).1 g h3)]
  obtain ⟨g1, g2, g3, g4, g5, g6, g7, g8⟩ := hW
  have ek : wv (upd (upd (upd s (95 + k) (nI (wv s k + 256))) 299 (s 299 + 1)) 296 (s 2)) k = wv s k + 256 := wv_of (by omega) (by rw [upd_at, if_neg (by omega), upd_at, if_neg (by omega), upd_same])
  have ej : ∀ j, j < w → j ≠ k → upd (upd (upd s (95 + k) (nI (wv s k + 256))) 299 (s 299 + 1)) 296 (s 2) (95 + j) = s (95 + j) := fun j hj hjk => by rw [upd_at, if_neg (by omega), upd_at, if_neg (by omega), upd_at, if_neg (by omega)]
  obtain ⟨a1, a2, a3, a4⟩ := g2 k hk
  obtain ⟨c1, c2, c3, c4⟩ := v256s (v := wv s k)
  refine ⟨?_, fun j hj => ?_, ?_, ?_, Or.inr ?_, ?_, ?_, ?_⟩
  · rw [up_apply, if_neg (by omega), up_apply, if_neg (by omega), up_ne (by decide)]; exact g1
  · by_cases hjk : j = k
    · subst hjk
      refine RWd_of (v := wv s j + 256) (by omega) (by rw [upd_at, if_neg (by omega), upd_at, if_neg (by omega), upd_same]) ?_ ?_ ?_ ?_
      · rw [up_ne (by decide), up_ne (by decide), up_ne (by decide), c1]; exact a1
      · rw [up_ne (by decide), up_ne (by decide), up_ne (by decide), c2]; exact a2
      · rw [up_ne (by decide), up_ne (by decide), up_ne (by decide), c3]; exact a3
      · rw [up_ne (by decide), up_ne (by decide), up_rr, if_pos rfl, c4, nI_succ]
    · exact RWd_same (g2 j hj) (ej j hj hjk) (by rw [up_ne (by decide), up_ne (by decide), up_ne (by decide)]) (by rw [up_ne (by decide), up_ne (by decide), up_ne (by decide)]) (by rw [up_ne (by decide), up_ne (by decide), up_ne (by decide)]) (by rw [up_ne (by decide), up_ne (by decide), up_rr, if_neg hjk])
  · rw [wl_k (s := s) (k := k) (by rw [ek, c3]) ej]
    exact QL_same g3 (by rw [up_apply, if_neg (by omega), up_apply, if_neg (by omega), up_ne (by decide)]) (by rw [up_ne (by decide), up_ne (by decide), up_ne (by decide)])
  · rw [up_apply, if_neg (by omega), up_apply, if_neg (by omega), up_ne (by decide), upd_at, if_neg (by decide), upd_at, if_neg (by decide), upd_at, if_neg (by omega)]; exact g4
  · rw [up_rr, if_pos rfl, upd_same]
  · rw [up_apply, if_neg (by omega), up_apply, if_neg (by omega), up_ne (by decide), upd_at, if_neg (by decide), upd_at, if_neg (by decide), upd_at, if_neg (by omega)]; exact g6
  · rw [up_apply, if_neg (by omega), up_apply, if_neg (by omega), up_ne (by decide), upd_at, if_neg (by decide), upd_at, if_neg (by decide), upd_at, if_neg (by omega)]; exact g7
  · rw [up_apply, if_neg (by omega), up_rr, if_pos rfl, upd_at, if_neg (by decide), upd_same]
theorem rel_l (hW : RpW B s w) (hO : OkW s w) (hk : k < w) (hb : s 295 = nI k) (hst : wv s k / 64 % 4 = 1) (h768 : wv s k < 768) (hp : ¬ p = 0) (h3 : ¬ nI (wv s k / 256) + 1 < 3) : RpW (up (up (up (up (up (up B 15 k (nI (wv s k / 256) + 1)) 11 11 (s 299 + 1)) 11 10 (s 301 + 1)) 14 k 3) 11 7 (-6)) 11 8 0) (srF s p k) w := by
  have hw := hO.1
  rw [srF_l hp ((hu_nat _ h768).2 h3)]
  obtain ⟨g1, g2, g3, g4, g5, g6, g7, g8⟩ := hW
  generalize ht : upd (upd (upd s (95 + k) (nI (wv s k + 256))) 299 (s 299 + 1)) 296 (s 2) = t
  have t295 : t 295 = nI k := by rw [← ht, upd_at, if_neg (by decide), upd_at, if_neg (by decide), upd_at, if_neg (by omega)]; exact hb
  have tj : ∀ j, j < 200 → j ≠ k → t (95 + j) = s (95 + j) := fun j hj hjk => by rw [← ht, upd_at, if_neg (by omega), upd_at, if_neg (by omega), upd_at, if_neg (by omega)]
  have t30 : t 300 = s 300 ∧ t 301 = s 301 ∧ t 299 = s 299 + 1 := by rw [← ht]; exact ⟨by rw [upd_at, if_neg (by decide), upd_at, if_neg (by decide), upd_at, if_neg (by omega)], by rw [upd_at, if_neg (by decide), upd_at, if_neg (by decide), upd_at, if_neg (by omega)], by rw [upd_at, if_neg (by decide), upd_same]⟩
  have lk : lostF t k (wv s k + 256) (95 + k) = nI (setSt (wv s k + 256) 3) := by rw [lostF_wd (by omega), if_pos rfl]
  have lj : ∀ j, j < w → j ≠ k → lostF t k (wv s k + 256) (95 + j) = s (95 + j) := fun j hj hjk => by rw [lostF_wd (by omega), if_neg hjk]; exact tj j (by omega) hjk
  have lo : ∀ x, 296 ≤ x → x ≠ 301 → lostF t k (wv s k + 256) x = t x := fun x h1 h2 => by unfold lostF; rw [upd_at, if_neg h2, upd_at, if_neg (by omega), upd_at, if_neg (by omega)]
  obtain ⟨a1, a2, a3, a4⟩ := g2 k hk
  obtain ⟨c1, c2, c3, c4⟩ := v256s (v := wv s k)
  obtain ⟨d1, d2, d3, d4⟩ := setSt_p (v := wv s k + 256) (show 3 < 4 by decide)
  have hlt := setSt_lt (show wv s k + 256 < 1024 by omega) (show 3 < 4 by decide)
  have ek := wv_of hlt lk
  refine ⟨?_, fun j hj => ?_, ?_, ?_, Or.inl ?_, ?_, ?_, ?_⟩
  · rw [up_apply, if_neg (by omega), up_apply, if_neg (by omega), up_ne (by decide), up_apply, if_neg (by omega), up_apply, if_neg (by omega), up_ne (by decide)]; exact g1
  · by_cases hjk : j = k
    · subst hjk
      refine RWd_of hlt lk ?_ ?_ ?_ ?_
      · rw [up_ne (by decide), up_ne (by decide), up_ne (by decide), up_ne (by decide), up_ne (by decide), up_ne (by decide), d1, c1]; exact a1
      · rw [up_ne (by decide), up_ne (by decide), up_ne (by decide), up_ne (by decide), up_ne (by decide), up_ne (by decide), d2, c2]; exact a2
      · rw [up_ne (by decide), up_ne (by decide), up_rr, if_pos rfl, d3]; rfl
      · rw [up_ne (by decide), up_ne (by decide), up_ne (by decide), up_ne (by decide), up_ne (by decide), up_rr, if_pos rfl, d4, c4, nI_succ]
    · exact RWd_same (g2 j hj) (lj j hj hjk) (by rw [up_ne (by decide), up_ne (by decide), up_ne (by decide), up_ne (by decide), up_ne (by decide), up_ne (by decide)]) (by rw [up_ne (by decide), up_ne (by decide), up_ne (by decide), up_ne (by decide), up_ne (by decide), up_ne (by decide)]) (by rw [up_ne (by decide), up_ne (by decide), up_rr, if_neg hjk, up_ne (by decide), up_ne (by decide), up_ne (by decide)]) (by rw [up_ne (by decide), up_ne (by decide), up_ne (by decide), up_ne (by decide), up_ne (by decide), up_rr, if_neg hjk])
  · rw [wl_k (s := s) (k := k) (by rw [ek, d3, hst]; decide) lj]
    exact QL_same g3 (by rw [up_apply, if_neg (by omega), up_apply, if_neg (by omega), up_ne (by decide), up_apply, if_neg (by omega), up_apply, if_neg (by omega), up_ne (by decide)]) (by rw [up_ne (by decide), up_ne (by decide), up_ne (by decide), up_ne (by decide), up_ne (by decide), up_ne (by decide)])
  · rw [up_apply, if_neg (by omega), up_rr, if_pos rfl, lostF_bus (by omega), if_pos t295]
  · rw [lostF_bus (by omega), if_pos t295]
  · rw [up_apply, if_neg (by omega), up_apply, if_neg (by omega), up_ne (by decide), up_apply, if_neg (by omega), up_apply, if_neg (by omega), up_ne (by decide), lo 300 (by decide) (by decide), t30.1]; exact g6
  · rw [up_apply, if_neg (by omega), up_apply, if_neg (by omega), up_ne (by decide), up_rr, if_pos rfl]
    unfold lostF
    rw [upd_same, t30.2.1]
  · rw [up_apply, if_neg (by omega), up_apply, if_neg (by omega), up_ne (by decide), up_apply, if_neg (by omega), up_rr, if_pos rfl, lo 299 (by decide) (by decide), t30.2.2]
end SR
set_option maxRecDepth 100000 in
set_option maxHeartbeats 4000000 in
theorem c_hurt0 {X : jX} {ad : Nat → Nat} {m B : Mem} {b : Nat} {x : Int32} (hb : isB b) (h7 : B 11 7 = -6) : Cd X yX2_hurtWordOnBus cX2_hurtWordOnBus 2 (none) 1 ad [.ref (b + 11), .int x] (SB m b B) none ((SB m b B)) := by
  refine Cm.of (own := RX2) (nm := "hurtWordOnBus") (by decide +kernel) rfl rfl rfl rfl ?_
  refine J_aload_n dX2_hurtWordOnBus_0 rfl rfl ?_
  refine J_aload_n dX2_hurtWordOnBus_1 rfl rfl ?_
  refine gB_onBus (by first | assumption | exact isB1 | exact isB18) wf_X2_27 dX2_hurtWordOnBus_2 ?_
  refine J_topi (fun z9 hz9 => ?_)
  obtain rfl : z9 = -6 := hz9.trans (by exact h7)
  clear hz9
  refine cVi wv_X2_55 (c_isWordN hb) dX2_hurtWordOnBus_5 (ob2 (by first | assumption | exact isB1 | exact isB18)) rfl rfl (kk := ?_)
  refine J_if_ne (tgt := 12) dX2_hurtWordOnBus_8 (by decide) (fun h8 => absurd rfl h8) (fun h8 => ?_)
  refine r_void dX2_hurtWordOnBus_11 ?_
  exact ⟨rfl, rfl⟩

set_option maxRecDepth 100000 in
set_option maxHeartbeats 4000000 in
theorem c_hurt1 {X : jX} {ad : Nat → Nat} {m B : Mem} {b : Nat} {s : Rw} {w : Nat} {k : Nat} {p : Int32} (hb : isB b) (hW : RpW B s w) (hw : w ≤ 200) (hO : OkW s w) (hk : k < w) (h6 : s 295 = nI k) (hst : wv s k / 64 % 4 = 1) (h768 : wv s k < 768) (hp : ¬ p = 0) : Cm X yX2_hurtWordOnBus cX2_hurtWordOnBus 2 (none) 1 ad [.ref (b + 11), .int (s 2)] (SB m b B) (fun v m9 => v = none ∧ ∃ B9, m9 = SB m b B9 ∧ RpW B9 (srF s p k) w ∧ FrW B B9) := by
  refine Cm.of (own := RX2) (nm := "hurtWordOnBus") (by decide +kernel) rfl rfl rfl rfl ?_
  have h7 : B 11 7 = nI k := hW.2.2.2.1.trans h6
  have k4 := (hW.2.1 k hk).2.2.2
  have h10 : B 11 10 = s 301 := hW.2.2.2.2.2.2.1
  have h11 : B 11 11 = s 299 := hW.2.2.2.2.2.2.2
  refine J_aload_n dX2_hurtWordOnBus_0 rfl rfl ?_
  refine J_aload_n dX2_hurtWordOnBus_1 rfl rfl ?_
  refine gB_onBus (by first | assumption | exact isB1 | exact isB18) wf_X2_27 dX2_hurtWordOnBus_2 ?_
  refine J_topi (fun z9 hz9 => ?_)
  obtain rfl : z9 = (nI k) := hz9.trans (by exact h7)
  clear hz9
  refine cVi wv_X2_55 (c_isWord hb hW.1 hk hw) dX2_hurtWordOnBus_5 (ob2 (by first | assumption | exact isB1 | exact isB18)) rfl rfl (kk := ?_)
  refine J_if_ne (tgt := 12) dX2_hurtWordOnBus_8 (by decide) (fun h8 => ?_) (fun h8 => absurd h8 (by decide))
  refine J_aload_n dX2_hurtWordOnBus_12 rfl rfl ?_
  refine gX2_hurts (by first | assumption | exact isB1 | exact isB18) wf_X2_21 dX2_hurtWordOnBus_13 ?_
  refine J_aload_n dX2_hurtWordOnBus_16 rfl rfl ?_
  refine gB_onBus (by first | assumption | exact isB1 | exact isB18) wf_X2_27 dX2_hurtWordOnBus_17 ?_
  refine J_topi (fun z9 hz9 => ?_)
  obtain rfl : z9 = (nI k) := hz9.trans (by exact h7)
  clear hz9
  refine J_dup2 dX2_hurtWordOnBus_20 rfl rfl ?_
  refine rB_w15 hb k (by omega) rfl dX2_hurtWordOnBus_21 ?_
  refine J_topi (fun z9 hz9 => ?_)
  obtain rfl : z9 = (nI (wv s k / 256)) := hz9.trans (by exact k4)
  clear hz9
  refine J_iconst (v := 1) dX2_hurtWordOnBus_22 (by decide) ?_
  refine J_iadd dX2_hurtWordOnBus_23 ?_
  refine wB_w15 hb k (by omega) rfl dX2_hurtWordOnBus_24 ?_
  refine J_aload_n dX2_hurtWordOnBus_25 rfl rfl ?_
  refine J_dup dX2_hurtWordOnBus_26 rfl ?_
  refine gB_hurtSoFar (by first | assumption | exact isB1 | exact isB18) wf_X2_52 dX2_hurtWordOnBus_27 ?_
  refine J_topi (fun z9 hz9 => ?_)
  obtain rfl : z9 = (s 299) := hz9.trans (by rw [up_ne (by decide)]; exact h11)
  clear hz9
  refine J_iconst (v := 1) dX2_hurtWordOnBus_30 (by decide) ?_
  refine J_iadd dX2_hurtWordOnBus_31 ?_
  refine pB_hurtSoFar (by first | assumption | exact isB1 | exact isB18) wf_X2_52 dX2_hurtWordOnBus_32 ?_
  refine J_aload_n dX2_hurtWordOnBus_35 rfl rfl ?_
  refine gX2_hurts (by first | assumption | exact isB1 | exact isB18) wf_X2_21 dX2_hurtWordOnBus_36 ?_
  refine J_aload_n dX2_hurtWordOnBus_39 rfl rfl ?_
  refine gB_onBus (by first | assumption | exact isB1 | exact isB18) wf_X2_27 dX2_hurtWordOnBus_40 ?_
  refine J_topi (fun z9 hz9 => ?_)
  obtain rfl : z9 = (nI k) := hz9.trans (by rw [up_rr, if_neg (by decide), up_ne (by decide)]; exact h7)
  clear hz9
  refine rB_w15 hb k (by omega) rfl dX2_hurtWordOnBus_43 ?_
  refine J_topi (fun z9 hz9 => ?_)
  obtain rfl : z9 = (nI (wv s k / 256) + 1) := hz9.trans (by rw [up_ne (by decide), up_rr, if_pos rfl])
  clear hz9
  refine J_iconst (v := 3) dX2_hurtWordOnBus_44 (by decide) ?_
  refine J_icmp_lt (tgt := 66) dX2_hurtWordOnBus_45 (by decide) (fun h45 => ?_) (fun h45 => ?_)
  · refine J_aload_n dX2_hurtWordOnBus_66 rfl rfl ?_
    refine J_iload_n dX2_hurtWordOnBus_67 rfl rfl ?_
    refine pB_ticksLeft (by first | assumption | exact isB1 | exact isB18) wf_X2_43 dX2_hurtWordOnBus_68 ?_
    refine r_void dX2_hurtWordOnBus_71 ?_
    first | exact ⟨rfl, _, rfl, rel_h hW hO hk h6 h768 hp h45, FrW.up (FrW.up (FrW.up FrW.rf (by decide)) (by decide)) (by decide)⟩ | exact ⟨rfl, _, rfl, rel_l hW hO hk h6 hst h768 hp h45, FrW.up (FrW.up (FrW.up (FrW.up (FrW.up (FrW.up FrW.rf (by decide)) (by decide)) (by decide)) (by decide)) (by decide)) (by decide)⟩
  · refine J_aload_n dX2_hurtWordOnBus_48 rfl rfl ?_
    refine J_dup dX2_hurtWordOnBus_49 rfl ?_
    refine gB_lost (by first | assumption | exact isB1 | exact isB18) wf_X2_49 dX2_hurtWordOnBus_50 ?_
    refine J_topi (fun z9 hz9 => ?_)
    obtain rfl : z9 = (s 301) := hz9.trans (by rw [up_rr, if_neg (by decide), up_ne (by decide)]; exact h10)
    clear hz9
    refine J_iconst (v := 1) dX2_hurtWordOnBus_53 (by decide) ?_
    refine J_iadd dX2_hurtWordOnBus_54 ?_
    refine pB_lost (by first | assumption | exact isB1 | exact isB18) wf_X2_49 dX2_hurtWordOnBus_55 ?_
    refine J_aload_n dX2_hurtWordOnBus_58 rfl rfl ?_
    refine J_iconst (v := 3) dX2_hurtWordOnBus_59 (by decide) ?_
    refine cVv wv_X2_67 (c_X2_freeBus (k := k) (w := w) hb (by rw [up_rr, if_neg (by decide), up_rr, if_neg (by decide), up_ne (by decide)]; exact h7) (by rw [up_rr, if_neg (by decide), up_rr, if_neg (by decide), up_ne (by decide)]; exact hW.1) hk hw) dX2_hurtWordOnBus_60 (ob2 (by first | assumption | exact isB1 | exact isB18)) rfl rfl (kk := ?_)
    refine J_goto (tgt := 71) dX2_hurtWordOnBus_63 (by decide) ?_
    refine r_void dX2_hurtWordOnBus_71 ?_
    first | exact ⟨rfl, _, rfl, rel_h hW hO hk h6 h768 hp h45, FrW.up (FrW.up (FrW.up FrW.rf (by decide)) (by decide)) (by decide)⟩ | exact ⟨rfl, _, rfl, rel_l hW hO hk h6 hst h768 hp h45, FrW.up (FrW.up (FrW.up (FrW.up (FrW.up (FrW.up FrW.rf (by decide)) (by decide)) (by decide)) (by decide)) (by decide)) (by decide)⟩

