def chI : Nat → Int64 → Int32 → Int32
  | 0, r, f => if lg_cmp r 0 = 0 then f else 0
  | n + 1, r, f => if lg_cmp (r &&& 255) 0 = 0 then (if lg_cmp r 0 = 0 then f else 0) else if jin ((r &&& 255).toInt32) 33 126 = 0 then 0 else chI n ((r.toUInt64 >>> ((8 : Int32).toInt64.toUInt64 &&& Int64.toUInt64 63)).toInt64) (f + 1)
set_option maxRecDepth 100000 in
set_option maxHeartbeats 4000000 in
theorem chLoop {X : jX} {ad : Nat → Nat} {mem : Mem} {c0 : Int64} {R : Int32} : ∀ (n f : Nat) (r : Int64), f + n = 8 → R = chI n r (nI f) → Jg X RX4 cX4_charactersIn 5 (some .int) "charactersIn" 1 0 0 (QF X ad (fun v m => v = some (.int R) ∧ m = mem)) ad 0 0 5 [(0, .long c0), (2, .long r), (4, .int (nI f))] [] (WS X ad mem) := by
  intro n
  induction n with
  | zero =>
    intro f r hf hR
    obtain rfl : f = 8 := by omega
    refine J_iload dX4_charactersIn_5 rfl ?_
    refine J_bipush (v := 8) dX4_charactersIn_7 (by decide) ?_
    refine J_icmp_ge (tgt := 51) dX4_charactersIn_9 (by decide) (fun h9 => ?_) (fun h9 => absurd (nI_le1 (a := 8) (b := 8) (Nat.le_refl _) (by omega)) h9)
    refine J_lload_n dX4_charactersIn_51 rfl rfl ?_
    refine J_lconst (v := 0) dX4_charactersIn_52 (by decide) ?_
    refine J_lcmp dX4_charactersIn_53 ?_
    refine J_if_ne (tgt := 62) dX4_charactersIn_54 (by decide) (fun h54 => ?_) (fun h54 => ?_)
    · refine J_iconst (v := 0) dX4_charactersIn_62 (by decide) ?_
      refine r_int dX4_charactersIn_63 ?_
      exact ⟨by rw [hR]; simp only [chI, *, reduceIte], rfl⟩
    · refine J_iload dX4_charactersIn_57 rfl ?_
      refine J_goto (tgt := 63) dX4_charactersIn_59 (by decide) ?_
      refine r_int dX4_charactersIn_63 ?_
      exact ⟨by rw [hR]; simp only [chI, *, reduceIte], rfl⟩
  | succ n ih =>
    intro f r hf hR
    refine J_iload dX4_charactersIn_5 rfl ?_
    refine J_bipush (v := 8) dX4_charactersIn_7 (by decide) ?_
    refine J_icmp_ge (tgt := 51) dX4_charactersIn_9 (by decide) (fun h9 => absurd h9 (nI_nle1 (a := f) (b := 8) (by omega) (by omega))) (fun h9 => ?_)
    refine J_lload_n dX4_charactersIn_12 rfl rfl ?_
    refine J_ldc2 wl_X4_26 dX4_charactersIn_13 ?_
    refine J_land dX4_charactersIn_16 ?_
    refine J_lconst (v := 0) dX4_charactersIn_17 (by decide) ?_
    refine J_lcmp dX4_charactersIn_18 ?_
    refine J_if_eq (tgt := 51) dX4_charactersIn_19 (by decide) (fun h19 => ?_) (fun h19 => ?_)
    · refine J_lload_n dX4_charactersIn_51 rfl rfl ?_
      refine J_lconst (v := 0) dX4_charactersIn_52 (by decide) ?_
      refine J_lcmp dX4_charactersIn_53 ?_
      refine J_if_ne (tgt := 62) dX4_charactersIn_54 (by decide) (fun h54 => ?_) (fun h54 => ?_)
      · refine J_iconst (v := 0) dX4_charactersIn_62 (by decide) ?_
        refine r_int dX4_charactersIn_63 ?_
        exact ⟨by rw [hR]; simp only [chI, *, reduceIte], rfl⟩
      · refine J_iload dX4_charactersIn_57 rfl ?_
        refine J_goto (tgt := 63) dX4_charactersIn_59 (by decide) ?_
        refine r_int dX4_charactersIn_63 ?_
        exact ⟨by rw [hR]; simp only [chI, *, reduceIte], rfl⟩
    · refine J_lload_n dX4_charactersIn_22 rfl rfl ?_
      refine J_ldc2 wl_X4_26 dX4_charactersIn_23 ?_
      refine J_land dX4_charactersIn_26 ?_
      refine J_l2i dX4_charactersIn_27 rfl ?_
      refine J_bipush (v := 33) dX4_charactersIn_28 (by decide) ?_
      refine J_bipush (v := 126) dX4_charactersIn_30 (by decide) ?_
      refine cSNi ws_X4_28 c_X5_isIn dX4_charactersIn_32 (kk := ?_)
      refine J_if_ne (tgt := 40) dX4_charactersIn_35 (by decide) (fun h35 => ?_) (fun h35 => ?_)
      · refine J_lload_n dX4_charactersIn_40 rfl rfl ?_
        refine J_bipush (v := 8) dX4_charactersIn_41 (by decide) ?_
        refine J_lushr dX4_charactersIn_43 rfl ?_
        refine J_lstore_n dX4_charactersIn_44 rfl rfl rfl rfl ?_
        refine J_iinc (v := _ + 1) dX4_charactersIn_45 rfl rfl rfl rfl ?_
        rw [show nI f + 1 = nI (f + 1) from (nI_succ f).symm]
        refine J_goto (tgt := 5) dX4_charactersIn_48 (by decide) ?_
        exact ih (f + 1) _ (by omega) (by rw [hR]; simp only [chI, *, reduceIte]; rw [nI_succ])
      · refine J_iconst (v := 0) dX4_charactersIn_38 (by decide) ?_
        refine r_int dX4_charactersIn_39 ?_
        exact ⟨by rw [hR]; simp only [chI, *, reduceIte], rfl⟩

set_option maxRecDepth 100000 in
set_option maxHeartbeats 4000000 in
theorem c_X4_charactersIn {X : jX} {ad : Nat → Nat} {mem : Mem} {c : Int64}  : Cd X yX4_charactersIn cX4_charactersIn 5 (some .int) 1 ad [.long c] mem (some (.int (chI 8 c 0))) (mem) := by
  refine Cm.of (own := RX4) (nm := "charactersIn") (by decide +kernel) rfl rfl rfl rfl ?_
  refine J_lload_n dX4_charactersIn_0 rfl rfl ?_
  refine J_lstore_n dX4_charactersIn_1 rfl rfl rfl rfl ?_
  refine J_iconst (v := 0) dX4_charactersIn_2 (by decide) ?_
  refine J_istore dX4_charactersIn_3 rfl rfl ?_
  exact chLoop 8 0 c rfl rfl

theorem chI_le : ∀ (n f : Nat) (r : Int64), f + n ≤ 8 → ∃ k, k ≤ f + n ∧ chI n r (nI f) = nI k := by
  intro n
  induction n with
  | zero =>
    intro f r h
    unfold chI
    split
    · exact ⟨f, by omega, rfl⟩
    · exact ⟨0, by omega, rfl⟩
  | succ n ih =>
    intro f r h
    unfold chI
    split
    · split
      · exact ⟨f, by omega, rfl⟩
      · exact ⟨0, by omega, rfl⟩
    · split
      · exact ⟨0, by omega, rfl⟩
      · rw [← nI_succ]
        obtain ⟨k, hk, e⟩ := ih (f + 1) ((r.toUInt64 >>> ((8 : Int32).toInt64.toUInt64 &&& Int64.toUInt64 63)).toInt64) (by omega)
        exact ⟨k, by omega, e⟩
def ptr (c : Int64) : Int32 := if chI 8 c 0 = 0 then -2 else chI 8 c 0
theorem lgc0 {x : Int64} : lg_cmp x 0 = 0 ↔ x = 0 := by
  unfold lg_cmp
  constructor
  · intro h
    split at h
    · exact absurd h (by decide)
    · split at h
      · assumption
      · exact absurd h (by decide)
  · rintro rfl
    decide
/-- the k-th of the shifted words -/
def Sh (c : Int64) (k : Nat) (r : Int64) : Prop := r.toBitVec = c.toBitVec >>> (8 * k)
theorem Sh0 (c : Int64) : Sh c 0 c := rfl
theorem Sh_next {c r : Int64} {k : Nat} (h : Sh c k r) : Sh c (k + 1) ((r.toUInt64 >>> ((8 : Int32).toInt64.toUInt64 &&& Int64.toUInt64 63)).toInt64) := by
  have e : ((8 : Int32).toInt64.toUInt64 &&& Int64.toUInt64 63) = 8 := by decide
  rw [e]
  show (r.toUInt64 >>> (8 : UInt64)).toBitVec = _
  rw [UInt64.toBitVec_shiftRight]
  show r.toBitVec >>> ((8 : BitVec 64) % 64) = _
  unfold Sh at h
  rw [h]
  rw [show ((8 : BitVec 64) % 64) = 8#64 by decide, BitVec.ushiftRight_eq', ← BitVec.shiftRight_add]
  rfl
theorem Sh_end {c r : Int64} (h : Sh c 8 r) : r = 0 := by
  unfold Sh at h
  apply Int64.toBitVec_inj.mp
  rw [h]
  apply BitVec.eq_of_toNat_eq
  rw [BitVec.toNat_ushiftRight]
  have := c.toBitVec.isLt
  rw [Nat.shiftRight_eq_div_pow, Nat.div_eq_of_lt (by omega)]
  rfl
theorem low_cd {c r : Int64} {k : Nat} (hk : k < 8) (h : Sh c k r) : r &&& 255 = (c >>> ((8 * nI k : Int32).toInt64 &&& 63)) &&& 255 := by
  apply Int64.toBitVec_inj.mp
  rw [Int64.toBitVec_and, Int64.toBitVec_and, Int64.toBitVec_shiftRight, h]
  have e : (((8 * nI k : Int32).toInt64 &&& 63).toBitVec.smod 64) = BitVec.ofNat 64 (8 * k) := (show ∀ k, k < 8 → (((8 * nI k : Int32).toInt64 &&& 63).toBitVec.smod 64) = BitVec.ofNat 64 (8 * k) by decide) k hk
  rw [e, BitVec.sshiftRight_eq']
  rw [BitVec.toNat_ofNat, Nat.mod_eq_of_lt (by omega)]
  apply BitVec.eq_of_getLsbD_eq
  intro i hi
  rw [BitVec.getLsbD_and, BitVec.getLsbD_and, BitVec.getLsbD_ushiftRight, BitVec.getLsbD_sshiftRight]
  by_cases h8 : i < 8
  · have z1 : 8 * k + i < 64 := by omega
    have z2 : ¬ (64 ≤ i) := by omega
    simp [z1, z2, hi]
  · have z : (Int64.toBitVec 255).getLsbD i = false := by
      show (BitVec.ofNat 64 255).getLsbD i = false
      rw [BitVec.getLsbD_ofNat]
      have : Nat.testBit 255 i = false := by
        apply Nat.testBit_lt_two_pow
        exact Nat.lt_of_lt_of_le (show 255 < 2 ^ 8 by decide) (Nat.pow_le_pow_right (by decide) (by omega))
      simp [this]
    rw [z, Bool.and_false, Bool.and_false]
theorem low_small (r : Int64) : (r &&& 255).toInt32 = 0 ↔ r &&& 255 = 0 := by
  constructor
  · intro h
    apply Int64.toBitVec_inj.mp
    have h1 : (r &&& 255).toInt32.toBitVec = 0 := by rw [h]; rfl
    rw [Int64.toBitVec_toInt32, BitVec.signExtend_eq_setWidth_of_le _ (by decide)] at h1
    have h2 := congrArg BitVec.toNat h1
    rw [BitVec.toNat_setWidth] at h2
    apply BitVec.eq_of_toNat_eq
    have h3 : (r &&& 255).toBitVec.toNat ≤ 255 := by
      rw [Int64.toBitVec_and, BitVec.toNat_and]
      exact Nat.and_le_right
    rw [Nat.mod_eq_of_lt (by omega)] at h2
    exact h2
  · intro h
    rw [h]
    rfl
theorem cd_low {c r : Int64} {k : Nat} (hk : k < 8) (h : Sh c k r) : cd c k = (r &&& 255).toInt32 := by
  rw [low_cd hk h]; rfl
theorem cd0 {c r : Int64} {k : Nat} (hk : k < 8) (h : Sh c k r) : cd c k = 0 ↔ r &&& 255 = 0 := by
  rw [cd_low hk h]; exact low_small r
/-- a word is 0 if its low byte is and the rest is -/
theorem Sh_zero {c r r' : Int64} {k : Nat} (h : Sh c k r) (h' : Sh c (k + 1) r') (hl : r &&& 255 = 0) : r = 0 ↔ r' = 0 := by
  have e : r'.toBitVec = r.toBitVec >>> 8 := by
    unfold Sh at h h'
    rw [h', h, ← BitVec.shiftRight_add]
    rfl
  have e2 : r'.toBitVec.toNat = r.toBitVec.toNat / 256 := by
    rw [e, BitVec.toNat_ushiftRight, Nat.shiftRight_eq_div_pow]
  have e3 : r.toBitVec.toNat % 256 = 0 := by
    have h1 := congrArg (fun x : Int64 => x.toBitVec.toNat) hl
    simp only [Int64.toBitVec_and, BitVec.toNat_and] at h1
    have h2 : r.toBitVec.toNat &&& 255 = 0 := h1
    have h3 := Nat.and_two_pow_sub_one_eq_mod r.toBitVec.toNat 8
    have h4 : r.toBitVec.toNat &&& 255 = r.toBitVec.toNat % 256 := h3
    omega
  constructor
  · rintro rfl
    apply Int64.toBitVec_inj.mp
    apply BitVec.eq_of_toNat_eq
    rw [e2]
    rfl
  · rintro rfl
    apply Int64.toBitVec_inj.mp
    apply BitVec.eq_of_toNat_eq
    have e4 : (0 : Nat) = r.toBitVec.toNat / 256 := e2
    show r.toBitVec.toNat = 0
    omega
theorem mPw : ∀ (n k : Nat) (c : Int64) (a : Nat) (o w : Int32), w ≠ 0 → mP n k c a o w = -2 := by
  intro n
  induction n with
  | zero => intro k c a o w h; simp only [mP, if_neg h]
  | succ n ih =>
    intro k c a o w h
    simp only [mP, if_neg h]
    split
    · split
      · exact ih _ _ _ _ _ (by decide)
      · exact ih _ _ _ _ _ (by decide)
    · exact ih _ _ _ _ _ (by decide)
theorem mPo : ∀ (n k : Nat) (c r : Int64) (a : Nat), k + n = 8 → Sh c k r → mP n k c a 1 0 = if r = 0 then nI a else -2 := by
  intro n
  induction n with
  | zero =>
    intro k c r a hk h
    obtain rfl : k = 8 := by omega
    simp only [mP, if_pos, if_pos (Sh_end h)]
  | succ n ih =>
    intro k c r a hk h
    have z : ¬ ((1 : Int32) = 0) := by decide
    simp only [mP, if_neg z, if_pos]
    by_cases h0 : cd c k = 0
    · rw [if_pos h0, ih (k + 1) c _ a (by omega) (Sh_next h)]
      have hz := Sh_zero h (Sh_next h) ((cd0 (by omega) h).mp h0)
      by_cases hr : r = 0
      · rw [if_pos hr, if_pos (hz.mp hr)]
      · rw [if_neg hr, if_neg (fun q => hr (hz.mpr q))]
    · rw [if_neg h0, mPw _ _ _ _ _ _ (by decide), if_neg]
      rintro rfl
      exact h0 ((cd0 (by omega) h).mpr (by decide))
theorem nI_ne8 {a : Nat} (h1 : 1 ≤ a) (h2 : a ≤ 8) : nI a ≠ 0 := (show ∀ a, a < 9 → 1 ≤ a → nI a ≠ 0 by decide) a (by omega) h1
theorem mPc : ∀ (n k : Nat) (c r : Int64), k + n = 8 → Sh c k r → (k = 0 → cd c 0 ≠ 0) → mP n k c k 0 0 = if chI n r (nI k) = 0 then -2 else chI n r (nI k) := by
  intro n
  induction n with
  | zero =>
    intro k c r hk h h0
    obtain rfl : k = 8 := by omega
    simp only [mP, chI, lgc0, if_pos (Sh_end h), if_pos]
    decide
  | succ n ih =>
    intro k c r hk h h0
    simp only [mP, chI, lgc0, if_pos]
    by_cases hc : cd c k = 0
    · have hl := (cd0 (by omega) h).mp hc
      rw [if_pos hc, if_pos hl, mPo n (k + 1) c _ k (by omega) (Sh_next h)]
      have hz := Sh_zero h (Sh_next h) hl
      have hk0 : k ≠ 0 := by rintro rfl; exact h0 rfl hc
      by_cases hr : r = 0
      · rw [if_pos (hz.mp hr), if_pos hr, if_neg (nI_ne8 (by omega) (by omega))]
      · rw [if_neg (fun q => hr (hz.mpr q)), if_neg hr, if_pos rfl]
    · have hl : ¬ (r &&& 255 = 0) := fun q => hc ((cd0 (by omega) h).mpr q)
      rw [if_neg hc, if_neg hl, cd_low (by omega) h]
      by_cases hj : jin ((r &&& 255).toInt32) 33 126 = 0
      · rw [if_pos hj, if_pos hj, mPw _ _ _ _ _ _ (by decide), if_pos rfl]
      · rw [if_neg hj, if_neg hj, ← nI_succ]
        exact ih (k + 1) c _ (by omega) (Sh_next h) (fun q => by omega)
theorem ptr_eq (c : Int64) : ptr c = ptM c := by
  unfold ptr ptM
  simp only [lgc0]
  by_cases h : c &&& 255 = 0
  · rw [if_pos h, mPw _ _ _ _ _ _ (by decide)]
    have e : chI 8 c 0 = 0 := by
      show (if lg_cmp (c &&& 255) 0 = 0 then (if lg_cmp c 0 = 0 then (0 : Int32) else 0) else _) = 0
      rw [if_pos (lgc0.mpr h)]
      split <;> rfl
    rw [if_pos e]
  · rw [if_neg h]
    exact (mPc 8 0 c c rfl (Sh0 c) (fun _ q => h ((cd0 (by decide) (Sh0 c)).mp q))).symm
theorem ush_cd {c : Int64} {j : Nat} (hj : j < 8) : ((c.toUInt64 >>> ((8 * nI j : Int32).toInt64.toUInt64 &&& Int64.toUInt64 63)).toInt64).toInt32 &&& 255 = cd c j := by
  have hs : Sh c j ((c.toUInt64 >>> ((8 * nI j : Int32).toInt64.toUInt64 &&& Int64.toUInt64 63)).toInt64) := by
    have e : ((8 * nI j : Int32).toInt64.toUInt64 &&& Int64.toUInt64 63) = UInt64.ofNat (8 * j) := (show ∀ j, j < 8 → ((8 * nI j : Int32).toInt64.toUInt64 &&& Int64.toUInt64 63) = UInt64.ofNat (8 * j) by decide) j hj
    rw [e]
    show (c.toUInt64 >>> (UInt64.ofNat (8 * j))).toBitVec = _
    rw [UInt64.toBitVec_shiftRight]
    show c.toBitVec >>> ((UInt64.ofNat (8 * j)).toBitVec % 64) = _
    have e2 : ((UInt64.ofNat (8 * j)).toBitVec % 64) = BitVec.ofNat 64 (8 * j) := (show ∀ j, j < 8 → ((UInt64.ofNat (8 * j)).toBitVec % 64) = BitVec.ofNat 64 (8 * j) by decide) j hj
    rw [e2, BitVec.ushiftRight_eq', BitVec.toNat_ofNat, Nat.mod_eq_of_lt (by omega)]
  rw [cd_low hj hs, Int64.toInt32_and]
  rfl
/-- the pad with t signs of a written behind the place L -/
def CPw (m0 m : Mem) (P : Nat → Int32) (L : Nat) (c : Int64) (a t : Nat) : Prop := m 190 1 = nI (L + t) ∧ (∀ k, k < L + t → m 191 k = wrP P L c a t k) ∧ ∀ x, x ≠ 190 → x ≠ 191 → m x = m0 x
theorem CPw_0 {m : Mem} {P : Nat → Int32} {L a : Nat} {c : Int64} (h : CPa m P L) : CPw m m P L c a 0 := ⟨h.2.1, h.2.2, fun _ _ _ => rfl⟩
theorem CPw_succ {m0 m : Mem} {P : Nat → Int32} {L a t : Nat} {c : Int64} {v : Int32} (h : CPw m0 m P L c a t) (hv : v = cd c (a - 1 - t)) : CPw m0 (up (up m 191 (L + t) v) 190 1 (nI (L + t) + 1)) P L c a (t + 1) := by
  obtain ⟨h1, h2, h3⟩ := h
  refine ⟨by rw [up_apply, if_pos ⟨rfl, rfl⟩, ← nI_succ]; rfl, fun k hk => ?_, fun x hx hy => by rw [up_ne hx, up_ne hy]; exact h3 x hx hy⟩
  rw [up_ne (by decide), up_apply]
  show _ = upd (wrP P L c a t) (L + t) (cd c (a - 1 - t)) k
  rw [upd_at]
  by_cases e : k = L + t
  · rw [if_pos ⟨rfl, e⟩, if_pos e, hv]
  · rw [if_neg (fun g => e g.2), if_neg e]
    exact h2 k (by omega)
theorem CPw_end {m0 m : Mem} {P : Nat → Int32} {L a : Nat} {c : Int64} (h : CPw m0 m P L c a a) (hL : L + a ≤ 80) : CPa m (wrP P L c a a) (L + a) := ⟨hL, h.1, h.2.1⟩
/-- a number put on the class's pad -/
def PaFin (m : Mem) (P : Nat → Int32) (L : Nat) (c : Int64) (v : Option Value) (m9 : Mem) : Prop := (ptM c = -2 ∧ v = some (.int (-2)) ∧ m9 = m) ∨ ∃ a, a ≤ 8 ∧ ptM c = nI a ∧ ((L + a ≤ 80 ∧ v = some (.int (nI (L + a))) ∧ CPa m9 (wrP P L c a a) (L + a) ∧ ∀ x, x ≠ 190 → x ≠ 191 → m9 x = m x) ∨ (¬ L + a ≤ 80 ∧ v = some (.int (-4)) ∧ m9 = m))
set_option maxRecDepth 100000 in
set_option maxHeartbeats 4000000 in
theorem apA {X : jX} {ad : Nat → Nat} {m0 : Mem} {P : Nat → Int32} {c : Int64} {a L : Nat} (ha : L + a ≤ 80) (h8 : a ≤ 8) : ∀ (j : Nat) (m : Mem), j ≤ a → CPw m0 m P L c a (a - j) → Jg X RX4 cX4_append 5 (some .int) "append" 2 0 0 (QF X ad (fun v m9 => v = some (.int (nI (L + a))) ∧ CPw m0 m9 P L c a a)) ad 0 0 31 [(0, .ref 190), (1, .long c), (3, .int (nI a)), (4, .int (nI j - 1))] [] (WS X ad m) := by
  intro j
  induction j with
  | zero =>
    intro m hj hc
    refine J_iload dX4_append_31 rfl ?_
    refine J_if_lt (tgt := 73) dX4_append_33 (by decide) (fun h33 => ?_) (fun h33 => absurd (show nI 0 - 1 < 0 by decide) h33)
    refine J_aload_n dX4_append_73 rfl rfl ?_
    refine gX4_length wf_X4_22 dX4_append_74 ?_
    refine J_topi (fun z9 hz9 => ?_)
    obtain rfl : z9 = (nI (L + a)) := hz9.trans (by exact hc.1)
    clear hz9
    refine r_int dX4_append_77 ?_
    exact ⟨rfl, hc⟩
  | succ j ih =>
    intro m hj hc
    rw [nI_pred]
    refine J_iload dX4_append_31 rfl ?_
    refine J_if_lt (tgt := 73) dX4_append_33 (by decide) (fun h33 => absurd h33 (nI_lt0 (by omega))) (fun h33 => ?_)
    refine J_aload_n dX4_append_36 rfl rfl ?_
    refine gX4_signs wf_X4_9 dX4_append_37 ?_
    refine J_aload_n dX4_append_40 rfl rfl ?_
    refine gX4_length wf_X4_22 dX4_append_41 ?_
    refine J_topi (fun z9 hz9 => ?_)
    obtain rfl : z9 = (nI (L + (a - (j + 1)))) := hz9.trans (by exact hc.1)
    clear hz9
    refine J_lload_n dX4_append_44 rfl rfl ?_
    refine J_bipush (v := 8) dX4_append_45 (by decide) ?_
    refine J_iload dX4_append_47 rfl ?_
    refine J_imul dX4_append_49 ?_
    refine J_lushr dX4_append_50 rfl ?_
    refine J_l2i dX4_append_51 rfl ?_
    refine J_sipush (v := 255) dX4_append_52 (by decide) ?_
    refine J_iand dX4_append_55 ?_
    rw [ush_cd (c := c) (j := j) (by omega)]
    refine as_signs dX4_append_56 (nIin (k := L + (a - (j + 1))) (by omega) (by decide)) ?_
    rw [nI_cl (k := L + (a - (j + 1))) (by omega)]
    refine J_aload_n dX4_append_57 rfl rfl ?_
    refine J_dup dX4_append_58 rfl ?_
    refine gX4_length wf_X4_22 dX4_append_59 ?_
    refine J_topi (fun z9 hz9 => ?_)
    obtain rfl : z9 = (nI (L + (a - (j + 1)))) := hz9.trans (by rw [up_ne (by decide)]; exact hc.1)
    clear hz9
    refine J_iconst (v := 1) dX4_append_62 (by decide) ?_
    refine J_iadd dX4_append_63 ?_
    refine pX4_length wf_X4_22 dX4_append_64 ?_
    refine J_iinc (v := _ + (-1)) dX4_append_67 rfl rfl rfl rfl ?_
    rw [← Int32.sub_eq_add_neg]
    refine J_goto (tgt := 31) dX4_append_70 (by decide) ?_
    refine ih _ (by omega) ?_
    rw [show a - j = a - (j + 1) + 1 by omega]
    exact CPw_succ hc (by rw [show a - 1 - (a - (j + 1)) = j by omega])

set_option maxRecDepth 100000 in
set_option maxHeartbeats 4000000 in
theorem c_X4_append {X : jX} {ad : Nat → Nat} {mem : Mem} {c : Int64} {P : Nat → Int32} {L : Nat} (hP : CPa mem P L) : Cm X yX4_append cX4_append 5 (some .int) 2 ad [.ref 190, .long c] mem (PaFin mem P L c) := by
  refine Cm.of (own := RX4) (nm := "append") (by decide +kernel) rfl rfl rfl rfl ?_
  refine J_lload_n dX4_append_0 rfl rfl ?_
  refine cSi ws_X4_18 c_X4_charactersIn dX4_append_1 (kk := ?_)
  refine J_istore_n dX4_append_4 rfl rfl rfl ?_
  refine J_iload_n dX4_append_5 rfl rfl ?_
  refine J_if_ne (tgt := 12) dX4_append_6 (by decide) (fun h6 => ?_) (fun h6 => ?_)
  · refine J_aload_n dX4_append_12 rfl rfl ?_
    refine gX4_length wf_X4_22 dX4_append_13 ?_
    refine J_topi (fun z9 hz9 => ?_)
    obtain rfl : z9 = (nI L) := hz9.trans (by exact hP.2.1)
    clear hz9
    refine J_iload_n dX4_append_16 rfl rfl ?_
    refine J_iadd dX4_append_17 ?_
    refine J_bipush (v := 80) dX4_append_18 (by decide) ?_
    refine J_icmp_le (tgt := 26) dX4_append_20 (by decide) (fun h20 => ?_) (fun h20 => ?_)
    · refine J_iload_n dX4_append_26 rfl rfl ?_
      refine J_iconst (v := 1) dX4_append_27 (by decide) ?_
      refine J_isub dX4_append_28 ?_
      refine J_istore dX4_append_29 rfl rfl ?_
      obtain ⟨k, hk, e⟩ := chI_le 8 0 c (by decide)
      have e1 : chI 8 c 0 = nI k := e
      have h80 := hP.1
      rw [e1] at h20 ⊢
      have hle : L + k ≤ 80 := (le80 _ (by omega)).1 (by rw [← nI_add]; exact h20)
      exact Jg_fin (fun v m9 h => Or.inr ⟨k, by omega, by rw [← ptr_eq, ← e1]; simp only [ptr, if_neg h6], Or.inl ⟨hle, h.1, CPw_end h.2 hle, h.2.2.2⟩⟩) (apA hle (by omega) k mem (Nat.le_refl _) (by rw [Nat.sub_self]; exact CPw_0 hP))
    · refine J_bipush (v := -4) dX4_append_23 (by decide) ?_
      refine r_int dX4_append_25 ?_
      obtain ⟨k, hk, e⟩ := chI_le 8 0 c (by decide)
      have e1 : chI 8 c 0 = nI k := e
      have h80 := hP.1
      exact Or.inr ⟨k, by omega, by rw [← ptr_eq, ← e1]; simp only [ptr, if_neg h6], Or.inr ⟨fun hle => h20 (by rw [e1, nI_add]; exact (le80 _ (by omega)).2 hle), rfl, rfl⟩⟩
  · refine J_bipush (v := -2) dX4_append_9 (by decide) ?_
    refine r_int dX4_append_11 ?_
    exact Or.inl ⟨by rw [← ptr_eq]; simp only [ptr, h6, reduceIte], rfl, rfl⟩

set_option maxRecDepth 100000 in
set_option maxHeartbeats 4000000 in
theorem c_X4_clear {X : jX} {ad : Nat → Nat} {mem : Mem}   : Cd X yX4_clear cX4_clear 2 (some .int) 0 ad [.ref 190] mem (some (.int (mem 190 1))) (up mem 190 1 0) := by
  refine Cm.of (own := RX4) (nm := "clear") (by decide +kernel) rfl rfl rfl rfl ?_
  refine J_aload_n dX4_clear_0 rfl rfl ?_
  refine gX4_length wf_X4_22 dX4_clear_1 ?_
  refine J_istore_n dX4_clear_4 rfl rfl rfl ?_
  refine J_aload_n dX4_clear_5 rfl rfl ?_
  refine J_iconst (v := 0) dX4_clear_6 (by decide) ?_
  refine pX4_length wf_X4_22 dX4_clear_7 ?_
  refine J_iload_n dX4_clear_10 rfl rfl ?_
  refine r_int dX4_clear_11 ?_
  exact ⟨rfl, rfl⟩

set_option maxRecDepth 100000 in
set_option maxHeartbeats 4000000 in
theorem c_X4_startReading {X : jX} {ad : Nat → Nat} {m : Mem} {F W : Nat → Int32} {P : Nat → Int32} {L : Nat}  (h0 : L = L ∧ P = P) : Cd X yX4_startReading cX4_startReading 1 (none) 0 ad [.ref 190] (PM m F W) none (PM m (upd F 2 0) W) := by
  refine Cm.of (own := RX4) (nm := "startReading") (by decide +kernel) rfl rfl rfl rfl ?_
  refine J_aload_n dX4_startReading_0 rfl rfl ?_
  refine J_iconst (v := 0) dX4_startReading_1 (by decide) ?_
  refine pP_place wf_X4_39 dX4_startReading_2 ?_
  refine r_void dX4_startReading_5 ?_
  exact ⟨rfl, rfl⟩

set_option maxRecDepth 100000 in
set_option maxHeartbeats 4000000 in
theorem c_X4_readSeparator {X : jX} {ad : Nat → Nat} {m : Mem} {F W : Nat → Int32} {P : Nat → Int32} {L : Nat} {p : Nat × Bool} (hR : RC F L p.1) (hP : SgP m P L) (hp : p.2 = true) : Cm X yX4_readSeparator cX4_readSeparator 1 (some .boolean) 2 ad [.ref 190] (PM m F W) (fun v m9 => ∃ G, m9 = PM m G W ∧ v = some (.int (if (dS P L 59 59 p).2 = true then 1 else 0)) ∧ RC G L (dS P L 59 59 p).1 ∧ ∀ k, k ≠ 2 → G k = F k) := by
  refine Cm.of (own := RX4) (nm := "readSeparator") (by decide +kernel) rfl rfl rfl rfl ?_
  refine J_aload_n dX4_readSeparator_0 rfl rfl ?_
  refine J_bipush (v := 59) dX4_readSeparator_1 (by decide) ?_
  refine cVg wv_X4_45 (c_X4_readSign (c := 59) hR hP hp (by decide)) dX4_readSeparator_3 ob4 rfl rfl (kk := (fun v m9 hf => ?_))
  obtain ⟨G, rfl, rfl, hR, hfr⟩ := hf
  refine r_bool dX4_readSeparator_6 (by first | exact Or.inl rfl | exact Or.inr rfl | exact i01 | exact jin01) ?_
  exact ⟨G, rfl, rfl, hR, hfr⟩

/-- a text is gone through by the class -/
def FpFin (m : Mem) (L : Nat) (r : Nat × Bool) (v : Option Value) (m9 : Mem) : Prop := v = some (.int (if r.2 = true then -6 else nI r.1)) ∧ ∃ G W, m9 = PM m G W ∧ G 1 = nI L
section FPE
variable {m : Mem} {P G W : Nat → Int32} {L i j : Nat} {r : Nat × Bool}
theorem fpA (hR : RC G L (oS P L i).1) (hr : r = gS P L (j + 1) i) (h : (oS P L i).2 = false) : FpFin m L r (some (.int (nI (oS P L i).1))) (PM m G W) := by
  have e : r = oS P L i := by rw [hr]; show (if _ then _ else _) = _; rw [if_neg (by rw [h]; decide)]
  rw [e]
  exact ⟨by rw [if_neg (by rw [h]; decide)], G, W, rfl, hR.1⟩
theorem fpB (hR : RC G L (oS P L i).1) (hr : r = gS P L (j + 1) i) (h : (oS P L i).2 = true) (hl : nI (oS P L i).1 = nI L) : FpFin m L r (some (.int (-6))) (PM m G W) := by
  have h2 := hR.2.2
  have e1 : (oS P L i).1 = L := nI_ij (by omega) (by omega) hl
  have e : r = oS P L i := by rw [hr]; show (if _ then _ else _) = _; rw [if_pos h, if_neg (by omega)]
  rw [e]
  exact ⟨by rw [if_pos h], G, W, rfl, hR.1⟩
theorem fpl (hR : RC G L (oS P L i).1) (hl : ¬ nI (oS P L i).1 = nI L) : (oS P L i).1 < L := by
  have h2 := hR.2.2
  rcases Nat.lt_or_eq_of_le h2.1 with g | g
  · exact g
  · exact absurd (by rw [g]) hl
theorem fpC (hR : RC G L (dS P L 59 59 (oS P L i)).1) (hr : r = gS P L (j + 1) i) (h : (oS P L i).2 = true) (hl : (oS P L i).1 < L) (h3 : (dS P L 59 59 (oS P L i)).2 = false) : FpFin m L r (some (.int (nI (dS P L 59 59 (oS P L i)).1))) (PM m G W) := by
  have e : r = dS P L 59 59 (oS P L i) := by rw [hr]; show (if _ then _ else _) = _; rw [if_pos h, if_pos hl, if_neg (by rw [h3]; decide)]
  rw [e]
  exact ⟨by rw [if_neg (by rw [h3]; decide)], G, W, rfl, hR.1⟩
end FPE
set_option maxRecDepth 100000 in
set_option maxHeartbeats 4000000 in
theorem fpLoop {X : jX} {ad : Nat → Nat} {m : Mem} {P : Nat → Int32} {L : Nat} {r : Nat × Bool} (hP : SgP m P L) (had : ∀ k, ad (1000 + k) = jx X k) : ∀ (j i n : Nat) (F W : Nat → Int32), i ≤ L → L < i + 2 * j → n + j = 80 → r = gS P L j i → RC F L i → Jg X RX4 cX4_faultPlace 2 (some .int) "faultPlace" 6 0 0 (QF X ad (FpFin m L r)) ad 0 0 6 [(0, .ref 190), (1, .int (nI n))] [] (WS X ad (PM m F W)) := by
  intro j
  induction j with
  | zero => intro i n F W h1 h2; exact absurd h2 (by omega)
  | succ j ih =>
    intro i n F W hi hj hn hr hR
    refine J_iload_n dX4_faultPlace_6 rfl rfl ?_
    refine J_bipush (v := 80) dX4_faultPlace_7 (by decide) ?_
    refine J_icmp_ge (tgt := 56) dX4_faultPlace_9 (by decide) (fun h9 => absurd h9 (nI_nle1 (a := n) (b := 80) (by omega) (by omega))) (fun h9 => ?_)
    refine J_aload_n dX4_faultPlace_12 rfl rfl ?_
    refine cVg wv_X4_35 (c_X4_readOrder hR hP had) dX4_faultPlace_13 ob4 rfl rfl (kk := (fun v m9 hf => ?_))
    obtain ⟨rfl, G, W, rfl, hR, -⟩ := hf
    refine J_if_ne (tgt := 24) dX4_faultPlace_16 (by decide) (fun h16 => ?_) (fun h16 => ?_)
    · refine J_aload_n dX4_faultPlace_24 rfl rfl ?_
      refine gP_place wf_X4_39 dX4_faultPlace_25 ?_
      refine J_topi (fun z9 hz9 => ?_)
      obtain rfl : z9 = (nI (oS P L i).1) := hz9.trans (by exact hR.2.1)
      clear hz9
      refine J_aload_n dX4_faultPlace_28 rfl rfl ?_
      refine gP_length wf_X4_22 dX4_faultPlace_29 ?_
      refine J_topi (fun z9 hz9 => ?_)
      obtain rfl : z9 = (nI L) := hz9.trans (by exact hR.1)
      clear hz9
      refine J_icmp_ne (tgt := 38) dX4_faultPlace_32 (by decide) (fun h32 => ?_) (fun h32 => ?_)
      · have hlt := fpl hR h32
        refine J_aload_n dX4_faultPlace_38 rfl rfl ?_
        refine cVg wv_X4_42 (c_X4_readSeparator (p := oS P L i) hR hP (b1t h16)) dX4_faultPlace_39 ob4 rfl rfl (kk := (fun v m9 hf => ?_))
        obtain ⟨G, rfl, rfl, hR, hfr⟩ := hf
        refine J_if_ne (tgt := 50) dX4_faultPlace_42 (by decide) (fun h42 => ?_) (fun h42 => ?_)
        · obtain ⟨c1, c2, c3⟩ := gS_step (P := P) hi hj (b1t h16) hlt (b1t h42)
          refine J_iinc (v := _ + 1) dX4_faultPlace_50 rfl rfl rfl rfl ?_
          refine J_goto (tgt := 6) dX4_faultPlace_53 (by decide) ?_
          rw [show nI n + 1 = nI (n + 1) from (nI_succ n).symm]
          exact ih _ (n + 1) G _ c2 c3 (by omega) (hr.trans c1) hR
        · refine J_aload_n dX4_faultPlace_45 rfl rfl ?_
          refine gP_place wf_X4_39 dX4_faultPlace_46 ?_
          refine J_topi (fun z9 hz9 => ?_)
          obtain rfl : z9 = (nI (dS P L 59 59 (oS P L i)).1) := hz9.trans (by exact hR.2.1)
          clear hz9
          refine r_int dX4_faultPlace_49 ?_
          exact fpC hR hr (b1t h16) hlt (b1f h42)
      · refine J_bipush (v := -6) dX4_faultPlace_35 (by decide) ?_
        refine r_int dX4_faultPlace_37 ?_
        exact fpB hR hr (b1t h16) h32
    · refine J_aload_n dX4_faultPlace_19 rfl rfl ?_
      refine gP_place wf_X4_39 dX4_faultPlace_20 ?_
      refine J_topi (fun z9 hz9 => ?_)
      obtain rfl : z9 = (nI (oS P L i).1) := hz9.trans (by exact hR.2.1)
      clear hz9
      refine r_int dX4_faultPlace_23 ?_
      exact fpA hR hr (b1f h16)

set_option maxRecDepth 100000 in
set_option maxHeartbeats 4000000 in
theorem c_X4_faultPlace {X : jX} {ad : Nat → Nat} {m : Mem} {F W : Nat → Int32} {P : Nat → Int32} {L : Nat}  (h1 : F 1 = nI L) (hL : L ≤ 80) (hP : SgP m P L) (had : ∀ k, ad (1000 + k) = jx X k) : Cm X yX4_faultPlace cX4_faultPlace 2 (some .int) 6 ad [.ref 190] (PM m F W) (fun v m9 => v = some (.int (ftA P L)) ∧ ∃ G W, m9 = PM m G W ∧ G 1 = nI L) := by
  refine Cm.of (own := RX4) (nm := "faultPlace") (by decide +kernel) rfl rfl rfl rfl ?_
  refine J_aload_n dX4_faultPlace_0 rfl rfl ?_
  refine cVv wv_X4_32 (c_X4_startReading (P := P) (L := L) ⟨rfl, rfl⟩) dX4_faultPlace_1 ob4 rfl rfl (kk := ?_)
  refine J_iconst (v := 0) dX4_faultPlace_4 (by decide) ?_
  refine J_istore_n dX4_faultPlace_5 rfl rfl rfl ?_
  exact fpLoop hP had 80 0 0 _ W (Nat.zero_le _) (by omega) rfl rfl ⟨by rw [upd_at, if_neg (by decide)]; exact h1, rfl, Nat.zero_le _, hL⟩

