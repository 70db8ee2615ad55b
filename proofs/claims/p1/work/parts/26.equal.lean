theorem lgc0 {x : Int64} : lg_cmp x 0 = 0 ↔ x = 0 := by
  unfold lg_cmp
  constructor
  · intro h
    split at h
    · exact absurd h (by decide)
    · split at h
      · assumption
      · exact absurd h (by decide)
  · rintro rfl
    decide
/-- the k-th of the shifted words -/
def Sh (c : Int64) (k : Nat) (r : Int64) : Prop := r.toBitVec = c.toBitVec >>> (8 * k)
theorem Sh0 (c : Int64) : Sh c 0 c := rfl
theorem Sh_next {c r : Int64} {k : Nat} (h : Sh c k r) : Sh c (k + 1) ((r.toUInt64 >>> ((8 : Int32).toInt64.toUInt64 &&& Int64.toUInt64 63)).toInt64) := by
  have e : ((8 : Int32).toInt64.toUInt64 &&& Int64.toUInt64 63) = 8 := by decide
  rw [e]
  show (r.toUInt64 >>> (8 : UInt64)).toBitVec = _
  rw [UInt64.toBitVec_shiftRight]
  show r.toBitVec >>> ((8 : BitVec 64) % 64) = _
  unfold Sh at h
  rw [h]
  rw [show ((8 : BitVec 64) % 64) = 8#64 by decide, BitVec.ushiftRight_eq', ← BitVec.shiftRight_add]
  rfl
theorem Sh_end {c r : Int64} (h : Sh c 8 r) : r = 0 := by
  unfold Sh at h
  apply Int64.toBitVec_inj.mp
  rw [h]
  apply BitVec.eq_of_toNat_eq
  rw [BitVec.toNat_ushiftRight]
  have := c.toBitVec.isLt
  rw [Nat.shiftRight_eq_div_pow, Nat.div_eq_of_lt (by omega)]
  rfl
theorem low_cd {c r : Int64} {k : Nat} (hk : k < 8) (h : Sh c k r) : r &&& 255 = (c >>> ((8 * nI k : Int32).toInt64 &&& 63)) &&& 255 := by
  apply Int64.toBitVec_inj.mp
  rw [Int64.toBitVec_and, Int64.toBitVec_and, Int64.toBitVec_shiftRight, h]
  have e : (((8 * nI k : Int32).toInt64 &&& 63).toBitVec.smod 64) = BitVec.ofNat 64 (8 * k) := (show ∀ k, k < 8 → (((8 * nI k : Int32).toInt64 &&& 63).toBitVec.smod 64) = BitVec.ofNat 64 (8 * k) by decide) k hk
  rw [e, BitVec.sshiftRight_eq']
  rw [BitVec.toNat_ofNat, Nat.mod_eq_of_lt (by omega)]
  apply BitVec.eq_of_getLsbD_eq
  intro i hi
  rw [BitVec.getLsbD_and, BitVec.getLsbD_and, BitVec.getLsbD_ushiftRight, BitVec.getLsbD_sshiftRight]
  by_cases h8 : i < 8
  · have z1 : 8 * k + i < 64 := by omega
    have z2 : ¬ (64 ≤ i) := by omega
    simp [z1, z2, hi]
  · have z : (Int64.toBitVec 255).getLsbD i = false := by
      show (BitVec.ofNat 64 255).getLsbD i = false
      rw [BitVec.getLsbD_ofNat]
      have : Nat.testBit 255 i = false := by
        apply Nat.testBit_lt_two_pow
        exact Nat.lt_of_lt_of_le (show 255 < 2 ^ 8 by decide) (Nat.pow_le_pow_right (by decide) (by omega))
      simp [this]
    rw [z, Bool.and_false, Bool.and_false]
theorem low_small (r : Int64) : (r &&& 255).toInt32 = 0 ↔ r &&& 255 = 0 := by
  constructor
  · intro h
    apply Int64.toBitVec_inj.mp
    have h1 : (r &&& 255).toInt32.toBitVec = 0 := by rw [h]; rfl
    rw [Int64.toBitVec_toInt32, BitVec.signExtend_eq_setWidth_of_le _ (by decide)] at h1
    have h2 := congrArg BitVec.toNat h1
    rw [BitVec.toNat_setWidth] at h2
    apply BitVec.eq_of_toNat_eq
    have h3 : (r &&& 255).toBitVec.toNat ≤ 255 := by
      rw [Int64.toBitVec_and, BitVec.toNat_and]
      exact Nat.and_le_right
    rw [Nat.mod_eq_of_lt (by omega)] at h2
    exact h2
  · intro h
    rw [h]
    rfl
theorem cd_low {c r : Int64} {k : Nat} (hk : k < 8) (h : Sh c k r) : cd c k = (r &&& 255).toInt32 := by
  rw [low_cd hk h]; rfl
theorem cd0 {c r : Int64} {k : Nat} (hk : k < 8) (h : Sh c k r) : cd c k = 0 ↔ r &&& 255 = 0 := by
  rw [cd_low hk h]; exact low_small r
/-- a word is 0 if its low byte is and the rest is -/
theorem Sh_zero {c r r' : Int64} {k : Nat} (h : Sh c k r) (h' : Sh c (k + 1) r') (hl : r &&& 255 = 0) : r = 0 ↔ r' = 0 := by
  have e : r'.toBitVec = r.toBitVec >>> 8 := by
    unfold Sh at h h'
    rw [h', h, ← BitVec.shiftRight_add]
    rfl
  have e2 : r'.toBitVec.toNat = r.toBitVec.toNat / 256 := by
    rw [e, BitVec.toNat_ushiftRight, Nat.shiftRight_eq_div_pow]
  have e3 : r.toBitVec.toNat % 256 = 0 := by
    have h1 := congrArg (fun x : Int64 => x.toBitVec.toNat) hl
    simp only [Int64.toBitVec_and, BitVec.toNat_and] at h1
    have h2 : r.toBitVec.toNat &&& 255 = 0 := h1
    have h3 := Nat.and_two_pow_sub_one_eq_mod r.toBitVec.toNat 8
    have h4 : r.toBitVec.toNat &&& 255 = r.toBitVec.toNat % 256 := h3
    omega
  constructor
  · rintro rfl
    apply Int64.toBitVec_inj.mp
    apply BitVec.eq_of_toNat_eq
    rw [e2]
    rfl
  · rintro rfl
    apply Int64.toBitVec_inj.mp
    apply BitVec.eq_of_toNat_eq
    have e4 : (0 : Nat) = r.toBitVec.toNat / 256 := e2
    show r.toBitVec.toNat = 0
    omega
theorem mPw : ∀ (n k : Nat) (c : Int64) (a : Nat) (o w : Int32), w ≠ 0 → mP n k c a o w = -2 := by
  intro n
  induction n with
  | zero => intro k c a o w h; simp only [mP, if_neg h]
  | succ n ih =>
    intro k c a o w h
    simp only [mP, if_neg h]
    split
    · split
      · exact ih _ _ _ _ _ (by decide)
      · exact ih _ _ _ _ _ (by decide)
    · exact ih _ _ _ _ _ (by decide)
theorem mPo : ∀ (n k : Nat) (c r : Int64) (a : Nat), k + n = 8 → Sh c k r → mP n k c a 1 0 = if r = 0 then nI a else -2 := by
  intro n
  induction n with
  | zero =>
    intro k c r a hk h
    obtain rfl : k = 8 := by omega
    simp only [mP, if_pos, if_pos (Sh_end h)]
  | succ n ih =>
    intro k c r a hk h
    have z : ¬ ((1 : Int32) = 0) := by decide
    simp only [mP, if_neg z, if_pos]
    by_cases h0 : cd c k = 0
    · rw [if_pos h0, ih (k + 1) c _ a (by omega) (Sh_next h)]
      have hz := Sh_zero h (Sh_next h) ((cd0 (by omega) h).mp h0)
      by_cases hr : r = 0
      · rw [if_pos hr, if_pos (hz.mp hr)]
      · rw [if_neg hr, if_neg (fun q => hr (hz.mpr q))]
    · rw [if_neg h0, mPw _ _ _ _ _ _ (by decide), if_neg]
      rintro rfl
      exact h0 ((cd0 (by omega) h).mpr (by decide))
theorem nI_ne8 {a : Nat} (h1 : 1 ≤ a) (h2 : a ≤ 8) : nI a ≠ 0 := (show ∀ a, a < 9 → 1 ≤ a → nI a ≠ 0 by decide) a (by omega) h1
theorem mPc : ∀ (n k : Nat) (c r : Int64), k + n = 8 → Sh c k r → (k = 0 → cd c 0 ≠ 0) → mP n k c k 0 0 = if chI n r (nI k) = 0 then -2 else chI n r (nI k) := by
  intro n
  induction n with
  | zero =>
    intro k c r hk h h0
    obtain rfl : k = 8 := by omega
    simp only [mP, chI, lgc0, if_pos (Sh_end h), if_pos]
    decide
  | succ n ih =>
    intro k c r hk h h0
    simp only [mP, chI, lgc0, if_pos]
    by_cases hc : cd c k = 0
    · have hl := (cd0 (by omega) h).mp hc
      rw [if_pos hc, if_pos hl, mPo n (k + 1) c _ k (by omega) (Sh_next h)]
      have hz := Sh_zero h (Sh_next h) hl
      have hk0 : k ≠ 0 := by rintro rfl; exact h0 rfl hc
      by_cases hr : r = 0
      · rw [if_pos (hz.mp hr), if_pos hr, if_neg (nI_ne8 (by omega) (by omega))]
      · rw [if_neg (fun q => hr (hz.mpr q)), if_neg hr, if_pos rfl]
    · have hl : ¬ (r &&& 255 = 0) := fun q => hc ((cd0 (by omega) h).mpr q)
      rw [if_neg hc, if_neg hl, cd_low (by omega) h]
      by_cases hj : jin ((r &&& 255).toInt32) 33 126 = 0
      · rw [if_pos hj, if_pos hj, mPw _ _ _ _ _ _ (by decide), if_pos rfl]
      · rw [if_neg hj, if_neg hj, ← nI_succ]
        exact ih (k + 1) c _ (by omega) (Sh_next h) (fun q => by omega)
theorem ptr_eq (c : Int64) : ptr c = ptM c := by
  unfold ptr ptM
  simp only [lgc0]
  by_cases h : c &&& 255 = 0
  · rw [if_pos h, mPw _ _ _ _ _ _ (by decide)]
    have e : chI 8 c 0 = 0 := by
      show (if lg_cmp (c &&& 255) 0 = 0 then (if lg_cmp c 0 = 0 then (0 : Int32) else 0) else _) = 0
      rw [if_pos (lgc0.mpr h)]
      split <;> rfl
    rw [if_pos e]
  · rw [if_neg h]
    exact (mPc 8 0 c c rfl (Sh0 c) (fun _ q => h ((cd0 (by decide) (Sh0 c)).mp q))).symm
theorem chg_eq (s v : Int32) : chg mem0 1 s v = chgM mem0 s v := by
  unfold chg chgM
  by_cases h : jin s 0 4 = 0
  · rw [if_pos h, if_pos h]
  · rw [if_neg h, if_neg h]
    obtain ⟨k, hk, rfl⟩ := jin_nat (n := 4) (by decide) rfl h
    have e1 := (show ∀ k, k < 5 → ([0, 1, 1, 1, 10] : List Int32).getD (nI k).toNatClampNeg 0 = lst (nI k) by decide) k (by omega)
    have e2 := (show ∀ k, k < 5 → ([1, 50, 9, 9, 300] : List Int32).getD (nI k).toNatClampNeg 0 = mst (nI k) by decide) k (by omega)
    have e3 : mem0 (1 + 1) (nI k).toNatClampNeg = mem0 196 (nI k).toNatClampNeg := (show ∀ k, k < 5 → mem0 (1 + 1) (nI k).toNatClampNeg = mem0 196 (nI k).toNatClampNeg by decide +kernel) k (by omega)
    rw [e1, e2, e3]
