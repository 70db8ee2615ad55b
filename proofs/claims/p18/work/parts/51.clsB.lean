theorem up_rr {B : Mem} {r k k' : Nat} {v : Int32} : up B r k v r k' = if k' = k then v else B r k' := by
  rw [up_apply]
  by_cases h : k' = k
  · rw [if_pos ⟨rfl, h⟩, if_pos h]
  · rw [if_neg (fun q => h q.2), if_neg h]
theorem upd_comm {s : Rw} {k l : Nat} {v x : Int32} (h : k ≠ l) : upd (upd s k v) l x = upd (upd s l x) k v := by
  funext j
  rw [upd_at, upd_at, upd_at, upd_at]
  by_cases h1 : j = l
  · rw [if_pos h1, if_neg (fun q => h (q.symm.trans h1)), if_pos h1]
  · rw [if_neg h1, if_neg h1]
theorem upd_noop {s : Rw} {k : Nat} {v : Int32} (h : v = s k) : upd s k v = s := by
  funext j
  rw [upd_at]
  split
  · next q => rw [q, h]
  · rfl
theorem upd_upd {s : Rw} {k : Nat} {v x : Int32} : upd (upd s k v) k x = upd s k x := by
  funext j
  rw [upd_at, upd_at, upd_at]
  split <;> rfl
theorem fb_ne {i k l : Nat} (h : k ≠ l) : fb i k ≠ fb i l := by unfold fb; omega
/-- a block's board shows the row's -/
def RBd (B : Mem) (s : Rw) (i : Nat) : Prop := (∀ k, k < 9 → B (3 + i) k = s (fb i k)) ∧ B (3 + i) 9 = s (fb i 10)
/-- settings and boards of a block show the row's -/
def RpB (B : Mem) (s : Rw) (n : Nat) : Prop := B 0 3 = nI n ∧ (∀ k, k < 5 → B 1 k = s k) ∧ ∀ i, i < n → RBd B s i
theorem RpB_up {B : Mem} {s : Rw} {n i k : Nat} {v : Int32} (h : RpB B s n) (hi : i < 8) (hk : k < 9) : RpB (up B (3 + i) k v) (upd s (fb i k) v) n := by
  obtain ⟨h1, h2, h3⟩ := h
  refine ⟨by rw [up_ne (by omega)]; exact h1, fun l hl => ?_, fun j hj => ⟨fun l hl => ?_, ?_⟩⟩
  · rw [up_ne (by omega), upd_at, if_neg (by unfold fb; omega)]; exact h2 l hl
  · rw [up_apply, upd_fb (by omega) (by omega)]
    by_cases q : j = i ∧ l = k
    · rw [if_pos ⟨by omega, q.2⟩, if_pos q]
    · rw [if_neg (by omega), if_neg q]; exact (h3 j hj).1 l hl
  · rw [up_apply, if_neg (by omega), upd_fb (by omega) (by decide), if_neg (by omega)]; exact (h3 j hj).2
theorem RpB_up9 {B : Mem} {s : Rw} {n i : Nat} {v : Int32} (h : RpB B s n) (hi : i < 8) : RpB (up B (3 + i) 9 v) (upd s (fb i 10) v) n := by
  obtain ⟨h1, h2, h3⟩ := h
  refine ⟨by rw [up_ne (by omega)]; exact h1, fun l hl => ?_, fun j hj => ⟨fun l hl => ?_, ?_⟩⟩
  · rw [up_ne (by omega), upd_at, if_neg (by unfold fb; omega)]; exact h2 l hl
  · rw [up_apply, if_neg (by omega), upd_fb (by decide) (by omega), if_neg (by omega)]; exact (h3 j hj).1 l hl
  · rw [up_apply, upd_fb (by decide) (by decide)]
    by_cases q : j = i
    · rw [if_pos ⟨by omega, rfl⟩, if_pos ⟨q, rfl⟩]
    · rw [if_neg (by omega), if_neg (fun z => q z.1)]; exact (h3 j hj).2
theorem RpB_row {B : Mem} {s t : Rw} {n : Nat} (h : RpB B s n) (h5 : ∀ k, k < 5 → t k = s k) (hf : ∀ i k, i < n → k < 11 → k ≠ 9 → t (fb i k) = s (fb i k)) : RpB B t n := by
  obtain ⟨h1, h2, h3⟩ := h
  exact ⟨h1, fun k hk => (h2 k hk).trans (h5 k hk).symm, fun i hi => ⟨fun k hk => ((h3 i hi).1 k hk).trans (hf i k hi (by omega) (by omega)).symm, (h3 i hi).2.trans (hf i 10 hi (by decide) (by decide)).symm⟩⟩
theorem RpB_blk {B C : Mem} {s : Rw} {n : Nat} (h : RpB B s n) (hn : n ≤ 8) (h3 : C 0 3 = B 0 3) (he : ∀ r, 1 ≤ r → r < 11 → C r = B r) : RpB C s n := by
  obtain ⟨h1, h2, h4⟩ := h
  exact ⟨h3.trans h1, fun k hk => by rw [he 1 (by decide) (by decide)]; exact h2 k hk, fun i hi => ⟨fun k hk => by rw [he _ (by omega) (by omega)]; exact (h4 i hi).1 k hk, by rw [he _ (by omega) (by omega)]; exact (h4 i hi).2⟩⟩
/-- flags and power of a board -/
def Bf (s : Rw) (i : Nat) : Prop := (∃ p, p ≤ 100 ∧ s (fb i 5) = nI p) ∧ (s (fb i 6) = 0 ∨ s (fb i 6) = 1) ∧ (s (fb i 7) = 0 ∨ (s (fb i 7) = 1 ∧ s (fb i 6) = 1))
theorem mm24 {x : Int32} : (if 0 < (if x < 24 then x else 24) then (if x < 24 then x else 24) else 0) = cl24 x := by
  unfold cl24
  by_cases h1 : x < 24
  · rw [if_pos h1, if_pos (Int32.le_of_lt h1)]
    by_cases h2 : 0 < x
    · rw [if_pos h2, if_pos (Int32.le_of_lt h2)]
    · rw [if_neg h2]
      split
      · next h3 => exact Int32.le_antisymm h3 (Int32.not_lt.mp h2)
      · rfl
  · rw [if_neg h1, if_pos (by decide)]
    by_cases h3 : x ≤ 24
    · have e : x = 24 := Int32.le_antisymm h3 (Int32.not_lt.mp h1)
      rw [if_pos h3, e]
      rfl
    · rw [if_neg h3]
set_option maxRecDepth 100000 in
set_option maxHeartbeats 4000000 in
theorem c_X1_touches {X : jX} {ad : Nat → Nat} {m B : Mem} {b i : Nat} {p : Int32} (hb : isB b) (hi : i < 8) : Cd X yX1_touches cX1_touches 2 (some .boolean) 0 ad [.ref (b + (3 + i)), .int p] (SB m b B) (some (.int (if B (3 + i) 3 < p then 0 else 1))) ((SB m b B)) := by
  refine Cm.of (own := RX1) (nm := "touches") (by decide +kernel) rfl rfl rfl rfl ?_
  refine J_aload_n dX1_touches_0 rfl rfl ?_
  refine gB_depth (by first | assumption | exact isB1 | exact isB18) (by first | assumption | omega) wf_X1_21 dX1_touches_1 ?_
  refine J_iload_n dX1_touches_4 rfl rfl ?_
  refine J_icmp_lt (tgt := 12) dX1_touches_5 (by decide) (fun h5 => ?_) (fun h5 => ?_)
  · refine J_iconst (v := 0) dX1_touches_12 (by decide) ?_
    refine r_bool dX1_touches_13 (by first | exact Or.inl rfl | exact Or.inr rfl | exact i01 | exact jin01) ?_
    exact ⟨by first | (rw [if_pos h5]; done) | (rw [if_neg h5]; done), rfl⟩
  · refine J_iconst (v := 1) dX1_touches_8 (by decide) ?_
    refine J_goto (tgt := 13) dX1_touches_9 (by decide) ?_
    refine r_bool dX1_touches_13 (by first | exact Or.inl rfl | exact Or.inr rfl | exact i01 | exact jin01) ?_
    exact ⟨by first | (rw [if_pos h5]; done) | (rw [if_neg h5]; done), rfl⟩

def hbB (z d : Int32) : Int32 := if z ≤ 0 then (if 0 ≤ z then 0 else if d < 14 then 0 else 1) else if d < 8 then 0 else if d < 14 then 1 else 0
theorem tc0 {d p : Int32} (h : (if d < p then (0 : Int32) else 1) = 0) : d < p := by
  split at h
  · assumption
  · exact absurd h (by decide)
theorem tc1 {d p : Int32} (h : ¬ (if d < p then (0 : Int32) else 1) = 0) : ¬ d < p := fun q => h (if_pos q)
theorem hb01 {z d : Int32} : hbB z d = 0 ∨ hbB z d = 1 := by
  unfold hbB
  (repeat' split) <;> first | exact Or.inl rfl | exact Or.inr rfl
set_option maxRecDepth 100000 in
set_option maxHeartbeats 4000000 in
theorem c_X1_holdsBus {X : jX} {ad : Nat → Nat} {m B : Mem} {b i : Nat}  (hb : isB b) (hi : i < 8) : Cd X yX1_holdsBus cX1_holdsBus 1 (some .boolean) 1 ad [.ref (b + (3 + i))] (SB m b B) (some (.int (hbB (B (3 + i) 4) (B (3 + i) 3)))) ((SB m b B)) := by
  refine Cm.of (own := RX1) (nm := "holdsBus") (by decide +kernel) rfl rfl rfl rfl ?_
  refine J_aload_n dX1_holdsBus_0 rfl rfl ?_
  refine gB_speed (by first | assumption | exact isB1 | exact isB18) (by first | assumption | omega) wf_X1_24 dX1_holdsBus_1 ?_
  refine J_if_le (tgt := 31) dX1_holdsBus_4 (by decide) (fun h4 => ?_) (fun h4 => ?_)
  · refine J_aload_n dX1_holdsBus_31 rfl rfl ?_
    refine gB_speed (by first | assumption | exact isB1 | exact isB18) (by first | assumption | omega) wf_X1_24 dX1_holdsBus_32 ?_
    refine J_if_ge (tgt := 51) dX1_holdsBus_35 (by decide) (fun h35 => ?_) (fun h35 => ?_)
    · refine J_iconst (v := 0) dX1_holdsBus_51 (by decide) ?_
      refine r_bool dX1_holdsBus_52 (by first | exact Or.inl rfl | exact Or.inr rfl | exact i01 | exact jin01) ?_
      exact ⟨by first | (rw [hbB, if_neg h4, if_pos (tc0 h13)]; done) | (rw [hbB, if_neg h4, if_neg (tc1 h13), if_pos (tc0 h22)]; done) | (rw [hbB, if_neg h4, if_neg (tc1 h13), if_neg (tc1 h22)]; done) | (rw [hbB, if_pos h4, if_pos h35]; done) | (rw [hbB, if_pos h4, if_neg h35, if_pos (tc0 h44)]; done) | (rw [hbB, if_pos h4, if_neg h35, if_neg (tc1 h44)]; done), rfl⟩
    · refine J_aload_n dX1_holdsBus_38 rfl rfl ?_
      refine J_bipush (v := 14) dX1_holdsBus_39 (by decide) ?_
      refine cVi wv_X1_43 (c_X1_touches hb hi) dX1_holdsBus_41 (ob1 (by first | assumption | exact isB1 | exact isB18) (by first | assumption | omega)) rfl rfl (kk := ?_)
      refine J_if_eq (tgt := 51) dX1_holdsBus_44 (by decide) (fun h44 => ?_) (fun h44 => ?_)
      · refine J_iconst (v := 0) dX1_holdsBus_51 (by decide) ?_
        refine r_bool dX1_holdsBus_52 (by first | exact Or.inl rfl | exact Or.inr rfl | exact i01 | exact jin01) ?_
        exact ⟨by first | (rw [hbB, if_neg h4, if_pos (tc0 h13)]; done) | (rw [hbB, if_neg h4, if_neg (tc1 h13), if_pos (tc0 h22)]; done) | (rw [hbB, if_neg h4, if_neg (tc1 h13), if_neg (tc1 h22)]; done) | (rw [hbB, if_pos h4, if_pos h35]; done) | (rw [hbB, if_pos h4, if_neg h35, if_pos (tc0 h44)]; done) | (rw [hbB, if_pos h4, if_neg h35, if_neg (tc1 h44)]; done), rfl⟩
      · refine J_iconst (v := 1) dX1_holdsBus_47 (by decide) ?_
        refine J_goto (tgt := 52) dX1_holdsBus_48 (by decide) ?_
        refine r_bool dX1_holdsBus_52 (by first | exact Or.inl rfl | exact Or.inr rfl | exact i01 | exact jin01) ?_
        exact ⟨by first | (rw [hbB, if_neg h4, if_pos (tc0 h13)]; done) | (rw [hbB, if_neg h4, if_neg (tc1 h13), if_pos (tc0 h22)]; done) | (rw [hbB, if_neg h4, if_neg (tc1 h13), if_neg (tc1 h22)]; done) | (rw [hbB, if_pos h4, if_pos h35]; done) | (rw [hbB, if_pos h4, if_neg h35, if_pos (tc0 h44)]; done) | (rw [hbB, if_pos h4, if_neg h35, if_neg (tc1 h44)]; done), rfl⟩
  · refine J_aload_n dX1_holdsBus_7 rfl rfl ?_
    refine J_bipush (v := 8) dX1_holdsBus_8 (by decide) ?_
    refine cVi wv_X1_43 (c_X1_touches hb hi) dX1_holdsBus_10 (ob1 (by first | assumption | exact isB1 | exact isB18) (by first | assumption | omega)) rfl rfl (kk := ?_)
    refine J_if_eq (tgt := 29) dX1_holdsBus_13 (by decide) (fun h13 => ?_) (fun h13 => ?_)
    · refine J_iconst (v := 0) dX1_holdsBus_29 (by decide) ?_
      refine r_bool dX1_holdsBus_30 (by first | exact Or.inl rfl | exact Or.inr rfl | exact i01 | exact jin01) ?_
      exact ⟨by first | (rw [hbB, if_neg h4, if_pos (tc0 h13)]; done) | (rw [hbB, if_neg h4, if_neg (tc1 h13), if_pos (tc0 h22)]; done) | (rw [hbB, if_neg h4, if_neg (tc1 h13), if_neg (tc1 h22)]; done) | (rw [hbB, if_pos h4, if_pos h35]; done) | (rw [hbB, if_pos h4, if_neg h35, if_pos (tc0 h44)]; done) | (rw [hbB, if_pos h4, if_neg h35, if_neg (tc1 h44)]; done), rfl⟩
    · refine J_aload_n dX1_holdsBus_16 rfl rfl ?_
      refine J_bipush (v := 14) dX1_holdsBus_17 (by decide) ?_
      refine cVi wv_X1_43 (c_X1_touches hb hi) dX1_holdsBus_19 (ob1 (by first | assumption | exact isB1 | exact isB18) (by first | assumption | omega)) rfl rfl (kk := ?_)
      refine J_if_ne (tgt := 29) dX1_holdsBus_22 (by decide) (fun h22 => ?_) (fun h22 => ?_)
      · refine J_iconst (v := 0) dX1_holdsBus_29 (by decide) ?_
        refine r_bool dX1_holdsBus_30 (by first | exact Or.inl rfl | exact Or.inr rfl | exact i01 | exact jin01) ?_
        exact ⟨by first | (rw [hbB, if_neg h4, if_pos (tc0 h13)]; done) | (rw [hbB, if_neg h4, if_neg (tc1 h13), if_pos (tc0 h22)]; done) | (rw [hbB, if_neg h4, if_neg (tc1 h13), if_neg (tc1 h22)]; done) | (rw [hbB, if_pos h4, if_pos h35]; done) | (rw [hbB, if_pos h4, if_neg h35, if_pos (tc0 h44)]; done) | (rw [hbB, if_pos h4, if_neg h35, if_neg (tc1 h44)]; done), rfl⟩
      · refine J_iconst (v := 1) dX1_holdsBus_25 (by decide) ?_
        refine J_goto (tgt := 30) dX1_holdsBus_26 (by decide) ?_
        refine r_bool dX1_holdsBus_30 (by first | exact Or.inl rfl | exact Or.inr rfl | exact i01 | exact jin01) ?_
        exact ⟨by first | (rw [hbB, if_neg h4, if_pos (tc0 h13)]; done) | (rw [hbB, if_neg h4, if_neg (tc1 h13), if_pos (tc0 h22)]; done) | (rw [hbB, if_neg h4, if_neg (tc1 h13), if_neg (tc1 h22)]; done) | (rw [hbB, if_pos h4, if_pos h35]; done) | (rw [hbB, if_pos h4, if_neg h35, if_pos (tc0 h44)]; done) | (rw [hbB, if_pos h4, if_neg h35, if_neg (tc1 h44)]; done), rfl⟩

theorem hb_eq {s : Rw} {k : Nat} : hbB (s (fb k 4)) (s (fb k 3)) = hd1 s k := by
  unfold hbB hd1 hdN jin
  generalize s (fb k 4) = z
  generalize s (fb k 3) = d
  by_cases h1 : z ≤ 0
  · rw [if_pos h1, if_pos h1]
  · have h2 : 0 ≤ z := Int32.le_of_lt (Int32.not_le.mp h1)
    rw [if_neg h1, if_neg h1]
    by_cases h3 : d < 8
    · rw [if_pos h3, if_pos h3, if_pos rfl, if_pos h2]
    · rw [if_neg h3, if_neg h3]
      by_cases h4 : d < 14
      · have h5 : ¬ 13 < d := by
          intro h5
          rw [Int32.lt_iff_toInt_lt] at h4 h5
          have a : (14 : Int32).toInt = 14 := rfl
          have b : (13 : Int32).toInt = 13 := rfl
          omega
        rw [if_pos h4, if_neg h5, if_neg (by decide)]
      · have h5 : 13 < d := by
          rw [Int32.lt_iff_toInt_lt] at h4 ⊢
          have a : (14 : Int32).toInt = 14 := rfl
          have b : (13 : Int32).toInt = 13 := rfl
          omega
        rw [if_neg h4, if_pos h5, if_pos rfl, if_pos h2]
set_option maxRecDepth 100000 in
set_option maxHeartbeats 4000000 in
theorem c_X1_leaveSlot {X : jX} {ad : Nat → Nat} {m B : Mem} {b i : Nat}  (hb : isB b) (hi : i < 8) : Cd X yX1_leaveSlot cX1_leaveSlot 1 (none) 0 ad [.ref (b + (3 + i))] (SB m b B) none (SB m b (up (up (up B (3 + i) 2 (-6)) (3 + i) 4 0) (3 + i) 5 0)) := by
  refine Cm.of (own := RX1) (nm := "leaveSlot") (by decide +kernel) rfl rfl rfl rfl ?_
  refine J_aload_n dX1_leaveSlot_0 rfl rfl ?_
  refine J_bipush (v := -6) dX1_leaveSlot_1 (by decide) ?_
  refine pB_slot (by first | assumption | exact isB1 | exact isB18) (by first | assumption | omega) wf_X1_18 dX1_leaveSlot_3 ?_
  refine J_aload_n dX1_leaveSlot_6 rfl rfl ?_
  refine J_iconst (v := 0) dX1_leaveSlot_7 (by decide) ?_
  refine pB_speed (by first | assumption | exact isB1 | exact isB18) (by first | assumption | omega) wf_X1_24 dX1_leaveSlot_8 ?_
  refine J_aload_n dX1_leaveSlot_11 rfl rfl ?_
  refine J_iconst (v := 0) dX1_leaveSlot_12 (by decide) ?_
  refine pB_power (by first | assumption | exact isB1 | exact isB18) (by first | assumption | omega) wf_X1_27 dX1_leaveSlot_13 ?_
  refine r_void dX1_leaveSlot_16 ?_
  exact ⟨rfl, rfl⟩

def mvC (B : Mem) (i : Nat) : Int32 := cl24 (B (3 + i) 3 + B (3 + i) 4)
def spd (z c : Int32) : Int32 := if z ≤ 0 then z else if c = 24 then 0 else z
def mvB (B : Mem) (i : Nat) : Mem := if B (3 + i) 4 ≤ 0 then (if 0 ≤ B (3 + i) 4 then up B (3 + i) 3 (mvC B i) else if mvC B i = 0 then up (up (up (up B (3 + i) 3 (mvC B i)) (3 + i) 2 (-6)) (3 + i) 4 0) (3 + i) 5 0 else up B (3 + i) 3 (mvC B i)) else if mvC B i = 24 then up (up B (3 + i) 3 (mvC B i)) (3 + i) 4 0 else up B (3 + i) 3 (mvC B i)
def mvA (d c : Int32) : Int32 := if (if c < 14 then (0 : Int32) else 1) = (if d < 14 then 0 else 1) then 0 else 1
theorem mvA_eq {d c : Int32} : mvA d c = plg d c := by
  unfold mvA plg
  by_cases h1 : d < 14
  · rw [if_pos h1, if_neg (Int32.not_le.mpr h1)]
    by_cases h2 : c < 14
    · rw [if_pos h2, if_pos rfl, if_neg (Int32.not_le.mpr h2)]
    · rw [if_neg h2, if_neg (by decide), if_pos (Int32.not_lt.mp h2)]
  · rw [if_neg h1, if_pos (Int32.not_lt.mp h1)]
    by_cases h2 : c < 14
    · rw [if_pos h2, if_neg (by decide), if_neg (Int32.not_le.mpr h2)]
    · rw [if_neg h2, if_pos rfl, if_pos (Int32.not_lt.mp h2)]
section MV
variable {m B : Mem} {b i : Nat}
theorem mv1 (h1 : B (3 + i) 4 ≤ 0) (h2 : 0 ≤ spd (B (3 + i) 4) (mvC B i)) : SB m b (up B (3 + i) 3 (mvC B i)) = SB m b (mvB B i) := by
  unfold spd at h2
  rw [if_pos h1] at h2
  unfold mvB
  rw [if_pos h1, if_pos h2]
theorem mv2 (h1 : B (3 + i) 4 ≤ 0) (h2 : ¬ 0 ≤ spd (B (3 + i) 4) (mvC B i)) (h3 : ¬ mvC B i = 0) : SB m b (up B (3 + i) 3 (mvC B i)) = SB m b (mvB B i) := by
  unfold spd at h2
  rw [if_pos h1] at h2
  unfold mvB
  rw [if_pos h1, if_neg h2, if_neg h3]
theorem mv3 (h1 : B (3 + i) 4 ≤ 0) (h2 : ¬ 0 ≤ spd (B (3 + i) 4) (mvC B i)) (h3 : mvC B i = 0) : SB m b (up (up (up (up B (3 + i) 3 (mvC B i)) (3 + i) 2 (-6)) (3 + i) 4 0) (3 + i) 5 0) = SB m b (mvB B i) := by
  unfold spd at h2
  rw [if_pos h1] at h2
  unfold mvB
  rw [if_pos h1, if_neg h2, if_pos h3]
theorem mv4 (h1 : ¬ B (3 + i) 4 ≤ 0) (h2 : mvC B i = 24) : SB m b (up (up B (3 + i) 3 (mvC B i)) (3 + i) 4 0) = SB m b (mvB B i) := by
  unfold mvB
  rw [if_neg h1, if_pos h2]
theorem mv5 (h1 : ¬ B (3 + i) 4 ≤ 0) (h2 : ¬ mvC B i = 24) : SB m b (up B (3 + i) 3 (mvC B i)) = SB m b (mvB B i) := by
  unfold mvB
  rw [if_neg h1, if_neg h2]
theorem mv6 (h1 : ¬ B (3 + i) 4 ≤ 0) (h2 : ¬ 0 ≤ spd (B (3 + i) 4) (mvC B i)) : False := by
  unfold spd at h2
  rw [if_neg h1] at h2
  split at h2
  · exact h2 (by decide)
  · exact h2 (Int32.le_of_lt (Int32.not_le.mp h1))
end MV
set_option maxRecDepth 100000 in
set_option maxHeartbeats 4000000 in
theorem c_X1_move {X : jX} {ad : Nat → Nat} {m B : Mem} {b i : Nat}  (hb : isB b) (hi : i < 8) : Cd X yX1_move cX1_move 2 (some .boolean) 1 ad [.ref (b + (3 + i))] (SB m b B) (some (.int (mvA (B (3 + i) 3) (mvC B i)))) (SB m b (mvB B i)) := by
  refine Cm.of (own := RX1) (nm := "move") (by decide +kernel) rfl rfl rfl rfl ?_
  refine J_aload_n dX1_move_0 rfl rfl ?_
  refine J_bipush (v := 14) dX1_move_1 (by decide) ?_
  refine cVi wv_X1_43 (c_X1_touches hb hi) dX1_move_3 (ob1 (by first | assumption | exact isB1 | exact isB18) (by first | assumption | omega)) rfl rfl (kk := ?_)
  refine J_istore_n dX1_move_6 rfl rfl rfl ?_
  refine J_aload_n dX1_move_7 rfl rfl ?_
  refine J_iconst (v := 0) dX1_move_8 (by decide) ?_
  refine J_bipush (v := 24) dX1_move_9 (by decide) ?_
  refine J_aload_n dX1_move_11 rfl rfl ?_
  refine gB_depth (by first | assumption | exact isB1 | exact isB18) (by first | assumption | omega) wf_X1_21 dX1_move_12 ?_
  refine J_aload_n dX1_move_15 rfl rfl ?_
  refine gB_speed (by first | assumption | exact isB1 | exact isB18) (by first | assumption | omega) wf_X1_24 dX1_move_16 ?_
  refine J_iadd dX1_move_19 ?_
  refine J_mmin wm_X1_47 wk_mins wk_math wk_minc dX1_move_20 (by decide) (by decide) (by decide) (Nat.le_of_ble_eq_true rfl) ?_
  refine J_mmax wm_X1_53 wk_maxs wk_math wk_maxc dX1_move_23 (by decide) (by decide) (by decide) (Nat.le_of_ble_eq_true rfl) ?_
  refine J_topi (fun z9 hz9 => ?_)
  obtain rfl : z9 = (mvC B i) := hz9.trans (by exact mm24)
  clear hz9
  refine pB_depth (by first | assumption | exact isB1 | exact isB18) (by first | assumption | omega) wf_X1_21 dX1_move_26 ?_
  refine J_aload_n dX1_move_29 rfl rfl ?_
  refine gB_speed (by first | assumption | exact isB1 | exact isB18) (by first | assumption | omega) wf_X1_24 dX1_move_30 ?_
  refine J_topi (fun z9 hz9 => ?_)
  obtain rfl : z9 = (B (3 + i) 4) := hz9.trans (by rw [up_rr, if_neg (by decide)])
  clear hz9
  refine J_if_le (tgt := 50) dX1_move_33 (by decide) (fun h33 => ?_) (fun h33 => ?_)
  · refine J_aload_n dX1_move_50 rfl rfl ?_
    refine gB_speed (by first | assumption | exact isB1 | exact isB18) (by first | assumption | omega) wf_X1_24 dX1_move_51 ?_
    refine J_topi (fun z9 hz9 => ?_)
    obtain rfl : z9 = (spd (B (3 + i) 4) (mvC B i)) := hz9.trans (by first | (rw [spd, if_pos h33, up_rr, if_neg (by decide)]; done) | (rw [spd, if_neg h33, if_pos h42, up_rr, if_pos rfl]; done) | (rw [spd, if_neg h33, if_neg h42, up_rr, if_neg (by decide)]; done))
    clear hz9
    refine J_if_ge (tgt := 68) dX1_move_54 (by decide) (fun h54 => ?_) (fun h54 => ?_)
    · refine J_aload_n dX1_move_68 rfl rfl ?_
      refine J_bipush (v := 14) dX1_move_69 (by decide) ?_
      refine cVi wv_X1_43 (c_X1_touches hb hi) dX1_move_71 (ob1 (by first | assumption | exact isB1 | exact isB18) (by first | assumption | omega)) rfl rfl (kk := ?_)
      refine J_topi (fun z9 hz9 => ?_)
      obtain rfl : z9 = (if mvC B i < 14 then 0 else 1) := hz9.trans (by exact congrArg (fun z : Int32 => if z < 14 then (0 : Int32) else 1) (by simp [up_rr]))
      clear hz9
      refine J_iload_n dX1_move_74 rfl rfl ?_
      refine J_icmp_eq (tgt := 82) dX1_move_75 (by decide) (fun h75 => ?_) (fun h75 => ?_)
      · refine J_iconst (v := 0) dX1_move_82 (by decide) ?_
        refine r_bool dX1_move_83 (by first | exact Or.inl rfl | exact Or.inr rfl | exact i01 | exact jin01) ?_
        refine ⟨?_, ?_⟩
        · unfold mvA; first | rw [if_pos h75] | rw [if_neg h75]
        · first | exact mv4 h33 h42 | exact mv5 h33 h42 | exact mv1 h33 h54 | exact mv3 h33 h54 h61 | exact mv2 h33 h54 h61 | exact absurd (mv6 h33 h54) id
      · refine J_iconst (v := 1) dX1_move_78 (by decide) ?_
        refine J_goto (tgt := 83) dX1_move_79 (by decide) ?_
        refine r_bool dX1_move_83 (by first | exact Or.inl rfl | exact Or.inr rfl | exact i01 | exact jin01) ?_
        refine ⟨?_, ?_⟩
        · unfold mvA; first | rw [if_pos h75] | rw [if_neg h75]
        · first | exact mv4 h33 h42 | exact mv5 h33 h42 | exact mv1 h33 h54 | exact mv3 h33 h54 h61 | exact mv2 h33 h54 h61 | exact absurd (mv6 h33 h54) id
    · refine J_aload_n dX1_move_57 rfl rfl ?_
      refine gB_depth (by first | assumption | exact isB1 | exact isB18) (by first | assumption | omega) wf_X1_21 dX1_move_58 ?_
      refine J_topi (fun z9 hz9 => ?_)
      obtain rfl : z9 = (mvC B i) := hz9.trans (by first | (rw [up_rr, if_pos rfl]; done) | (rw [up_rr, if_neg (by decide), up_rr, if_pos rfl]; done))
      clear hz9
      refine J_if_ne (tgt := 68) dX1_move_61 (by decide) (fun h61 => ?_) (fun h61 => ?_)
      · refine J_aload_n dX1_move_68 rfl rfl ?_
        refine J_bipush (v := 14) dX1_move_69 (by decide) ?_
        refine cVi wv_X1_43 (c_X1_touches hb hi) dX1_move_71 (ob1 (by first | assumption | exact isB1 | exact isB18) (by first | assumption | omega)) rfl rfl (kk := ?_)
        refine J_topi (fun z9 hz9 => ?_)
        obtain rfl : z9 = (if mvC B i < 14 then 0 else 1) := hz9.trans (by exact congrArg (fun z : Int32 => if z < 14 then (0 : Int32) else 1) (by simp [up_rr]))
        clear hz9
        refine J_iload_n dX1_move_74 rfl rfl ?_
        refine J_icmp_eq (tgt := 82) dX1_move_75 (by decide) (fun h75 => ?_) (fun h75 => ?_)
        · refine J_iconst (v := 0) dX1_move_82 (by decide) ?_
          refine r_bool dX1_move_83 (by first | exact Or.inl rfl | exact Or.inr rfl | exact i01 | exact jin01) ?_
          refine ⟨?_, ?_⟩
          · unfold mvA; first | rw [if_pos h75] | rw [if_neg h75]
          · first | exact mv4 h33 h42 | exact mv5 h33 h42 | exact mv1 h33 h54 | exact mv3 h33 h54 h61 | exact mv2 h33 h54 h61 | exact absurd (mv6 h33 h54) id
        · refine J_iconst (v := 1) dX1_move_78 (by decide) ?_
          refine J_goto (tgt := 83) dX1_move_79 (by decide) ?_
          refine r_bool dX1_move_83 (by first | exact Or.inl rfl | exact Or.inr rfl | exact i01 | exact jin01) ?_
          refine ⟨?_, ?_⟩
          · unfold mvA; first | rw [if_pos h75] | rw [if_neg h75]
          · first | exact mv4 h33 h42 | exact mv5 h33 h42 | exact mv1 h33 h54 | exact mv3 h33 h54 h61 | exact mv2 h33 h54 h61 | exact absurd (mv6 h33 h54) id
      · refine J_aload_n dX1_move_64 rfl rfl ?_
        refine cVv wv_X1_56 (c_X1_leaveSlot hb hi) dX1_move_65 (ob1 (by first | assumption | exact isB1 | exact isB18) (by first | assumption | omega)) rfl rfl (kk := ?_)
        refine J_aload_n dX1_move_68 rfl rfl ?_
        refine J_bipush (v := 14) dX1_move_69 (by decide) ?_
        refine cVi wv_X1_43 (c_X1_touches hb hi) dX1_move_71 (ob1 (by first | assumption | exact isB1 | exact isB18) (by first | assumption | omega)) rfl rfl (kk := ?_)
        refine J_topi (fun z9 hz9 => ?_)
        obtain rfl : z9 = (if mvC B i < 14 then 0 else 1) := hz9.trans (by exact congrArg (fun z : Int32 => if z < 14 then (0 : Int32) else 1) (by simp [up_rr]))
        clear hz9
        refine J_iload_n dX1_move_74 rfl rfl ?_
        refine J_icmp_eq (tgt := 82) dX1_move_75 (by decide) (fun h75 => ?_) (fun h75 => ?_)
        · refine J_iconst (v := 0) dX1_move_82 (by decide) ?_
          refine r_bool dX1_move_83 (by first | exact Or.inl rfl | exact Or.inr rfl | exact i01 | exact jin01) ?_
          refine ⟨?_, ?_⟩
          · unfold mvA; first | rw [if_pos h75] | rw [if_neg h75]
          · first | exact mv4 h33 h42 | exact mv5 h33 h42 | exact mv1 h33 h54 | exact mv3 h33 h54 h61 | exact mv2 h33 h54 h61 | exact absurd (mv6 h33 h54) id
        · refine J_iconst (v := 1) dX1_move_78 (by decide) ?_
          refine J_goto (tgt := 83) dX1_move_79 (by decide) ?_
          refine r_bool dX1_move_83 (by first | exact Or.inl rfl | exact Or.inr rfl | exact i01 | exact jin01) ?_
          refine ⟨?_, ?_⟩
          · unfold mvA; first | rw [if_pos h75] | rw [if_neg h75]
          · first | exact mv4 h33 h42 | exact mv5 h33 h42 | exact mv1 h33 h54 | exact mv3 h33 h54 h61 | exact mv2 h33 h54 h61 | exact absurd (mv6 h33 h54) id
  · refine J_aload_n dX1_move_36 rfl rfl ?_
    refine gB_depth (by first | assumption | exact isB1 | exact isB18) (by first | assumption | omega) wf_X1_21 dX1_move_37 ?_
    refine J_topi (fun z9 hz9 => ?_)
    obtain rfl : z9 = (mvC B i) := hz9.trans (by rw [up_rr, if_pos rfl])
    clear hz9
    refine J_bipush (v := 24) dX1_move_40 (by decide) ?_
    refine J_icmp_ne (tgt := 50) dX1_move_42 (by decide) (fun h42 => ?_) (fun h42 => ?_)
    · refine J_aload_n dX1_move_50 rfl rfl ?_
      refine gB_speed (by first | assumption | exact isB1 | exact isB18) (by first | assumption | omega) wf_X1_24 dX1_move_51 ?_
      refine J_topi (fun z9 hz9 => ?_)
      obtain rfl : z9 = (spd (B (3 + i) 4) (mvC B i)) := hz9.trans (by first | (rw [spd, if_pos h33, up_rr, if_neg (by decide)]; done) | (rw [spd, if_neg h33, if_pos h42, up_rr, if_pos rfl]; done) | (rw [spd, if_neg h33, if_neg h42, up_rr, if_neg (by decide)]; done))
      clear hz9
      refine J_if_ge (tgt := 68) dX1_move_54 (by decide) (fun h54 => ?_) (fun h54 => ?_)
      · refine J_aload_n dX1_move_68 rfl rfl ?_
        refine J_bipush (v := 14) dX1_move_69 (by decide) ?_
        refine cVi wv_X1_43 (c_X1_touches hb hi) dX1_move_71 (ob1 (by first | assumption | exact isB1 | exact isB18) (by first | assumption | omega)) rfl rfl (kk := ?_)
        refine J_topi (fun z9 hz9 => ?_)
        obtain rfl : z9 = (if mvC B i < 14 then 0 else 1) := hz9.trans (by exact congrArg (fun z : Int32 => if z < 14 then (0 : Int32) else 1) (by simp [up_rr]))
        clear hz9
        refine J_iload_n dX1_move_74 rfl rfl ?_
        refine J_icmp_eq (tgt := 82) dX1_move_75 (by decide) (fun h75 => ?_) (fun h75 => ?_)
        · refine J_iconst (v := 0) dX1_move_82 (by decide) ?_
          refine r_bool dX1_move_83 (by first | exact Or.inl rfl | exact Or.inr rfl | exact i01 | exact jin01) ?_
          refine ⟨?_, ?_⟩
          · unfold mvA; first | rw [if_pos h75] | rw [if_neg h75]
          · first | exact mv4 h33 h42 | exact mv5 h33 h42 | exact mv1 h33 h54 | exact mv3 h33 h54 h61 | exact mv2 h33 h54 h61 | exact absurd (mv6 h33 h54) id
        · refine J_iconst (v := 1) dX1_move_78 (by decide) ?_
          refine J_goto (tgt := 83) dX1_move_79 (by decide) ?_
          refine r_bool dX1_move_83 (by first | exact Or.inl rfl | exact Or.inr rfl | exact i01 | exact jin01) ?_
          refine ⟨?_, ?_⟩
          · unfold mvA; first | rw [if_pos h75] | rw [if_neg h75]
          · first | exact mv4 h33 h42 | exact mv5 h33 h42 | exact mv1 h33 h54 | exact mv3 h33 h54 h61 | exact mv2 h33 h54 h61 | exact absurd (mv6 h33 h54) id
      · refine J_aload_n dX1_move_57 rfl rfl ?_
        refine gB_depth (by first | assumption | exact isB1 | exact isB18) (by first | assumption | omega) wf_X1_21 dX1_move_58 ?_
        refine J_topi (fun z9 hz9 => ?_)
        obtain rfl : z9 = (mvC B i) := hz9.trans (by first | (rw [up_rr, if_pos rfl]; done) | (rw [up_rr, if_neg (by decide), up_rr, if_pos rfl]; done))
        clear hz9
        refine J_if_ne (tgt := 68) dX1_move_61 (by decide) (fun h61 => ?_) (fun h61 => ?_)
        · refine J_aload_n dX1_move_68 rfl rfl ?_
          refine J_bipush (v := 14) dX1_move_69 (by decide) ?_
          refine cVi wv_X1_43 (c_X1_touches hb hi) dX1_move_71 (ob1 (by first | assumption | exact isB1 | exact isB18) (by first | assumption | omega)) rfl rfl (kk := ?_)
          refine J_topi (fun z9 hz9 => ?_)
          obtain rfl : z9 = (if mvC B i < 14 then 0 else 1) := hz9.trans (by exact congrArg (fun z : Int32 => if z < 14 then (0 : Int32) else 1) (by simp [up_rr]))
          clear hz9
          refine J_iload_n dX1_move_74 rfl rfl ?_
          refine J_icmp_eq (tgt := 82) dX1_move_75 (by decide) (fun h75 => ?_) (fun h75 => ?_)
          · refine J_iconst (v := 0) dX1_move_82 (by decide) ?_
            refine r_bool dX1_move_83 (by first | exact Or.inl rfl | exact Or.inr rfl | exact i01 | exact jin01) ?_
            refine ⟨?_, ?_⟩
            · unfold mvA; first | rw [if_pos h75] | rw [if_neg h75]
            · first | exact mv4 h33 h42 | exact mv5 h33 h42 | exact mv1 h33 h54 | exact mv3 h33 h54 h61 | exact mv2 h33 h54 h61 | exact absurd (mv6 h33 h54) id
          · refine J_iconst (v := 1) dX1_move_78 (by decide) ?_
            refine J_goto (tgt := 83) dX1_move_79 (by decide) ?_
            refine r_bool dX1_move_83 (by first | exact Or.inl rfl | exact Or.inr rfl | exact i01 | exact jin01) ?_
            refine ⟨?_, ?_⟩
            · unfold mvA; first | rw [if_pos h75] | rw [if_neg h75]
            · first | exact mv4 h33 h42 | exact mv5 h33 h42 | exact mv1 h33 h54 | exact mv3 h33 h54 h61 | exact mv2 h33 h54 h61 | exact absurd (mv6 h33 h54) id
        · refine J_aload_n dX1_move_64 rfl rfl ?_
          refine cVv wv_X1_56 (c_X1_leaveSlot hb hi) dX1_move_65 (ob1 (by first | assumption | exact isB1 | exact isB18) (by first | assumption | omega)) rfl rfl (kk := ?_)
          refine J_aload_n dX1_move_68 rfl rfl ?_
          refine J_bipush (v := 14) dX1_move_69 (by decide) ?_
          refine cVi wv_X1_43 (c_X1_touches hb hi) dX1_move_71 (ob1 (by first | assumption | exact isB1 | exact isB18) (by first | assumption | omega)) rfl rfl (kk := ?_)
          refine J_topi (fun z9 hz9 => ?_)
          obtain rfl : z9 = (if mvC B i < 14 then 0 else 1) := hz9.trans (by exact congrArg (fun z : Int32 => if z < 14 then (0 : Int32) else 1) (by simp [up_rr]))
          clear hz9
          refine J_iload_n dX1_move_74 rfl rfl ?_
          refine J_icmp_eq (tgt := 82) dX1_move_75 (by decide) (fun h75 => ?_) (fun h75 => ?_)
          · refine J_iconst (v := 0) dX1_move_82 (by decide) ?_
            refine r_bool dX1_move_83 (by first | exact Or.inl rfl | exact Or.inr rfl | exact i01 | exact jin01) ?_
            refine ⟨?_, ?_⟩
            · unfold mvA; first | rw [if_pos h75] | rw [if_neg h75]
            · first | exact mv4 h33 h42 | exact mv5 h33 h42 | exact mv1 h33 h54 | exact mv3 h33 h54 h61 | exact mv2 h33 h54 h61 | exact absurd (mv6 h33 h54) id
          · refine J_iconst (v := 1) dX1_move_78 (by decide) ?_
            refine J_goto (tgt := 83) dX1_move_79 (by decide) ?_
            refine r_bool dX1_move_83 (by first | exact Or.inl rfl | exact Or.inr rfl | exact i01 | exact jin01) ?_
            refine ⟨?_, ?_⟩
            · unfold mvA; first | rw [if_pos h75] | rw [if_neg h75]
            · first | exact mv4 h33 h42 | exact mv5 h33 h42 | exact mv1 h33 h54 | exact mv3 h33 h54 h61 | exact mv2 h33 h54 h61 | exact absurd (mv6 h33 h54) id
    · refine J_aload_n dX1_move_45 rfl rfl ?_
      refine J_iconst (v := 0) dX1_move_46 (by decide) ?_
      refine pB_speed (by first | assumption | exact isB1 | exact isB18) (by first | assumption | omega) wf_X1_24 dX1_move_47 ?_
      refine J_aload_n dX1_move_50 rfl rfl ?_
      refine gB_speed (by first | assumption | exact isB1 | exact isB18) (by first | assumption | omega) wf_X1_24 dX1_move_51 ?_
      refine J_topi (fun z9 hz9 => ?_)
      obtain rfl : z9 = (spd (B (3 + i) 4) (mvC B i)) := hz9.trans (by first | (rw [spd, if_pos h33, up_rr, if_neg (by decide)]; done) | (rw [spd, if_neg h33, if_pos h42, up_rr, if_pos rfl]; done) | (rw [spd, if_neg h33, if_neg h42, up_rr, if_neg (by decide)]; done))
      clear hz9
      refine J_if_ge (tgt := 68) dX1_move_54 (by decide) (fun h54 => ?_) (fun h54 => ?_)
      · refine J_aload_n dX1_move_68 rfl rfl ?_
        refine J_bipush (v := 14) dX1_move_69 (by decide) ?_
        refine cVi wv_X1_43 (c_X1_touches hb hi) dX1_move_71 (ob1 (by first | assumption | exact isB1 | exact isB18) (by first | assumption | omega)) rfl rfl (kk := ?_)
        refine J_topi (fun z9 hz9 => ?_)
        obtain rfl : z9 = (if mvC B i < 14 then 0 else 1) := hz9.trans (by exact congrArg (fun z : Int32 => if z < 14 then (0 : Int32) else 1) (by simp [up_rr]))
        clear hz9
        refine J_iload_n dX1_move_74 rfl rfl ?_
        refine J_icmp_eq (tgt := 82) dX1_move_75 (by decide) (fun h75 => ?_) (fun h75 => ?_)
        · refine J_iconst (v := 0) dX1_move_82 (by decide) ?_
          refine r_bool dX1_move_83 (by first | exact Or.inl rfl | exact Or.inr rfl | exact i01 | exact jin01) ?_
          refine ⟨?_, ?_⟩
          · unfold mvA; first | rw [if_pos h75] | rw [if_neg h75]
          · first | exact mv4 h33 h42 | exact mv5 h33 h42 | exact mv1 h33 h54 | exact mv3 h33 h54 h61 | exact mv2 h33 h54 h61 | exact absurd (mv6 h33 h54) id
        · refine J_iconst (v := 1) dX1_move_78 (by decide) ?_
          refine J_goto (tgt := 83) dX1_move_79 (by decide) ?_
          refine r_bool dX1_move_83 (by first | exact Or.inl rfl | exact Or.inr rfl | exact i01 | exact jin01) ?_
          refine ⟨?_, ?_⟩
          · unfold mvA; first | rw [if_pos h75] | rw [if_neg h75]
          · first | exact mv4 h33 h42 | exact mv5 h33 h42 | exact mv1 h33 h54 | exact mv3 h33 h54 h61 | exact mv2 h33 h54 h61 | exact absurd (mv6 h33 h54) id
      · refine J_aload_n dX1_move_57 rfl rfl ?_
        refine gB_depth (by first | assumption | exact isB1 | exact isB18) (by first | assumption | omega) wf_X1_21 dX1_move_58 ?_
        refine J_topi (fun z9 hz9 => ?_)
        obtain rfl : z9 = (mvC B i) := hz9.trans (by first | (rw [up_rr, if_pos rfl]; done) | (rw [up_rr, if_neg (by decide), up_rr, if_pos rfl]; done))
        clear hz9
        refine J_if_ne (tgt := 68) dX1_move_61 (by decide) (fun h61 => ?_) (fun h61 => ?_)
        · refine J_aload_n dX1_move_68 rfl rfl ?_
          refine J_bipush (v := 14) dX1_move_69 (by decide) ?_
          refine cVi wv_X1_43 (c_X1_touches hb hi) dX1_move_71 (ob1 (by first | assumption | exact isB1 | exact isB18) (by first | assumption | omega)) rfl rfl (kk := ?_)
          refine J_topi (fun z9 hz9 => ?_)
          obtain rfl : z9 = (if mvC B i < 14 then 0 else 1) := hz9.trans (by exact congrArg (fun z : Int32 => if z < 14 then (0 : Int32) else 1) (by simp [up_rr]))
          clear hz9
          refine J_iload_n dX1_move_74 rfl rfl ?_
          refine J_icmp_eq (tgt := 82) dX1_move_75 (by decide) (fun h75 => ?_) (fun h75 => ?_)
          · refine J_iconst (v := 0) dX1_move_82 (by decide) ?_
            refine r_bool dX1_move_83 (by first | exact Or.inl rfl | exact Or.inr rfl | exact i01 | exact jin01) ?_
            refine ⟨?_, ?_⟩
            · unfold mvA; first | rw [if_pos h75] | rw [if_neg h75]
            · first | exact mv4 h33 h42 | exact mv5 h33 h42 | exact mv1 h33 h54 | exact mv3 h33 h54 h61 | exact mv2 h33 h54 h61 | exact absurd (mv6 h33 h54) id
          · refine J_iconst (v := 1) dX1_move_78 (by decide) ?_
            refine J_goto (tgt := 83) dX1_move_79 (by decide) ?_
            refine r_bool dX1_move_83 (by first | exact Or.inl rfl | exact Or.inr rfl | exact i01 | exact jin01) ?_
            refine ⟨?_, ?_⟩
            · unfold mvA; first | rw [if_pos h75] | rw [if_neg h75]
            · first | exact mv4 h33 h42 | exact mv5 h33 h42 | exact mv1 h33 h54 | exact mv3 h33 h54 h61 | exact mv2 h33 h54 h61 | exact absurd (mv6 h33 h54) id
        · refine J_aload_n dX1_move_64 rfl rfl ?_
          refine cVv wv_X1_56 (c_X1_leaveSlot hb hi) dX1_move_65 (ob1 (by first | assumption | exact isB1 | exact isB18) (by first | assumption | omega)) rfl rfl (kk := ?_)
          refine J_aload_n dX1_move_68 rfl rfl ?_
          refine J_bipush (v := 14) dX1_move_69 (by decide) ?_
          refine cVi wv_X1_43 (c_X1_touches hb hi) dX1_move_71 (ob1 (by first | assumption | exact isB1 | exact isB18) (by first | assumption | omega)) rfl rfl (kk := ?_)
          refine J_topi (fun z9 hz9 => ?_)
          obtain rfl : z9 = (if mvC B i < 14 then 0 else 1) := hz9.trans (by exact congrArg (fun z : Int32 => if z < 14 then (0 : Int32) else 1) (by simp [up_rr]))
          clear hz9
          refine J_iload_n dX1_move_74 rfl rfl ?_
          refine J_icmp_eq (tgt := 82) dX1_move_75 (by decide) (fun h75 => ?_) (fun h75 => ?_)
          · refine J_iconst (v := 0) dX1_move_82 (by decide) ?_
            refine r_bool dX1_move_83 (by first | exact Or.inl rfl | exact Or.inr rfl | exact i01 | exact jin01) ?_
            refine ⟨?_, ?_⟩
            · unfold mvA; first | rw [if_pos h75] | rw [if_neg h75]
            · first | exact mv4 h33 h42 | exact mv5 h33 h42 | exact mv1 h33 h54 | exact mv3 h33 h54 h61 | exact mv2 h33 h54 h61 | exact absurd (mv6 h33 h54) id
          · refine J_iconst (v := 1) dX1_move_78 (by decide) ?_
            refine J_goto (tgt := 83) dX1_move_79 (by decide) ?_
            refine r_bool dX1_move_83 (by first | exact Or.inl rfl | exact Or.inr rfl | exact i01 | exact jin01) ?_
            refine ⟨?_, ?_⟩
            · unfold mvA; first | rw [if_pos h75] | rw [if_neg h75]
            · first | exact mv4 h33 h42 | exact mv5 h33 h42 | exact mv1 h33 h54 | exact mv3 h33 h54 h61 | exact mv2 h33 h54 h61 | exact absurd (mv6 h33 h54) id

