theorem up_apply (m : Mem) (c k : Nat) (v : Int32) (c' k' : Nat) : up m c k v c' k' = if c' = c ∧ k' = k then v else m c' k' := by
  unfold up upC upd
  by_cases h : c' = c
  · subst h
    by_cases h2 : k' = k <;> simp [h2]
  · simp [h]
theorem upC_apply (m : Mem) (c : Nat) (F : Nat → Int32) (c' : Nat) : upC m c F c' = if c' = c then F else m c' := rfl
theorem upC_ne {m : Mem} {c : Nat} {F : Nat → Int32} {c' : Nat} (h : c' ≠ c) : upC m c F c' = m c' := if_neg h
theorem up_ne {m : Mem} {c k : Nat} {v : Int32} {c' : Nat} (h : c' ≠ c) : up m c k v c' = m c' := if_neg h
theorem le0 {x : Int32} (h : x = 0) : x ≤ 0 := by subst h; decide
def jin (v lo hi : Int32) : Int32 := if v < lo then 0 else if hi < v then 0 else 1
theorem jin01 {v lo hi : Int32} : jin v lo hi = 0 ∨ jin v lo hi = 1 := by
  unfold jin
  split
  · exact Or.inl rfl
  · split
    · exact Or.inl rfl
    · exact Or.inr rfl
/-- a block as it is without boards, with no word: its other contents are open -/
def Fz (m : Mem) (b : Nat) : Prop := m b 3 = 0 ∧ m (b + 11) 4 = 0 ∧ m (b + 11) 6 = 0 ∧ m (b + 11) 7 = -6
/-- outside a block all is as it was -/
def Out (m m' : Mem) (b : Nat) : Prop := ∀ c, (c < b ∨ b + 17 ≤ c) → m' c = m c

set_option maxRecDepth 100000 in
set_option maxHeartbeats 4000000 in
theorem c_X5_isIn {X : jX} {ad : Nat → Nat} {mem : Mem} {v lo hi : Int32}  : Cd X yX5_isIn cX5_isIn 3 (some .boolean) 0 ad [.int v, .int lo, .int hi] mem (some (.int (jin v lo hi))) (mem) := by
  refine Cm.of (own := RX5) (nm := "isIn") (by decide +kernel) rfl rfl rfl rfl ?_
  refine J_iload_n dX5_isIn_0 rfl rfl ?_
  refine J_iload_n dX5_isIn_1 rfl rfl ?_
  refine J_icmp_lt (tgt := 14) dX5_isIn_2 (by decide) (fun h2 => ?_) (fun h2 => ?_)
  · refine J_iconst (v := 0) dX5_isIn_14 (by decide) ?_
    refine r_bool dX5_isIn_15 (by first | exact Or.inl rfl | exact Or.inr rfl | exact i01 | exact jin01) ?_
    exact ⟨by simp only [jin, *, reduceIte], rfl⟩
  · refine J_iload_n dX5_isIn_5 rfl rfl ?_
    refine J_iload_n dX5_isIn_6 rfl rfl ?_
    refine J_icmp_gt (tgt := 14) dX5_isIn_7 (by decide) (fun h7 => ?_) (fun h7 => ?_)
    · refine J_iconst (v := 0) dX5_isIn_14 (by decide) ?_
      refine r_bool dX5_isIn_15 (by first | exact Or.inl rfl | exact Or.inr rfl | exact i01 | exact jin01) ?_
      exact ⟨by simp only [jin, *, reduceIte], rfl⟩
    · refine J_iconst (v := 1) dX5_isIn_10 (by decide) ?_
      refine J_goto (tgt := 15) dX5_isIn_11 (by decide) ?_
      refine r_bool dX5_isIn_15 (by first | exact Or.inl rfl | exact Or.inr rfl | exact i01 | exact jin01) ?_
      exact ⟨by simp only [jin, *, reduceIte], rfl⟩

set_option maxRecDepth 100000 in
set_option maxHeartbeats 4000000 in
theorem c_X5_isSlot {X : jX} {ad : Nat → Nat} {mem : Mem} {v : Int32}  : Cd X yX5_isSlot cX5_isSlot 1 (some .boolean) 1 ad [.int v] mem (some (.int (jin v 0 4))) (mem) := by
  refine Cm.of (own := RX5) (nm := "isSlot") (by decide +kernel) rfl rfl rfl rfl ?_
  refine J_iload_n dX5_isSlot_0 rfl rfl ?_
  refine J_iconst (v := 0) dX5_isSlot_1 (by decide) ?_
  refine J_iconst (v := 4) dX5_isSlot_2 (by decide) ?_
  refine cSi ws_X5_146 c_X5_isIn dX5_isSlot_3 (kk := ?_)
  refine r_bool dX5_isSlot_6 (by first | exact Or.inl rfl | exact Or.inr rfl | exact i01 | exact jin01) ?_
  exact ⟨rfl, rfl⟩

theorem fm7 : ∀ k, k < 13 → nI k - nI k / 7 * 7 = nI (k % 7) ∧ 0 ≤ nI k ^^^ 7 := by decide +kernel
theorem nIin {k n : Nat} (h : k < n) (hn : n < 2147483648) : vp_in (nI k) n := vp_in_nI h (by omega)
set_option maxRecDepth 100000 in
set_option maxHeartbeats 4000000 in
theorem c_J9_floorMod_7cf53 {X : jX} {ad : Nat → Nat} {mem : Mem} {k : Nat} (hk : k < 13) : Cd X yJ9_floorMod_7cf53 cJ9_floorMod_7cf53 3 (some .int) 0 ad [.int (nI k), .int 7] mem (some (.int (nI (k % 7)))) (mem) := by
  refine Cm.of (own := RJ9) (nm := "floorMod") (by decide +kernel) rfl rfl rfl rfl ?_
  refine J_iload_n dJ9_floorMod_7cf53_0 rfl rfl ?_
  refine J_iload_n dJ9_floorMod_7cf53_1 rfl rfl ?_
  refine J_irem dJ9_floorMod_7cf53_2 (by decide) ?_
  refine J_istore_n dJ9_floorMod_7cf53_3 rfl rfl rfl ?_
  refine J_iload_n dJ9_floorMod_7cf53_4 rfl rfl ?_
  refine J_iload_n dJ9_floorMod_7cf53_5 rfl rfl ?_
  refine J_ixor dJ9_floorMod_7cf53_6 ?_
  refine J_if_ge (tgt := 18) dJ9_floorMod_7cf53_7 (by decide) (fun h7 => ?_) (fun h7 => absurd (fm7 k hk).2 h7)
  refine J_iload_n dJ9_floorMod_7cf53_18 rfl rfl ?_
  refine r_int dJ9_floorMod_7cf53_19 ?_
  exact ⟨by rw [(fm7 k hk).1], rfl⟩

set_option maxRecDepth 100000 in
set_option maxHeartbeats 4000000 in
theorem c_X3_stateAt {X : jX} {ad : Nat → Nat} {mem : Mem} {r : Int32} {k : Nat} (hk : k < 13) (hr : mem 188 1 + r = nI k) : Cd X yX3_stateAt cX3_stateAt 2 (some (.object "PlugPins$Backplane")) 1 ad [.ref 188, .int r] mem (some (.ref (35 + 17 * (k % 7)))) (mem) := by
  refine Cm.of (own := RX3) (nm := "stateAt") (by decide +kernel) rfl rfl rfl rfl ?_
  refine J_aload_n dX3_stateAt_0 rfl rfl ?_
  refine gX3_states wf_X3_13 dX3_stateAt_1 ?_
  refine J_aload_n dX3_stateAt_4 rfl rfl ?_
  refine gX3_oldest wf_X3_18 dX3_stateAt_5 ?_
  refine J_iload_n dX3_stateAt_8 rfl rfl ?_
  refine J_iadd dX3_stateAt_9 ?_
  rw [hr]
  refine J_bipush (v := 7) dX3_stateAt_10 (by decide) ?_
  refine cSi ws_X3_22 (c_J9_floorMod_7cf53 hk) dX3_stateAt_12 (kk := ?_)
  refine al_states (k := k % 7) (nI_clamp (by omega)) dX3_stateAt_15 (nIin (by omega) (by decide)) ?_
  refine r_ref dX3_stateAt_16 ?_
  exact ⟨rfl, rfl⟩

theorem isBk {k : Nat} : isB (35 + 17 * (k % 7)) := isBh (Nat.mod_lt _ (by decide))
theorem apart_of {b b2 : Nat} (h : isB b) (h2 : isB b2) (hne : b ≠ b2) {r r2 : Nat} (hr : r < 17) (hr2 : r2 < 17) : b + r ≠ b2 + r2 := by
  obtain ⟨j, h1, rfl⟩ := h
  obtain ⟨k, h3, rfl⟩ := h2
  omega
