theorem w295 {w j : Nat} (hj : j < w) (hw : w ≤ 200) : 95 + j < 295 := by omega
section CY
variable {B : Mem} {s : Rw} {w k : Nat}
theorem rel_t (hW : RpW B s w) (hw : w ≤ 200) (h1 : ¬ s 296 - 1 = 0) : RpW (up B 11 8 (s 296 - 1)) (srF s 0 k) w := by
  rw [srF_t h1]
  obtain ⟨g1, g2, g3, g4, g5, g6, g7, g8⟩ := hW
  have e : ∀ j, j < w → upd s 296 (s 296 - 1) (95 + j) = s (95 + j) := fun j hj => by rw [upd_at, if_neg (by omega)]
  refine ⟨by rw [up_rr, if_neg (by decide)]; exact g1, fun j hj => RWd_same (g2 j hj) (e j hj) (by rw [up_ne (by decide)]) (by rw [up_ne (by decide)]) (by rw [up_ne (by decide)]) (by rw [up_ne (by decide)]), ?_, ?_, Or.inr ?_, ?_, ?_, ?_⟩
  · rw [wl_same e]
    exact QL_same g3 (by rw [up_rr, if_neg (by decide)]) (by rw [up_ne (by decide)])
  · rw [up_rr, if_neg (by decide), upd_at, if_neg (by decide)]; exact g4
  · rw [up_rr, if_pos rfl, upd_same]
  · rw [up_rr, if_neg (by decide), upd_at, if_neg (by decide)]; exact g6
  · rw [up_rr, if_neg (by decide), upd_at, if_neg (by decide)]; exact g7
  · rw [up_rr, if_neg (by decide), upd_at, if_neg (by decide)]; exact g8
theorem rel_d (hW : RpW B s w) (hO : OkW s w) (hk : k < w) (hb : s 295 = nI k) (hst : wv s k / 64 % 4 = 1) (h1 : s 296 - 1 = 0) : RpW (up (up (up (up (up B 11 8 (s 296 - 1)) 11 9 (s 300 + 1)) 14 k 2) 11 7 (-6)) 11 8 0) (srF s 0 k) w := by
  have hw := hO.1
  rw [srF_d h1]
  obtain ⟨g1, g2, g3, g4, g5, g6, g7, g8⟩ := hW
  generalize ht : upd (upd (upd (upd (upd s 296 (s 296 - 1)) (95 + k) (nI (setSt (wv s k) 2))) 300 (s 300 + 1)) (fb (wv s k % 8) 9) (s (fb (wv s k % 8) 9) + 1)) 295 (-6) = t
  have c : ∀ r : Rw, ∀ v x, 94 ≤ x → upd r (fb (wv s k % 8) 9) v x = r x := fun r v x hx => upd_fbx (by omega) (by decide) (by omega)
  have lk : t (95 + k) = nI (setSt (wv s k) 2) := by rw [← ht, upd_at, if_neg (by omega), c _ _ _ (by omega), upd_at, if_neg (by omega), upd_same]
  have lj : ∀ j, j < w → j ≠ k → t (95 + j) = s (95 + j) := fun j hj hjk => by rw [← ht, upd_at, if_neg (by omega), c _ _ _ (by omega), upd_at, if_neg (by omega), upd_at, if_neg (by omega), upd_at, if_neg (by omega)]
  have t295 : t 295 = -6 := by rw [← ht, upd_same]
  have t300 : t 300 = s 300 + 1 := by rw [← ht, upd_at, if_neg (by decide), c _ _ _ (by decide), upd_same]
  have tx : ∀ x, 299 ≤ x → x ≠ 300 → t x = s x := fun x h1 h2 => by rw [← ht, upd_at, if_neg (by omega), c _ _ _ (by omega), upd_at, if_neg h2, upd_at, if_neg (by omega), upd_at, if_neg (by omega)]
  obtain ⟨a1, a2, a3, a4⟩ := g2 k hk
  obtain ⟨d1, d2, d3, d4⟩ := setSt_p (v := wv s k) (show 2 < 4 by decide)
  have hlt := setSt_lt (hO.2.2 k hk).2 (show 2 < 4 by decide)
  have ek := wv_of hlt lk
  refine ⟨?_, fun j hj => ?_, ?_, ?_, Or.inl t295, ?_, ?_, ?_⟩
  · rw [up_rr, if_neg (by decide), up_rr, if_neg (by decide), up_ne (by decide), up_rr, if_neg (by decide), up_rr, if_neg (by decide)]; exact g1
  · by_cases hjk : j = k
    · subst hjk
      refine RWd_of hlt lk ?_ ?_ ?_ ?_
      · rw [up_ne (by decide), up_ne (by decide), up_ne (by decide), up_ne (by decide), up_ne (by decide), d1]; exact a1
      · rw [up_ne (by decide), up_ne (by decide), up_ne (by decide), up_ne (by decide), up_ne (by decide), d2]; exact a2
      · rw [up_ne (by decide), up_ne (by decide), up_rr, if_pos rfl, d3]; rfl
      · rw [up_ne (by decide), up_ne (by decide), up_ne (by decide), up_ne (by decide), up_ne (by decide), d4]; exact a4
    · exact RWd_same (g2 j hj) (lj j hj hjk) (by rw [up_ne (by decide), up_ne (by decide), up_ne (by decide), up_ne (by decide), up_ne (by decide)]) (by rw [up_ne (by decide), up_ne (by decide), up_ne (by decide), up_ne (by decide), up_ne (by decide)]) (by rw [up_ne (by decide), up_ne (by decide), up_rr, if_neg hjk, up_ne (by decide), up_ne (by decide)]) (by rw [up_ne (by decide), up_ne (by decide), up_ne (by decide), up_ne (by decide), up_ne (by decide)])
  · rw [wl_k (s := s) (k := k) (by rw [ek, d3, hst]; decide) lj]
    exact QL_same g3 (by rw [up_rr, if_neg (by decide), up_rr, if_neg (by decide), up_ne (by decide), up_rr, if_neg (by decide), up_rr, if_neg (by decide)]) (by rw [up_ne (by decide), up_ne (by decide), up_ne (by decide), up_ne (by decide), up_ne (by decide)])
  · rw [up_rr, if_neg (by decide), up_rr, if_pos rfl, t295]
  · rw [up_rr, if_neg (by decide), up_rr, if_neg (by decide), up_ne (by decide), up_rr, if_pos rfl, t300]
  · rw [up_rr, if_neg (by decide), up_rr, if_neg (by decide), up_ne (by decide), up_rr, if_neg (by decide), up_rr, if_neg (by decide), tx 301 (by decide) (by decide)]; exact g7
  · rw [up_rr, if_neg (by decide), up_rr, if_neg (by decide), up_ne (by decide), up_rr, if_neg (by decide), up_rr, if_neg (by decide), tx 299 (by decide) (by decide)]; exact g8
end CY
theorem tick_nat : ∀ t, t < 10 → 1 ≤ t → (0 < nI t - 1 → ¬ nI t - 1 = 0) ∧ (¬ 0 < nI t - 1 → nI t - 1 = 0) := by decide
set_option maxRecDepth 100000 in
set_option maxHeartbeats 4000000 in
theorem c_carry0 {X : jX} {ad : Nat → Nat} {m B : Mem} {b : Nat}  (hb : isB b) (h7 : B 11 7 = -6) : Cd X yX2_carryWordOnBus cX2_carryWordOnBus 1 (none) 1 ad [.ref (b + 11)] (SB m b B) none ((SB m b B)) := by
  refine Cm.of (own := RX2) (nm := "carryWordOnBus") (by decide +kernel) rfl rfl rfl rfl ?_
  refine J_aload_n dX2_carryWordOnBus_0 rfl rfl ?_
  refine J_aload_n dX2_carryWordOnBus_1 rfl rfl ?_
  refine gB_onBus (by first | assumption | exact isB1 | exact isB18) wf_X2_27 dX2_carryWordOnBus_2 ?_
  refine J_topi (fun z9 hz9 => ?_)
  obtain rfl : z9 = -6 := hz9.trans (by exact h7)
  clear hz9
  refine cVi wv_X2_55 (c_isWordN hb) dX2_carryWordOnBus_5 (ob2 (by first | assumption | exact isB1 | exact isB18)) rfl rfl (kk := ?_)
  refine J_if_ne (tgt := 12) dX2_carryWordOnBus_8 (by decide) (fun h8 => absurd rfl h8) (fun h8 => ?_)
  refine r_void dX2_carryWordOnBus_11 ?_
  exact ⟨rfl, rfl⟩

set_option maxRecDepth 100000 in
set_option maxHeartbeats 4000000 in
theorem c_carry1 {X : jX} {ad : Nat → Nat} {m B : Mem} {b : Nat} {s : Rw} {w : Nat} {k : Nat} (hb : isB b) (hW : RpW B s w) (hw : w ≤ 200) (hO : OkW s w) (hk : k < w) (h6 : s 295 = nI k) (hst : wv s k / 64 % 4 = 1) (ht : ∃ t, 1 ≤ t ∧ t ≤ 9 ∧ s 296 = nI t) : Cm X yX2_carryWordOnBus cX2_carryWordOnBus 1 (none) 1 ad [.ref (b + 11)] (SB m b B) (fun v m9 => v = none ∧ ∃ B9, m9 = SB m b B9 ∧ RpW B9 (srF s 0 k) w ∧ FrW B B9) := by
  refine Cm.of (own := RX2) (nm := "carryWordOnBus") (by decide +kernel) rfl rfl rfl rfl ?_
  have h7 : B 11 7 = nI k := hW.2.2.2.1.trans h6
  have e8v : B 11 8 = s 296 := hW.2.2.2.2.1.resolve_left (by rw [h6]; exact nI_m6 (by omega))
  have e9v : B 11 9 = s 300 := hW.2.2.2.2.2.1
  obtain ⟨t, ht1, ht2, ht3⟩ := ht
  have hn := tick_nat t (by omega) ht1
  rw [← ht3] at hn
  refine J_aload_n dX2_carryWordOnBus_0 rfl rfl ?_
  refine J_aload_n dX2_carryWordOnBus_1 rfl rfl ?_
  refine gB_onBus (by first | assumption | exact isB1 | exact isB18) wf_X2_27 dX2_carryWordOnBus_2 ?_
  refine J_topi (fun z9 hz9 => ?_)
  obtain rfl : z9 = (nI k) := hz9.trans (by exact h7)
  clear hz9
  refine cVi wv_X2_55 (c_isWord hb hW.1 hk hw) dX2_carryWordOnBus_5 (ob2 (by first | assumption | exact isB1 | exact isB18)) rfl rfl (kk := ?_)
  refine J_if_ne (tgt := 12) dX2_carryWordOnBus_8 (by decide) (fun h8 => ?_) (fun h8 => absurd h8 (by decide))
  refine J_aload_n dX2_carryWordOnBus_12 rfl rfl ?_
  refine J_dup dX2_carryWordOnBus_13 rfl ?_
  refine gB_ticksLeft (by first | assumption | exact isB1 | exact isB18) wf_X2_43 dX2_carryWordOnBus_14 ?_
  refine J_topi (fun z9 hz9 => ?_)
  obtain rfl : z9 = (s 296) := hz9.trans (by exact e8v)
  clear hz9
  refine J_iconst (v := 1) dX2_carryWordOnBus_17 (by decide) ?_
  refine J_isub dX2_carryWordOnBus_18 ?_
  refine pB_ticksLeft (by first | assumption | exact isB1 | exact isB18) wf_X2_43 dX2_carryWordOnBus_19 ?_
  refine J_aload_n dX2_carryWordOnBus_22 rfl rfl ?_
  refine gB_ticksLeft (by first | assumption | exact isB1 | exact isB18) wf_X2_43 dX2_carryWordOnBus_23 ?_
  refine J_topi (fun z9 hz9 => ?_)
  obtain rfl : z9 = (s 296 - 1) := hz9.trans (by rw [up_rr, if_pos rfl])
  clear hz9
  refine J_if_gt (tgt := 44) dX2_carryWordOnBus_26 (by decide) (fun h26 => ?_) (fun h26 => ?_)
  · refine r_void dX2_carryWordOnBus_44 ?_
    first | exact ⟨rfl, _, rfl, rel_t hW hw (hn.1 h26), FrW.up FrW.rf (by decide)⟩ | exact ⟨rfl, _, rfl, rel_d hW hO hk h6 hst (hn.2 h26), FrW.up (FrW.up (FrW.up (FrW.up (FrW.up FrW.rf (by decide)) (by decide)) (by decide)) (by decide)) (by decide)⟩
  · refine J_aload_n dX2_carryWordOnBus_29 rfl rfl ?_
    refine J_dup dX2_carryWordOnBus_30 rfl ?_
    refine gB_delivered (by first | assumption | exact isB1 | exact isB18) wf_X2_46 dX2_carryWordOnBus_31 ?_
    refine J_topi (fun z9 hz9 => ?_)
    obtain rfl : z9 = (s 300) := hz9.trans (by rw [up_rr, if_neg (by decide)]; exact e9v)
    clear hz9
    refine J_iconst (v := 1) dX2_carryWordOnBus_34 (by decide) ?_
    refine J_iadd dX2_carryWordOnBus_35 ?_
    refine pB_delivered (by first | assumption | exact isB1 | exact isB18) wf_X2_46 dX2_carryWordOnBus_36 ?_
    refine J_aload_n dX2_carryWordOnBus_39 rfl rfl ?_
    refine J_iconst (v := 2) dX2_carryWordOnBus_40 (by decide) ?_
    refine cVv wv_X2_67 (c_X2_freeBus (k := k) (w := w) hb (by rw [up_rr, if_neg (by decide), up_rr, if_neg (by decide)]; exact h7) (by rw [up_rr, if_neg (by decide), up_rr, if_neg (by decide)]; exact hW.1) hk hw) dX2_carryWordOnBus_41 (ob2 (by first | assumption | exact isB1 | exact isB18)) rfl rfl (kk := ?_)
    refine r_void dX2_carryWordOnBus_44 ?_
    first | exact ⟨rfl, _, rfl, rel_t hW hw (hn.1 h26), FrW.up FrW.rf (by decide)⟩ | exact ⟨rfl, _, rfl, rel_d hW hO hk h6 hst (hn.2 h26), FrW.up (FrW.up (FrW.up (FrW.up (FrW.up FrW.rf (by decide)) (by decide)) (by decide)) (by decide)) (by decide)⟩

set_option maxRecDepth 100000 in
set_option maxHeartbeats 4000000 in
theorem c_X2_isInSet {X : jX} {ad : Nat → Nat} {mem : Mem} {x y : Int32}  : Cd X yX2_isInSet cX2_isInSet 2 (some .boolean) 0 ad [.int x, .int y] mem (some (.int (if (y >>> (x &&& 31)) &&& 1 = 1 then 1 else 0))) (mem) := by
  refine Cm.of (own := RX2) (nm := "isInSet") (by decide +kernel) rfl rfl rfl rfl ?_
  refine J_iload_n dX2_isInSet_0 rfl rfl ?_
  refine J_iload_n dX2_isInSet_1 rfl rfl ?_
  refine J_ishr dX2_isInSet_2 ?_
  refine J_iconst (v := 1) dX2_isInSet_3 (by decide) ?_
  refine J_iand dX2_isInSet_4 ?_
  refine J_iconst (v := 1) dX2_isInSet_5 (by decide) ?_
  refine J_icmp_ne (tgt := 13) dX2_isInSet_6 (by decide) (fun h6 => ?_) (fun h6 => ?_)
  · refine J_iconst (v := 0) dX2_isInSet_13 (by decide) ?_
    refine r_bool dX2_isInSet_14 (by first | exact Or.inl rfl | exact Or.inr rfl | exact i01 | exact jin01) ?_
    exact ⟨by first | (rw [if_pos h6]; done) | (rw [if_neg h6]; done), rfl⟩
  · refine J_iconst (v := 1) dX2_isInSet_9 (by decide) ?_
    refine J_goto (tgt := 14) dX2_isInSet_10 (by decide) ?_
    refine r_bool dX2_isInSet_14 (by first | exact Or.inl rfl | exact Or.inr rfl | exact i01 | exact jin01) ?_
    exact ⟨by first | (rw [if_pos h6]; done) | (rw [if_neg h6]; done), rfl⟩

/-- a set of boards as a row's known ones -/
def KS (s : Rw) (n A : Nat) : Prop := ∀ p, p < 8 → (nI A >>> (nI p &&& 31)) &&& 1 = if p < n ∧ ¬ s (fb p 6) = 0 then 1 else 0
theorem ks_val {s : Rw} {n A p : Nat} (hK : KS s n A) (hp : p < n) (hn : n ≤ 8) (hf : s (fb p 6) = 0 ∨ s (fb p 6) = 1) : (if (nI A >>> (nI p &&& 31)) &&& 1 = 1 then (1 : Int32) else 0) = s (fb p 6) := by
  rw [hK p (by omega)]
  rcases hf with h | h
  · rw [if_neg (show ¬ (p < n ∧ ¬ s (fb p 6) = 0) from fun g => g.2 h), h]
    decide
  · rw [if_pos (show p < n ∧ ¬ s (fb p 6) = 0 from ⟨hp, by rw [h]; decide⟩), h]
    decide
theorem er_getD : ∀ (l : List Nat) (r j : Nat), (l.eraseIdx r).getD j 0 = if j < r then l.getD j 0 else l.getD (j + 1) 0 := by
  intro l r j
  rw [List.getD_eq_getElem?_getD, List.getElem?_eraseIdx]
  split
  · rw [List.getD_eq_getElem?_getD]
  · rw [List.getD_eq_getElem?_getD]
/-- of a block, the queue alone has changed -/
def FrQ (B B' : Mem) : Prop := (∀ c, c ≠ 11 → c ≠ 16 → B' c = B c) ∧ ∀ k, k ≠ 6 → B' 11 k = B 11 k
set_option maxRecDepth 100000 in
set_option maxHeartbeats 4000000 in
theorem remLoop {X : jX} {ad : Nat → Nat} {m B0 : Mem} {b r n : Nat} {l : List Nat} (hb : isB b) (hl : l.length = n + 1) (hn : n < 10) (hr : r < l.length) : ∀ (j i : Nat) (B : Mem), i + j = n → r ≤ i → B 11 6 = nI n → (∀ k, k < l.length → B 16 k = nI (if k < i then (l.eraseIdx r).getD k 0 else l.getD k 0)) → FrQ B0 B → Jg X RX2 cX2_removeFromQueue 3 (none) "removeFromQueue" 0 0 0 (QF X ad (fun v m9 => v = none ∧ ∃ B9, m9 = SB m b B9 ∧ QL B9 (l.eraseIdx r) ∧ FrQ B0 B9)) ad 0 0 12 [(0, .ref (b + 11)), (1, .int (nI r)), (2, .int (nI i))] [] (WS X ad (SB m b B)) := by
  intro j
  induction j with
  | zero =>
    intro i B hi hri h6 hq hF
    obtain rfl : i = n := by omega
    refine J_iload_n dX2_removeFromQueue_12 rfl rfl ?_
    refine J_aload_n dX2_removeFromQueue_13 rfl rfl ?_
    refine gB_queued (by first | assumption | exact isB1 | exact isB18) wf_X2_40 dX2_removeFromQueue_14 ?_
    refine J_topi (fun z9 hz9 => ?_)
    obtain rfl : z9 = (nI i) := hz9.trans (by exact h6)
    clear hz9
    refine J_icmp_ge (tgt := 40) dX2_removeFromQueue_17 (by decide) (fun h17 => ?_) (fun h17 => absurd (nI_le1 (Nat.le_refl _) (by omega)) h17)
    refine r_void dX2_removeFromQueue_40 ?_
    have hel : (l.eraseIdx r).length = i := by rw [List.length_eraseIdx, if_pos hr]; omega
    refine ⟨rfl, B, rfl, ⟨by rw [hel]; exact h6, fun k hk => ?_⟩, hF⟩
    rw [hel] at hk
    rw [hq k (by omega), if_pos hk]
  | succ j ih =>
    intro i B hi hri h6 hq hF
    refine J_iload_n dX2_removeFromQueue_12 rfl rfl ?_
    refine J_aload_n dX2_removeFromQueue_13 rfl rfl ?_
    refine gB_queued (by first | assumption | exact isB1 | exact isB18) wf_X2_40 dX2_removeFromQueue_14 ?_
    refine J_topi (fun z9 hz9 => ?_)
    obtain rfl : z9 = (nI n) := hz9.trans (by exact h6)
    clear hz9
    refine J_icmp_ge (tgt := 40) dX2_removeFromQueue_17 (by decide) (fun h17 => absurd h17 (nI_nle1 (by omega) (by omega))) (fun h17 => ?_)
    refine J_aload_n dX2_removeFromQueue_20 rfl rfl ?_
    refine gX2_queue (by first | assumption | exact isB1 | exact isB18) wf_X2_24 dX2_removeFromQueue_21 ?_
    refine J_iload_n dX2_removeFromQueue_24 rfl rfl ?_
    refine J_aload_n dX2_removeFromQueue_25 rfl rfl ?_
    refine gX2_queue (by first | assumption | exact isB1 | exact isB18) wf_X2_24 dX2_removeFromQueue_26 ?_
    refine J_iload_n dX2_removeFromQueue_29 rfl rfl ?_
    refine J_iconst (v := 1) dX2_removeFromQueue_30 (by decide) ?_
    refine J_iadd dX2_removeFromQueue_31 ?_
    refine rB_w16 hb (i + 1) (by omega) (nI_succ i).symm dX2_removeFromQueue_32 ?_
    refine J_topi (fun z9 hz9 => ?_)
    obtain rfl : z9 = (nI (l.getD (i + 1) 0)) := hz9.trans (by rw [hq (i + 1) (by omega), if_neg (by omega)])
    clear hz9
    refine wB_w16 hb i (by omega) rfl dX2_removeFromQueue_33 ?_
    refine J_iinc (v := _ + 1) dX2_removeFromQueue_34 rfl rfl rfl rfl ?_
    rw [show nI i + 1 = nI (i + 1) from (nI_succ i).symm]
    refine J_goto (tgt := 12) dX2_removeFromQueue_37 (by decide) ?_
    refine ih (i + 1) _ (by omega) (by omega) (by rw [up_ne (by decide)]; exact h6) (fun k hk => ?_) ⟨fun c c1 c2 => by rw [up_ne c2]; exact hF.1 c c1 c2, fun k hk => by rw [up_ne (by decide)]; exact hF.2 k hk⟩
    rw [up_rr]
    by_cases e : k = i
    · rw [if_pos e, if_pos (by omega), e, er_getD, if_neg (by omega)]
    · rw [if_neg e, hq k hk]
      by_cases e2 : k < i
      · rw [if_pos e2, if_pos (by omega)]
      · rw [if_neg e2, if_neg (by omega)]

set_option maxRecDepth 100000 in
set_option maxHeartbeats 4000000 in
theorem c_X2_removeFromQueue {X : jX} {ad : Nat → Nat} {m B : Mem} {b : Nat} {r : Nat} {l : List Nat} (hb : isB b) (hQ : QL B l) (hl10 : l.length ≤ 10) (hr : r < l.length) : Cm X yX2_removeFromQueue cX2_removeFromQueue 3 (none) 0 ad [.ref (b + 11), .int (nI r)] (SB m b B) (fun v m9 => v = none ∧ ∃ B9, m9 = SB m b B9 ∧ QL B9 (l.eraseIdx r) ∧ FrQ B B9) := by
  refine Cm.of (own := RX2) (nm := "removeFromQueue") (by decide +kernel) rfl rfl rfl rfl ?_
  obtain ⟨n, hn⟩ : ∃ n, l.length = n + 1 := ⟨l.length - 1, by omega⟩
  refine J_aload_n dX2_removeFromQueue_0 rfl rfl ?_
  refine J_dup dX2_removeFromQueue_1 rfl ?_
  refine gB_queued (by first | assumption | exact isB1 | exact isB18) wf_X2_40 dX2_removeFromQueue_2 ?_
  refine J_topi (fun z9 hz9 => ?_)
  obtain rfl : z9 = (nI (n + 1)) := hz9.trans (by rw [hQ.1, hn])
  clear hz9
  refine J_iconst (v := 1) dX2_removeFromQueue_5 (by decide) ?_
  refine J_isub dX2_removeFromQueue_6 ?_
  refine pB_queued (by first | assumption | exact isB1 | exact isB18) wf_X2_40 dX2_removeFromQueue_7 ?_
  refine J_iload_n dX2_removeFromQueue_10 rfl rfl ?_
  refine J_istore_n dX2_removeFromQueue_11 rfl rfl rfl ?_
  rw [nI_pred]
  refine remLoop hb hn (by omega) hr (n - r) r _ (by omega) (Nat.le_refl _) (by rw [up_rr, if_pos rfl]) (fun k hk => ?_) ⟨fun c c1 c2 => up_ne c1, fun k hk => by rw [up_rr, if_neg hk]⟩
  rw [up_ne (by decide), hQ.2 k hk, er_getD]
  by_cases e : k < r
  · rw [if_pos e, if_pos e]
  · rw [if_neg e]

