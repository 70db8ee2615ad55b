/-- a cell copied in its first N places -/
def Cp (m m' : Mem) (c c2 N : Nat) : Prop := (∀ d, d ≠ c → m' d = m d) ∧ (∀ k, k < N → m' c k = m c2 k)
theorem blk_ne {b b2 r r2 : Nat} (h : isB b) (h2 : isB b2) (hne : b ≠ b2) (hr : r < 17) (hr2 : r2 < 17) : b2 + r2 ≠ b + r := by
  obtain ⟨j, h1, rfl⟩ := h
  obtain ⟨k, h3, rfl⟩ := h2
  omega
theorem cpy_lt {f g : Nat → Int32} {n k : Nat} (h : k < n) : va_cpy f g 0 0 n k = f k := by
  unfold va_cpy
  rw [if_pos (by omega), show 0 + (k - 0) = k by omega]
theorem nI_tc {n : Nat} (h : n < 1000) : (nI n).toNatClampNeg = n := nI_cl (by omega)
set_option maxRecDepth 100000 in
set_option maxHeartbeats 4000000 in
theorem c_X1_copyFrom {X : jX} {ad : Nat → Nat} {mem : Mem} {b b2 i : Nat} (hb : isB b) (h2 : isB b2) (hne : b ≠ b2) (hi : i < 8) (h6 : mem (b2 + (3 + i)) 6 = 0 ∨ mem (b2 + (3 + i)) 6 = 1) (h7 : mem (b2 + (3 + i)) 7 = 0 ∨ mem (b2 + (3 + i)) 7 = 1) : Cm X yX1_copyFrom cX1_copyFrom 2 (none) 0 ad [.ref (b + (3 + i)), .ref (b2 + (3 + i))] mem (fun v m9 => v = none ∧ Cp mem m9 (b + (3 + i)) (b2 + (3 + i)) 10) := by
  refine Cm.of (own := RX1) (nm := "copyFrom") (by decide +kernel) rfl rfl rfl rfl ?_
  have hne9 : b2 + (3 + i) ≠ b + (3 + i) := blk_ne hb h2 hne (by omega) (by omega)
  refine J_aload_n dX1_copyFrom_0 rfl rfl ?_
  refine J_aload_n dX1_copyFrom_1 rfl rfl ?_
  refine gX1_code (by first | assumption | exact isB1 | exact isB18) (by first | assumption | omega) wf_X1_9 dX1_copyFrom_2 ?_
  refine pX1_code (by first | assumption | exact isB1 | exact isB18) (by first | assumption | omega) wf_X1_9 dX1_copyFrom_5 ?_
  refine J_aload_n dX1_copyFrom_8 rfl rfl ?_
  refine J_aload_n dX1_copyFrom_9 rfl rfl ?_
  refine gX1_current (by first | assumption | exact isB1 | exact isB18) (by first | assumption | omega) wf_X1_15 dX1_copyFrom_10 ?_
  refine J_topi (fun z9 hz9 => ?_)
  obtain rfl : z9 = (mem (b2 + (3 + i)) 1) := hz9.trans (by simp only [up_ne hne9])
  clear hz9
  refine pX1_current (by first | assumption | exact isB1 | exact isB18) (by first | assumption | omega) wf_X1_15 dX1_copyFrom_13 ?_
  refine J_aload_n dX1_copyFrom_16 rfl rfl ?_
  refine J_aload_n dX1_copyFrom_17 rfl rfl ?_
  refine gX1_slot (by first | assumption | exact isB1 | exact isB18) (by first | assumption | omega) wf_X1_18 dX1_copyFrom_18 ?_
  refine J_topi (fun z9 hz9 => ?_)
  obtain rfl : z9 = (mem (b2 + (3 + i)) 2) := hz9.trans (by simp only [up_ne hne9])
  clear hz9
  refine pX1_slot (by first | assumption | exact isB1 | exact isB18) (by first | assumption | omega) wf_X1_18 dX1_copyFrom_21 ?_
  refine J_aload_n dX1_copyFrom_24 rfl rfl ?_
  refine J_aload_n dX1_copyFrom_25 rfl rfl ?_
  refine gX1_depth (by first | assumption | exact isB1 | exact isB18) (by first | assumption | omega) wf_X1_21 dX1_copyFrom_26 ?_
  refine J_topi (fun z9 hz9 => ?_)
  obtain rfl : z9 = (mem (b2 + (3 + i)) 3) := hz9.trans (by simp only [up_ne hne9])
  clear hz9
  refine pX1_depth (by first | assumption | exact isB1 | exact isB18) (by first | assumption | omega) wf_X1_21 dX1_copyFrom_29 ?_
  refine J_aload_n dX1_copyFrom_32 rfl rfl ?_
  refine J_aload_n dX1_copyFrom_33 rfl rfl ?_
  refine gX1_speed (by first | assumption | exact isB1 | exact isB18) (by first | assumption | omega) wf_X1_24 dX1_copyFrom_34 ?_
  refine J_topi (fun z9 hz9 => ?_)
  obtain rfl : z9 = (mem (b2 + (3 + i)) 4) := hz9.trans (by simp only [up_ne hne9])
  clear hz9
  refine pX1_speed (by first | assumption | exact isB1 | exact isB18) (by first | assumption | omega) wf_X1_24 dX1_copyFrom_37 ?_
  refine J_aload_n dX1_copyFrom_40 rfl rfl ?_
  refine J_aload_n dX1_copyFrom_41 rfl rfl ?_
  refine gX1_power (by first | assumption | exact isB1 | exact isB18) (by first | assumption | omega) wf_X1_27 dX1_copyFrom_42 ?_
  refine J_topi (fun z9 hz9 => ?_)
  obtain rfl : z9 = (mem (b2 + (3 + i)) 5) := hz9.trans (by simp only [up_ne hne9])
  clear hz9
  refine pX1_power (by first | assumption | exact isB1 | exact isB18) (by first | assumption | omega) wf_X1_27 dX1_copyFrom_45 ?_
  refine J_aload_n dX1_copyFrom_48 rfl rfl ?_
  refine J_aload_n dX1_copyFrom_49 rfl rfl ?_
  refine gX1_isKnown (by first | assumption | exact isB1 | exact isB18) (by first | assumption | omega) wf_X1_30 dX1_copyFrom_50 ?_
  refine J_topi (fun z9 hz9 => ?_)
  obtain rfl : z9 = (mem (b2 + (3 + i)) 6) := hz9.trans (by simp only [up_ne hne9])
  clear hz9
  refine pX1_isKnown (by first | assumption | exact isB1 | exact isB18) (by first | assumption | omega) wf_X1_30 dX1_copyFrom_53 h6 ?_
  refine J_aload_n dX1_copyFrom_56 rfl rfl ?_
  refine J_aload_n dX1_copyFrom_57 rfl rfl ?_
  refine gX1_hasAsked (by first | assumption | exact isB1 | exact isB18) (by first | assumption | omega) wf_X1_34 dX1_copyFrom_58 ?_
  refine J_topi (fun z9 hz9 => ?_)
  obtain rfl : z9 = (mem (b2 + (3 + i)) 7) := hz9.trans (by simp only [up_ne hne9])
  clear hz9
  refine pX1_hasAsked (by first | assumption | exact isB1 | exact isB18) (by first | assumption | omega) wf_X1_34 dX1_copyFrom_61 h7 ?_
  refine J_aload_n dX1_copyFrom_64 rfl rfl ?_
  refine J_aload_n dX1_copyFrom_65 rfl rfl ?_
  refine gX1_greeted (by first | assumption | exact isB1 | exact isB18) (by first | assumption | omega) wf_X1_37 dX1_copyFrom_66 ?_
  refine J_topi (fun z9 hz9 => ?_)
  obtain rfl : z9 = (mem (b2 + (3 + i)) 8) := hz9.trans (by simp only [up_ne hne9])
  clear hz9
  refine pX1_greeted (by first | assumption | exact isB1 | exact isB18) (by first | assumption | omega) wf_X1_37 dX1_copyFrom_69 ?_
  refine J_aload_n dX1_copyFrom_72 rfl rfl ?_
  refine J_aload_n dX1_copyFrom_73 rfl rfl ?_
  refine gX1_pulledTooSoon (by first | assumption | exact isB1 | exact isB18) (by first | assumption | omega) wf_X1_40 dX1_copyFrom_74 ?_
  refine J_topi (fun z9 hz9 => ?_)
  obtain rfl : z9 = (mem (b2 + (3 + i)) 9) := hz9.trans (by simp only [up_ne hne9])
  clear hz9
  refine pX1_pulledTooSoon (by first | assumption | exact isB1 | exact isB18) (by first | assumption | omega) wf_X1_40 dX1_copyFrom_77 ?_
  refine r_void dX1_copyFrom_80 ?_
  refine ⟨rfl, fun d hd => by simp only [up_ne hd], fun k hk => ?_⟩
  match k, hk with
  | 0, _ => simp [up_rr]
  | 1, _ => simp [up_rr]
  | 2, _ => simp [up_rr]
  | 3, _ => simp [up_rr]
  | 4, _ => simp [up_rr]
  | 5, _ => simp [up_rr]
  | 6, _ => simp [up_rr]
  | 7, _ => simp [up_rr]
  | 8, _ => simp [up_rr]
  | 9, _ => simp [up_rr]

section ACP
variable {X : jX} {own : String} {cc : ByteArray} {nL : Nat} {ret : Option FieldType} {nm : String} {d CR SR : Nat} {Q : List Frame → Array Value → State → State → Prop} {ad : Nat → Nat} {cells slots pc : Nat} {lv : List (Nat × Value)} {st : List Value} {mem : Mem}
theorem a_cp {index : Nat} {c0 c1 len0 len1 : Nat} (hlink : Cond.methodLink own index arraycopyName ∈ TW) (hdg : decode cc pc = .ok (.invokestatic index, 3)) (hd : Nat.ble 1 d = true) (hst : Nat.ble st.length 1 = true) (l0 : c0 < 201) (l1 : c1 < 201) (h0 : ∀ f, CE X ad c0 f = .inl (jcA X 0, len0, .inl f)) (h1 : ∀ f, CE X ad c1 f = .inl (jcA X 0, len1, .inl f)) (N : Nat) (h4 : N ≤ len0) (h5 : N ≤ len1) (h6 : N < 1000) (kk : ∀ m1, Cp mem m1 c1 c0 N → Jg X own cc nL ret nm d CR SR (Q) ad (cells) (slots) (pc + 3) (lv) (st) (WS X ad m1)) : Jg X own cc nL ret nm d CR SR (Q) ad (cells) (slots) (pc) (lv) (.int (nI N) :: .int 0 :: .ref c1 :: .int 0 :: .ref c0 :: st) (WS X ad (mem)) := by
  refine a_copy hlink hdg hd hst l0 l1 h0 h1 (by decide) (by decide) (nI_lt0 (by omega)) (by rw [nI_tc h6]; exact Nat.le_trans (by rw [show (0 : Int32).toNatClampNeg = 0 from rfl]; omega) h4) (by rw [nI_tc h6]; exact Nat.le_trans (by rw [show (0 : Int32).toNatClampNeg = 0 from rfl]; omega) h5) (kk _ ⟨fun e he => upC_ne he, fun k hk => ?_⟩)
  rw [upC_at, nI_tc h6]
  exact cpy_lt hk
end ACP
set_option maxRecDepth 100000 in
set_option maxHeartbeats 4000000 in
theorem c_X2_copyFrom {X : jX} {ad : Nat → Nat} {mem : Mem} {b b2 w L : Nat} (hb : isB b) (h2 : isB b2) (hne : b ≠ b2) (h4w : mem (b2 + 11) 4 = nI w) (hw : w ≤ 200) (h6w : mem (b2 + 11) 6 = nI L) (hL : L ≤ 10) : Cm X yX2_copyFrom cX2_copyFrom 2 (none) 1 ad [.ref (b + 11), .ref (b2 + 11)] mem (fun v m9 => v = none ∧ (∀ d, (d < b + 11 ∨ b + 16 < d) → m9 d = mem d) ∧ (∀ k, (k = 4 ∨ 6 ≤ k ∧ k < 12) → m9 (b + 11) k = mem (b2 + 11) k) ∧ (∀ r, 12 ≤ r → r < 16 → ∀ k, k < w → m9 (b + r) k = mem (b2 + r) k) ∧ ∀ k, k < L → m9 (b + 16) k = mem (b2 + 16) k) := by
  refine Cm.of (own := RX2) (nm := "copyFrom") (by decide +kernel) rfl rfl rfl rfl ?_
  have n11 : ∀ r2, 11 ≤ r2 → r2 < 17 → b2 + 11 ≠ b + r2 := fun r2 _ h => blk_ne hb h2 hne (r := r2) (r2 := 11) h (by decide)
  have n12 : ∀ r2, 11 ≤ r2 → r2 < 17 → b2 + 12 ≠ b + r2 := fun r2 _ h => blk_ne hb h2 hne (r := r2) (r2 := 12) h (by decide)
  have n13 : ∀ r2, 11 ≤ r2 → r2 < 17 → b2 + 13 ≠ b + r2 := fun r2 _ h => blk_ne hb h2 hne (r := r2) (r2 := 13) h (by decide)
  have n14 : ∀ r2, 11 ≤ r2 → r2 < 17 → b2 + 14 ≠ b + r2 := fun r2 _ h => blk_ne hb h2 hne (r := r2) (r2 := 14) h (by decide)
  have n15 : ∀ r2, 11 ≤ r2 → r2 < 17 → b2 + 15 ≠ b + r2 := fun r2 _ h => blk_ne hb h2 hne (r := r2) (r2 := 15) h (by decide)
  have n16 : ∀ r2, 11 ≤ r2 → r2 < 17 → b2 + 16 ≠ b + r2 := fun r2 _ h => blk_ne hb h2 hne (r := r2) (r2 := 16) h (by decide)
  refine J_aload_n dX2_copyFrom_0 rfl rfl ?_
  refine J_aload_n dX2_copyFrom_1 rfl rfl ?_
  refine gX2_sent (by first | assumption | exact isB1 | exact isB18) wf_X2_31 dX2_copyFrom_2 ?_
  refine J_topi (fun z9 hz9 => ?_)
  obtain rfl : z9 = (nI w) := hz9.trans (by exact h4w)
  clear hz9
  refine pX2_sent (by first | assumption | exact isB1 | exact isB18) wf_X2_31 dX2_copyFrom_5 ?_
  refine J_aload_n dX2_copyFrom_8 rfl rfl ?_
  refine gX2_senders (by first | assumption | exact isB1 | exact isB18) wf_X2_9 dX2_copyFrom_9 ?_
  refine J_iconst (v := 0) dX2_copyFrom_12 (by decide) ?_
  refine J_aload_n dX2_copyFrom_13 rfl rfl ?_
  refine gX2_senders (by first | assumption | exact isB1 | exact isB18) wf_X2_9 dX2_copyFrom_14 ?_
  refine J_iconst (v := 0) dX2_copyFrom_17 (by decide) ?_
  refine J_aload_n dX2_copyFrom_18 rfl rfl ?_
  refine gX2_sent (by first | assumption | exact isB1 | exact isB18) wf_X2_31 dX2_copyFrom_19 ?_
  refine J_topi (fun z9 hz9 => ?_)
  obtain rfl : z9 = (nI w) := hz9.trans (by rw [up_rr, if_pos rfl])
  clear hz9
  refine a_cp wm_X2_34 dX2_copyFrom_22 rfl rfl (by have := h2.lt; omega) (by have := hb.lt; omega) (CEa_w12 h2) (CEa_w12 hb) w (by omega) (by omega) (by omega) (fun m22 hc22 => ?_)
  refine J_aload_n dX2_copyFrom_25 rfl rfl ?_
  refine gX2_receivers (by first | assumption | exact isB1 | exact isB18) wf_X2_15 dX2_copyFrom_26 ?_
  refine J_iconst (v := 0) dX2_copyFrom_29 (by decide) ?_
  refine J_aload_n dX2_copyFrom_30 rfl rfl ?_
  refine gX2_receivers (by first | assumption | exact isB1 | exact isB18) wf_X2_15 dX2_copyFrom_31 ?_
  refine J_iconst (v := 0) dX2_copyFrom_34 (by decide) ?_
  refine J_aload_n dX2_copyFrom_35 rfl rfl ?_
  refine gX2_sent (by first | assumption | exact isB1 | exact isB18) wf_X2_31 dX2_copyFrom_36 ?_
  refine J_topi (fun z9 hz9 => ?_)
  obtain rfl : z9 = (nI w) := hz9.trans (by rw [hc22.1 _ (by omega), up_rr, if_pos rfl])
  clear hz9
  refine a_cp wm_X2_34 dX2_copyFrom_39 rfl rfl (by have := h2.lt; omega) (by have := hb.lt; omega) (CEa_w13 h2) (CEa_w13 hb) w (by omega) (by omega) (by omega) (fun m39 hc39 => ?_)
  refine J_aload_n dX2_copyFrom_42 rfl rfl ?_
  refine gX2_conditions (by first | assumption | exact isB1 | exact isB18) wf_X2_18 dX2_copyFrom_43 ?_
  refine J_iconst (v := 0) dX2_copyFrom_46 (by decide) ?_
  refine J_aload_n dX2_copyFrom_47 rfl rfl ?_
  refine gX2_conditions (by first | assumption | exact isB1 | exact isB18) wf_X2_18 dX2_copyFrom_48 ?_
  refine J_iconst (v := 0) dX2_copyFrom_51 (by decide) ?_
  refine J_aload_n dX2_copyFrom_52 rfl rfl ?_
  refine gX2_sent (by first | assumption | exact isB1 | exact isB18) wf_X2_31 dX2_copyFrom_53 ?_
  refine J_topi (fun z9 hz9 => ?_)
  obtain rfl : z9 = (nI w) := hz9.trans (by rw [hc39.1 _ (by omega), hc22.1 _ (by omega), up_rr, if_pos rfl])
  clear hz9
  refine a_cp wm_X2_34 dX2_copyFrom_56 rfl rfl (by have := h2.lt; omega) (by have := hb.lt; omega) (CEa_w14 h2) (CEa_w14 hb) w (by omega) (by omega) (by omega) (fun m56 hc56 => ?_)
  refine J_aload_n dX2_copyFrom_59 rfl rfl ?_
  refine gX2_hurts (by first | assumption | exact isB1 | exact isB18) wf_X2_21 dX2_copyFrom_60 ?_
  refine J_iconst (v := 0) dX2_copyFrom_63 (by decide) ?_
  refine J_aload_n dX2_copyFrom_64 rfl rfl ?_
  refine gX2_hurts (by first | assumption | exact isB1 | exact isB18) wf_X2_21 dX2_copyFrom_65 ?_
  refine J_iconst (v := 0) dX2_copyFrom_68 (by decide) ?_
  refine J_aload_n dX2_copyFrom_69 rfl rfl ?_
  refine gX2_sent (by first | assumption | exact isB1 | exact isB18) wf_X2_31 dX2_copyFrom_70 ?_
  refine J_topi (fun z9 hz9 => ?_)
  obtain rfl : z9 = (nI w) := hz9.trans (by rw [hc56.1 _ (by omega), hc39.1 _ (by omega), hc22.1 _ (by omega), up_rr, if_pos rfl])
  clear hz9
  refine a_cp wm_X2_34 dX2_copyFrom_73 rfl rfl (by have := h2.lt; omega) (by have := hb.lt; omega) (CEa_w15 h2) (CEa_w15 hb) w (by omega) (by omega) (by omega) (fun m73 hc73 => ?_)
  refine J_aload_n dX2_copyFrom_76 rfl rfl ?_
  refine J_aload_n dX2_copyFrom_77 rfl rfl ?_
  refine gX2_queued (by first | assumption | exact isB1 | exact isB18) wf_X2_40 dX2_copyFrom_78 ?_
  refine J_topi (fun z9 hz9 => ?_)
  obtain rfl : z9 = (nI L) := hz9.trans (by rw [hc73.1 _ (n11 15 (by decide) (by decide)), hc56.1 _ (n11 14 (by decide) (by decide)), hc39.1 _ (n11 13 (by decide) (by decide)), hc22.1 _ (n11 12 (by decide) (by decide)), up_ne (n11 11 (by decide) (by decide))]; exact h6w)
  clear hz9
  refine pX2_queued (by first | assumption | exact isB1 | exact isB18) wf_X2_40 dX2_copyFrom_81 ?_
  refine J_aload_n dX2_copyFrom_84 rfl rfl ?_
  refine gX2_queue (by first | assumption | exact isB1 | exact isB18) wf_X2_24 dX2_copyFrom_85 ?_
  refine J_iconst (v := 0) dX2_copyFrom_88 (by decide) ?_
  refine J_aload_n dX2_copyFrom_89 rfl rfl ?_
  refine gX2_queue (by first | assumption | exact isB1 | exact isB18) wf_X2_24 dX2_copyFrom_90 ?_
  refine J_iconst (v := 0) dX2_copyFrom_93 (by decide) ?_
  refine J_aload_n dX2_copyFrom_94 rfl rfl ?_
  refine gX2_queued (by first | assumption | exact isB1 | exact isB18) wf_X2_40 dX2_copyFrom_95 ?_
  refine J_topi (fun z9 hz9 => ?_)
  obtain rfl : z9 = (nI L) := hz9.trans (by rw [up_rr, if_pos rfl])
  clear hz9
  refine a_cp wm_X2_34 dX2_copyFrom_98 rfl rfl (by have := h2.lt; omega) (by have := hb.lt; omega) (CEa_w16 h2) (CEa_w16 hb) L (by omega) (by omega) (by omega) (fun m98 hc98 => ?_)
  refine J_aload_n dX2_copyFrom_101 rfl rfl ?_
  refine J_aload_n dX2_copyFrom_102 rfl rfl ?_
  refine gX2_onBus (by first | assumption | exact isB1 | exact isB18) wf_X2_27 dX2_copyFrom_103 ?_
  refine J_topi (fun z9 hz9 => ?_)
  obtain rfl : z9 = (mem (b2 + 11) 7) := hz9.trans (by rw [hc98.1 _ (n11 16 (by decide) (by decide)), up_ne (n11 11 (by decide) (by decide)), hc73.1 _ (n11 15 (by decide) (by decide)), hc56.1 _ (n11 14 (by decide) (by decide)), hc39.1 _ (n11 13 (by decide) (by decide)), hc22.1 _ (n11 12 (by decide) (by decide)), up_ne (n11 11 (by decide) (by decide))])
  clear hz9
  refine pX2_onBus (by first | assumption | exact isB1 | exact isB18) wf_X2_27 dX2_copyFrom_106 ?_
  refine J_aload_n dX2_copyFrom_109 rfl rfl ?_
  refine J_aload_n dX2_copyFrom_110 rfl rfl ?_
  refine gX2_ticksLeft (by first | assumption | exact isB1 | exact isB18) wf_X2_43 dX2_copyFrom_111 ?_
  refine J_topi (fun z9 hz9 => ?_)
  obtain rfl : z9 = (mem (b2 + 11) 8) := hz9.trans (by rw [up_ne (n11 11 (by decide) (by decide)), hc98.1 _ (n11 16 (by decide) (by decide)), up_ne (n11 11 (by decide) (by decide)), hc73.1 _ (n11 15 (by decide) (by decide)), hc56.1 _ (n11 14 (by decide) (by decide)), hc39.1 _ (n11 13 (by decide) (by decide)), hc22.1 _ (n11 12 (by decide) (by decide)), up_ne (n11 11 (by decide) (by decide))])
  clear hz9
  refine pX2_ticksLeft (by first | assumption | exact isB1 | exact isB18) wf_X2_43 dX2_copyFrom_114 ?_
  refine J_aload_n dX2_copyFrom_117 rfl rfl ?_
  refine J_aload_n dX2_copyFrom_118 rfl rfl ?_
  refine gX2_delivered (by first | assumption | exact isB1 | exact isB18) wf_X2_46 dX2_copyFrom_119 ?_
  refine J_topi (fun z9 hz9 => ?_)
  obtain rfl : z9 = (mem (b2 + 11) 9) := hz9.trans (by rw [up_ne (n11 11 (by decide) (by decide)), up_ne (n11 11 (by decide) (by decide)), hc98.1 _ (n11 16 (by decide) (by decide)), up_ne (n11 11 (by decide) (by decide)), hc73.1 _ (n11 15 (by decide) (by decide)), hc56.1 _ (n11 14 (by decide) (by decide)), hc39.1 _ (n11 13 (by decide) (by decide)), hc22.1 _ (n11 12 (by decide) (by decide)), up_ne (n11 11 (by decide) (by decide))])
  clear hz9
  refine pX2_delivered (by first | assumption | exact isB1 | exact isB18) wf_X2_46 dX2_copyFrom_122 ?_
  refine J_aload_n dX2_copyFrom_125 rfl rfl ?_
  refine J_aload_n dX2_copyFrom_126 rfl rfl ?_
  refine gX2_lost (by first | assumption | exact isB1 | exact isB18) wf_X2_49 dX2_copyFrom_127 ?_
  refine J_topi (fun z9 hz9 => ?_)
  obtain rfl : z9 = (mem (b2 + 11) 10) := hz9.trans (by rw [up_ne (n11 11 (by decide) (by decide)), up_ne (n11 11 (by decide) (by decide)), up_ne (n11 11 (by decide) (by decide)), hc98.1 _ (n11 16 (by decide) (by decide)), up_ne (n11 11 (by decide) (by decide)), hc73.1 _ (n11 15 (by decide) (by decide)), hc56.1 _ (n11 14 (by decide) (by decide)), hc39.1 _ (n11 13 (by decide) (by decide)), hc22.1 _ (n11 12 (by decide) (by decide)), up_ne (n11 11 (by decide) (by decide))])
  clear hz9
  refine pX2_lost (by first | assumption | exact isB1 | exact isB18) wf_X2_49 dX2_copyFrom_130 ?_
  refine J_aload_n dX2_copyFrom_133 rfl rfl ?_
  refine J_aload_n dX2_copyFrom_134 rfl rfl ?_
  refine gX2_hurtSoFar (by first | assumption | exact isB1 | exact isB18) wf_X2_52 dX2_copyFrom_135 ?_
  refine J_topi (fun z9 hz9 => ?_)
  obtain rfl : z9 = (mem (b2 + 11) 11) := hz9.trans (by rw [up_ne (n11 11 (by decide) (by decide)), up_ne (n11 11 (by decide) (by decide)), up_ne (n11 11 (by decide) (by decide)), up_ne (n11 11 (by decide) (by decide)), hc98.1 _ (n11 16 (by decide) (by decide)), up_ne (n11 11 (by decide) (by decide)), hc73.1 _ (n11 15 (by decide) (by decide)), hc56.1 _ (n11 14 (by decide) (by decide)), hc39.1 _ (n11 13 (by decide) (by decide)), hc22.1 _ (n11 12 (by decide) (by decide)), up_ne (n11 11 (by decide) (by decide))])
  clear hz9
  refine pX2_hurtSoFar (by first | assumption | exact isB1 | exact isB18) wf_X2_52 dX2_copyFrom_138 ?_
  refine r_void dX2_copyFrom_141 ?_
  refine ⟨rfl, fun d hd => ?_, fun k hk => ?_, fun r hr1 hr2 k hk => ?_, fun k hk => ?_⟩
  · rw [up_ne (by omega), up_ne (by omega), up_ne (by omega), up_ne (by omega), up_ne (by omega), hc98.1 _ (by omega), up_ne (by omega), hc73.1 _ (by omega), hc56.1 _ (by omega), hc39.1 _ (by omega), hc22.1 _ (by omega), up_ne (by omega)]
  · rw [up_rr, up_rr, up_rr, up_rr, up_rr, hc98.1 _ (by omega), up_rr, hc73.1 _ (by omega), hc56.1 _ (by omega), hc39.1 _ (by omega), hc22.1 _ (by omega), up_rr]
    rcases hk with rfl | ⟨hk1, hk2⟩
    · exact h4w.symm
    · obtain ⟨j, rfl⟩ : ∃ j, k = 6 + j := ⟨k - 6, by omega⟩
      match j, hk2 with
      | 0, _ => exact h6w.symm
      | 1, _ => rfl
      | 2, _ => rfl
      | 3, _ => rfl
      | 4, _ => rfl
      | 5, _ => rfl
      | j + 6, h => exact absurd h (by omega)
  · rw [up_ne (by omega), up_ne (by omega), up_ne (by omega), up_ne (by omega), up_ne (by omega), hc98.1 _ (by omega), up_ne (by omega)]
    obtain ⟨j, rfl⟩ : ∃ j, r = 12 + j := ⟨r - 12, by omega⟩
    match j, hr2 with
    | 0, _ => rw [hc73.1 _ (by omega), hc56.1 _ (by omega), hc39.1 _ (by omega)]; exact (hc22.2 k hk).trans (congrFun (up_ne (n12 11 (by decide) (by decide))) k)
    | 1, _ => rw [hc73.1 _ (by omega), hc56.1 _ (by omega)]; exact (hc39.2 k hk).trans (congrFun ((hc22.1 _ (n13 12 (by decide) (by decide))).trans (up_ne (n13 11 (by decide) (by decide)))) k)
    | 2, _ => rw [hc73.1 _ (by omega)]; exact (hc56.2 k hk).trans (congrFun ((hc39.1 _ (n14 13 (by decide) (by decide))).trans ((hc22.1 _ (n14 12 (by decide) (by decide))).trans (up_ne (n14 11 (by decide) (by decide))))) k)
    | 3, _ => exact (hc73.2 k hk).trans (congrFun ((hc56.1 _ (n15 14 (by decide) (by decide))).trans ((hc39.1 _ (n15 13 (by decide) (by decide))).trans ((hc22.1 _ (n15 12 (by decide) (by decide))).trans (up_ne (n15 11 (by decide) (by decide)))))) k)
    | j + 4, h => exact absurd h (by omega)
  · rw [up_ne (by omega), up_ne (by omega), up_ne (by omega), up_ne (by omega), up_ne (by omega)]
    exact (hc98.2 k hk).trans (congrFun ((up_ne (n16 11 (by decide) (by decide))).trans ((hc73.1 _ (n16 15 (by decide) (by decide))).trans ((hc56.1 _ (n16 14 (by decide) (by decide))).trans ((hc39.1 _ (n16 13 (by decide) (by decide))).trans ((hc22.1 _ (n16 12 (by decide) (by decide))).trans (up_ne (n16 11 (by decide) (by decide)))))))) k)

