set_option maxRecDepth 100000 in
set_option maxHeartbeats 4000000 in
theorem c_whNN {X : jX} {ad : Nat → Nat} {m B : Mem} {b : Nat} {s : Rw} {n w : Nat} {x y : Int32} (hb : isB b) (hV : Rv s n w) (hRp : Rep B s n w) (hx : jin x 0 (nI n - 1) = 0) (hy : jin y 0 (nI n - 1) = 0) : Cd X yX0_whyNot cX0_whyNot 5 (some .int) 1 ad [.ref b, .int x, .int y] (SB m b B) (some (.int (whA s n x y))) ((SB m b B)) := by
  refine Cm.of (own := RX0) (nm := "whyNot") (by decide +kernel) rfl rfl rfl rfl ?_
  have hn8 := hV.1.1
  refine J_aload_n dX0_whyNot_0 rfl rfl ?_
  refine J_iload_n dX0_whyNot_1 rfl rfl ?_
  refine cVn wv_X0_83 (c_boardAtN hb hRp.1 hn8 hx) dX0_whyNot_2 (ob0 (by first | assumption | exact isB1 | exact isB18)) rfl rfl (kk := ?_)
  refine J_astore_nN dX0_whyNot_5 rfl rfl rfl ?_
  refine J_aload_n dX0_whyNot_6 rfl rfl ?_
  refine J_iload_n dX0_whyNot_7 rfl rfl ?_
  refine cVn wv_X0_83 (c_boardAtN hb hRp.1 hn8 hy) dX0_whyNot_8 (ob0 (by first | assumption | exact isB1 | exact isB18)) rfl rfl (kk := ?_)
  refine J_astoreN dX0_whyNot_11 rfl rfl ?_
  refine J_aload_nN dX0_whyNot_13 rfl rfl ?_
  refine J_ifnullN (tgt := 22) dX0_whyNot_14 (by decide) ?_
  refine J_iconst (v := -1) dX0_whyNot_22 (by decide) ?_
  refine r_int dX0_whyNot_23 ?_
  exact ⟨by unfold whA; rw [if_pos hx], rfl⟩

set_option maxRecDepth 100000 in
set_option maxHeartbeats 4000000 in
theorem c_whNV {X : jX} {ad : Nat → Nat} {m B : Mem} {b : Nat} {s : Rw} {n w : Nat} {x : Int32} {q : Nat} (hb : isB b) (hV : Rv s n w) (hRp : Rep B s n w) (hx : jin x 0 (nI n - 1) = 0) (hq : q < n) : Cd X yX0_whyNot cX0_whyNot 5 (some .int) 1 ad [.ref b, .int x, .int (nI q)] (SB m b B) (some (.int (whA s n x (nI q)))) ((SB m b B)) := by
  refine Cm.of (own := RX0) (nm := "whyNot") (by decide +kernel) rfl rfl rfl rfl ?_
  have hn8 := hV.1.1
  refine J_aload_n dX0_whyNot_0 rfl rfl ?_
  refine J_iload_n dX0_whyNot_1 rfl rfl ?_
  refine cVn wv_X0_83 (c_boardAtN hb hRp.1 hn8 hx) dX0_whyNot_2 (ob0 (by first | assumption | exact isB1 | exact isB18)) rfl rfl (kk := ?_)
  refine J_astore_nN dX0_whyNot_5 rfl rfl rfl ?_
  refine J_aload_n dX0_whyNot_6 rfl rfl ?_
  refine J_iload_n dX0_whyNot_7 rfl rfl ?_
  refine cVr wv_X0_83 (c_boardAt hb hRp.1 hn8 (i := q) hq) dX0_whyNot_8 (ob0 (by first | assumption | exact isB1 | exact isB18)) rfl rfl (kk := ?_)
  refine J_astore dX0_whyNot_11 rfl rfl ?_
  refine J_aload_nN dX0_whyNot_13 rfl rfl ?_
  refine J_ifnullN (tgt := 22) dX0_whyNot_14 (by decide) ?_
  refine J_iconst (v := -1) dX0_whyNot_22 (by decide) ?_
  refine r_int dX0_whyNot_23 ?_
  exact ⟨by unfold whA; rw [if_pos hx], rfl⟩

set_option maxRecDepth 100000 in
set_option maxHeartbeats 4000000 in
theorem c_whVN {X : jX} {ad : Nat → Nat} {m B : Mem} {b : Nat} {s : Rw} {n w : Nat} {y : Int32} {p : Nat} (hb : isB b) (hV : Rv s n w) (hRp : Rep B s n w) (hp : p < n) (hy : jin y 0 (nI n - 1) = 0) : Cd X yX0_whyNot cX0_whyNot 5 (some .int) 1 ad [.ref b, .int (nI p), .int y] (SB m b B) (some (.int (whA s n (nI p) y))) ((SB m b B)) := by
  refine Cm.of (own := RX0) (nm := "whyNot") (by decide +kernel) rfl rfl rfl rfl ?_
  have hn8 := hV.1.1
  have hx : ¬ jin (nI p) 0 (nI n - 1) = 0 := jin_no (by omega) (jin_ok hp (by omega)).1 (jin_ok hp (by omega)).2
  refine J_aload_n dX0_whyNot_0 rfl rfl ?_
  refine J_iload_n dX0_whyNot_1 rfl rfl ?_
  refine cVr wv_X0_83 (c_boardAt hb hRp.1 hn8 (i := p) hp) dX0_whyNot_2 (ob0 (by first | assumption | exact isB1 | exact isB18)) rfl rfl (kk := ?_)
  refine J_astore_n dX0_whyNot_5 rfl rfl rfl ?_
  refine J_aload_n dX0_whyNot_6 rfl rfl ?_
  refine J_iload_n dX0_whyNot_7 rfl rfl ?_
  refine cVn wv_X0_83 (c_boardAtN hb hRp.1 hn8 hy) dX0_whyNot_8 (ob0 (by first | assumption | exact isB1 | exact isB18)) rfl rfl (kk := ?_)
  refine J_astoreN dX0_whyNot_11 rfl rfl ?_
  refine J_aload_n dX0_whyNot_13 rfl rfl ?_
  refine J_ifnull dX0_whyNot_14 ?_
  refine J_aloadN dX0_whyNot_17 rfl ?_
  refine J_ifnonnullN dX0_whyNot_19 ?_
  refine J_iconst (v := -1) dX0_whyNot_22 (by decide) ?_
  refine r_int dX0_whyNot_23 ?_
  exact ⟨by unfold whA; rw [if_neg hx, if_pos hy], rfl⟩

section WH
variable {s : Rw} {n p q : Nat}
theorem wh_e (hx : ¬ jin (nI p) 0 (nI n - 1) = 0) (hy : ¬ jin (nI q) 0 (nI n - 1) = 0) (h : nI p = nI q) : whA s n (nI p) (nI q) = -2 := by unfold whA; rw [if_neg hx, if_neg hy, if_pos h]
theorem wh_h (hx : ¬ jin (nI p) 0 (nI n - 1) = 0) (hy : ¬ jin (nI q) 0 (nI n - 1) = 0) (hp : p < 8) (hq : q < 8) (h : ¬ nI p = nI q) : whA s n (nI p) (nI q) = hiF s p q := by unfold whA; rw [if_neg hx, if_neg hy, if_neg h, show (nI p).toNatClampNeg = p from nI_cl (by omega), show (nI q).toNatClampNeg = q from nI_cl (by omega)]
theorem hi_1 (h : s (fb p 6) = 0) : hiF s p q = 1 := by unfold hiF; rw [if_pos h]
theorem hi_2 (h : ¬ s (fb p 6) = 0) (h2 : s (fb q 6) = 0) : hiF s p q = 2 := by unfold hiF; rw [if_neg h, if_pos h2]
theorem hi_3 (h : ¬ s (fb p 6) = 0) (h2 : ¬ s (fb q 6) = 0) (hf : Bf s p) (h3 : ¬ s (fb p 7) = 0) : hiF s p q = 3 := by unfold hiF; rw [if_neg h, if_neg h2, if_pos (hf.2.2.resolve_left h3).1]
theorem hi_4 (h : ¬ s (fb p 6) = 0) (h2 : ¬ s (fb q 6) = 0) (h3 : s (fb p 7) = 0) (hf : Bf s q) (h4 : ¬ s (fb q 7) = 0) : hiF s p q = 3 := by unfold hiF; rw [if_neg h, if_neg h2, if_neg (by rw [h3]; decide), if_pos (hf.2.2.resolve_left h4).1]
theorem hi_0 (h : ¬ s (fb p 6) = 0) (h2 : ¬ s (fb q 6) = 0) (h3 : s (fb p 7) = 0) (h4 : s (fb q 7) = 0) : hiF s p q = 0 := by unfold hiF; rw [if_neg h, if_neg h2, if_neg (by rw [h3]; decide), if_neg (by rw [h4]; decide)]
theorem vi {a c : Int32} (h : c = a) : some (Value.int a) = some (Value.int c) := by rw [h]
end WH
set_option maxRecDepth 100000 in
set_option maxHeartbeats 4000000 in
theorem c_whVV {X : jX} {ad : Nat → Nat} {m B : Mem} {b : Nat} {s : Rw} {n w : Nat} {p q : Nat} (hb : isB b) (hV : Rv s n w) (hRp : Rep B s n w) (hp : p < n) (hq : q < n) : Cd X yX0_whyNot cX0_whyNot 5 (some .int) 1 ad [.ref b, .int (nI p), .int (nI q)] (SB m b B) (some (.int (whA s n (nI p) (nI q)))) ((SB m b B)) := by
  refine Cm.of (own := RX0) (nm := "whyNot") (by decide +kernel) rfl rfl rfl rfl ?_
  have hn8 := hV.1.1
  have hx : ¬ jin (nI p) 0 (nI n - 1) = 0 := jin_no (by omega) (jin_ok hp (by omega)).1 (jin_ok hp (by omega)).2
  have hy : ¬ jin (nI q) 0 (nI n - 1) = 0 := jin_no (by omega) (jin_ok hq (by omega)).1 (jin_ok hq (by omega)).2
  obtain ⟨r1, -⟩ := hRp.1.2.2 p hp
  obtain ⟨t1, -⟩ := hRp.1.2.2 q hq
  have p8 : p < 8 := by omega
  have q8 : q < 8 := by omega
  have fp := hV.2.1 p hp
  have fq := hV.2.1 q hq
  refine J_aload_n dX0_whyNot_0 rfl rfl ?_
  refine J_iload_n dX0_whyNot_1 rfl rfl ?_
  refine cVr wv_X0_83 (c_boardAt hb hRp.1 hn8 (i := p) hp) dX0_whyNot_2 (ob0 (by first | assumption | exact isB1 | exact isB18)) rfl rfl (kk := ?_)
  refine J_astore_n dX0_whyNot_5 rfl rfl rfl ?_
  refine J_aload_n dX0_whyNot_6 rfl rfl ?_
  refine J_iload_n dX0_whyNot_7 rfl rfl ?_
  refine cVr wv_X0_83 (c_boardAt hb hRp.1 hn8 (i := q) hq) dX0_whyNot_8 (ob0 (by first | assumption | exact isB1 | exact isB18)) rfl rfl (kk := ?_)
  refine J_astore dX0_whyNot_11 rfl rfl ?_
  refine J_aload_n dX0_whyNot_13 rfl rfl ?_
  refine J_ifnull dX0_whyNot_14 ?_
  refine J_aload dX0_whyNot_17 rfl ?_
  refine J_ifnonnull (tgt := 24) dX0_whyNot_19 (by decide) ?_
  refine J_iload_n dX0_whyNot_24 rfl rfl ?_
  refine J_iload_n dX0_whyNot_25 rfl rfl ?_
  refine J_icmp_ne (tgt := 32) dX0_whyNot_26 (by decide) (fun h26 => ?_) (fun h26 => ?_)
  · refine J_aload_n dX0_whyNot_32 rfl rfl ?_
    refine gB_isKnown (by first | assumption | exact isB1 | exact isB18) (by first | assumption | omega) wf_X0_63 dX0_whyNot_33 ?_
    refine J_topi (fun z9 hz9 => ?_)
    obtain rfl : z9 = (s (fb p 6)) := hz9.trans (by exact r1 6 (by decide))
    clear hz9
    refine J_if_ne (tgt := 41) dX0_whyNot_36 (by decide) (fun h36 => ?_) (fun h36 => ?_)
    · refine J_aload dX0_whyNot_41 rfl ?_
      refine gB_isKnown (by first | assumption | exact isB1 | exact isB18) (by first | assumption | omega) wf_X0_63 dX0_whyNot_43 ?_
      refine J_topi (fun z9 hz9 => ?_)
      obtain rfl : z9 = (s (fb q 6)) := hz9.trans (by exact t1 6 (by decide))
      clear hz9
      refine J_if_ne (tgt := 51) dX0_whyNot_46 (by decide) (fun h46 => ?_) (fun h46 => ?_)
      · refine J_aload_n dX0_whyNot_51 rfl rfl ?_
        refine gB_hasAsked (by first | assumption | exact isB1 | exact isB18) (by first | assumption | omega) wf_X0_93 dX0_whyNot_52 ?_
        refine J_topi (fun z9 hz9 => ?_)
        obtain rfl : z9 = (s (fb p 7)) := hz9.trans (by exact r1 7 (by decide))
        clear hz9
        refine J_if_ne (tgt := 66) dX0_whyNot_55 (by decide) (fun h55 => ?_) (fun h55 => ?_)
        · refine J_iconst (v := 3) dX0_whyNot_66 (by decide) ?_
          refine J_goto (tgt := 71) dX0_whyNot_67 (by decide) ?_
          refine r_int dX0_whyNot_71 ?_
          first | exact ⟨vi (wh_e hx hy h26), rfl⟩ | exact ⟨vi ((wh_h hx hy p8 q8 h26).trans (hi_1 h36)), rfl⟩ | exact ⟨vi ((wh_h hx hy p8 q8 h26).trans (hi_2 h36 h46)), rfl⟩ | exact ⟨vi ((wh_h hx hy p8 q8 h26).trans (hi_3 h36 h46 fp h55)), rfl⟩ | exact ⟨vi ((wh_h hx hy p8 q8 h26).trans (hi_4 h36 h46 h55 fq h63)), rfl⟩ | exact ⟨vi ((wh_h hx hy p8 q8 h26).trans (hi_0 h36 h46 h55 h63)), rfl⟩
        · refine J_aload dX0_whyNot_58 rfl ?_
          refine gB_hasAsked (by first | assumption | exact isB1 | exact isB18) (by first | assumption | omega) wf_X0_93 dX0_whyNot_60 ?_
          refine J_topi (fun z9 hz9 => ?_)
          obtain rfl : z9 = (s (fb q 7)) := hz9.trans (by exact t1 7 (by decide))
          clear hz9
          refine J_if_eq (tgt := 70) dX0_whyNot_63 (by decide) (fun h63 => ?_) (fun h63 => ?_)
          · refine J_iconst (v := 0) dX0_whyNot_70 (by decide) ?_
            refine r_int dX0_whyNot_71 ?_
            first | exact ⟨vi (wh_e hx hy h26), rfl⟩ | exact ⟨vi ((wh_h hx hy p8 q8 h26).trans (hi_1 h36)), rfl⟩ | exact ⟨vi ((wh_h hx hy p8 q8 h26).trans (hi_2 h36 h46)), rfl⟩ | exact ⟨vi ((wh_h hx hy p8 q8 h26).trans (hi_3 h36 h46 fp h55)), rfl⟩ | exact ⟨vi ((wh_h hx hy p8 q8 h26).trans (hi_4 h36 h46 h55 fq h63)), rfl⟩ | exact ⟨vi ((wh_h hx hy p8 q8 h26).trans (hi_0 h36 h46 h55 h63)), rfl⟩
          · refine J_iconst (v := 3) dX0_whyNot_66 (by decide) ?_
            refine J_goto (tgt := 71) dX0_whyNot_67 (by decide) ?_
            refine r_int dX0_whyNot_71 ?_
            first | exact ⟨vi (wh_e hx hy h26), rfl⟩ | exact ⟨vi ((wh_h hx hy p8 q8 h26).trans (hi_1 h36)), rfl⟩ | exact ⟨vi ((wh_h hx hy p8 q8 h26).trans (hi_2 h36 h46)), rfl⟩ | exact ⟨vi ((wh_h hx hy p8 q8 h26).trans (hi_3 h36 h46 fp h55)), rfl⟩ | exact ⟨vi ((wh_h hx hy p8 q8 h26).trans (hi_4 h36 h46 h55 fq h63)), rfl⟩ | exact ⟨vi ((wh_h hx hy p8 q8 h26).trans (hi_0 h36 h46 h55 h63)), rfl⟩
      · refine J_iconst (v := 2) dX0_whyNot_49 (by decide) ?_
        refine r_int dX0_whyNot_50 ?_
        first | exact ⟨vi (wh_e hx hy h26), rfl⟩ | exact ⟨vi ((wh_h hx hy p8 q8 h26).trans (hi_1 h36)), rfl⟩ | exact ⟨vi ((wh_h hx hy p8 q8 h26).trans (hi_2 h36 h46)), rfl⟩ | exact ⟨vi ((wh_h hx hy p8 q8 h26).trans (hi_3 h36 h46 fp h55)), rfl⟩ | exact ⟨vi ((wh_h hx hy p8 q8 h26).trans (hi_4 h36 h46 h55 fq h63)), rfl⟩ | exact ⟨vi ((wh_h hx hy p8 q8 h26).trans (hi_0 h36 h46 h55 h63)), rfl⟩
    · refine J_iconst (v := 1) dX0_whyNot_39 (by decide) ?_
      refine r_int dX0_whyNot_40 ?_
      first | exact ⟨vi (wh_e hx hy h26), rfl⟩ | exact ⟨vi ((wh_h hx hy p8 q8 h26).trans (hi_1 h36)), rfl⟩ | exact ⟨vi ((wh_h hx hy p8 q8 h26).trans (hi_2 h36 h46)), rfl⟩ | exact ⟨vi ((wh_h hx hy p8 q8 h26).trans (hi_3 h36 h46 fp h55)), rfl⟩ | exact ⟨vi ((wh_h hx hy p8 q8 h26).trans (hi_4 h36 h46 h55 fq h63)), rfl⟩ | exact ⟨vi ((wh_h hx hy p8 q8 h26).trans (hi_0 h36 h46 h55 h63)), rfl⟩
  · refine J_bipush (v := -2) dX0_whyNot_29 (by decide) ?_
    refine r_int dX0_whyNot_31 ?_
    first | exact ⟨vi (wh_e hx hy h26), rfl⟩ | exact ⟨vi ((wh_h hx hy p8 q8 h26).trans (hi_1 h36)), rfl⟩ | exact ⟨vi ((wh_h hx hy p8 q8 h26).trans (hi_2 h36 h46)), rfl⟩ | exact ⟨vi ((wh_h hx hy p8 q8 h26).trans (hi_3 h36 h46 fp h55)), rfl⟩ | exact ⟨vi ((wh_h hx hy p8 q8 h26).trans (hi_4 h36 h46 h55 fq h63)), rfl⟩ | exact ⟨vi ((wh_h hx hy p8 q8 h26).trans (hi_0 h36 h46 h55 h63)), rfl⟩

theorem c_X0_whyNot {X : jX} {ad : Nat → Nat} {m B : Mem} {b : Nat} {s : Rw} {n w : Nat} {x y : Int32} (hb : isB b) (hV : Rv s n w) (hRp : Rep B s n w) : Cd X yX0_whyNot cX0_whyNot 5 (some .int) 1 ad [.ref b, .int x, .int y] (SB m b B) (some (.int (whA s n x y))) (SB m b B) := by
  by_cases hx : jin x 0 (nI n - 1) = 0
  · by_cases hy : jin y 0 (nI n - 1) = 0
    · exact c_whNN hb hV hRp hx hy
    · obtain ⟨q, hq, rfl⟩ := jinB hV.1.1 hy
      exact c_whNV hb hV hRp hx hq
  · obtain ⟨p, hp, rfl⟩ := jinB hV.1.1 hx
    by_cases hy : jin y 0 (nI n - 1) = 0
    · exact c_whVN hb hV hRp hp hy
    · obtain ⟨q, hq, rfl⟩ := jinB hV.1.1 hy
      exact c_whVV hb hV hRp hp hq
theorem hi_pos {s : Rw} {p q : Nat} (h : ¬ hiF s p q = 0) : ¬ hiF s p q < 0 ∧ ¬ hiF s p q ≤ 0 := by
  unfold hiF at h ⊢
  (repeat' split) <;> first | decide | (exfalso; revert h; simp [*])
theorem wh_cases {s : Rw} {n w : Nat} {x y : Int32} (hn8 : n ≤ 8) : (whA s n x y < 0 ∧ seF s n w x y = (whA s n x y, s)) ∨ (¬ whA s n x y < 0 ∧ ¬ whA s n x y ≤ 0 ∧ seF s n w x y = (-5, s)) ∨ (whA s n x y = 0 ∧ ∃ p q, p < n ∧ q < n ∧ p ≠ q ∧ x = nI p ∧ y = nI q ∧ seF s n w x y = if goN s w = 10 then (-4, s) else if nI w = 200 then (-4, s) else (nI w, nwW s w p q)) := by
  by_cases h1 : jin x 0 (nI n - 1) = 0
  · left; unfold whA seF; rw [if_pos h1, if_pos h1]; exact ⟨by decide, rfl⟩
  by_cases h2 : jin y 0 (nI n - 1) = 0
  · left; unfold whA seF; rw [if_neg h1, if_pos h2, if_neg h1, if_pos h2]; exact ⟨by decide, rfl⟩
  obtain ⟨p, hp, rfl⟩ := jinB hn8 h1
  obtain ⟨q, hq, rfl⟩ := jinB hn8 h2
  by_cases h3 : nI p = nI q
  · left; rw [wh_e h1 h2 h3]; refine ⟨by decide, ?_⟩; unfold seF; rw [if_neg h1, if_neg h2, if_pos h3]
  have e8 := cl8 hp hn8
  have e9 := cl8 hq hn8
  have ew : whA s n (nI p) (nI q) = hiF s p q := wh_h h1 h2 (by omega) (by omega) h3
  rw [ew]
  right
  by_cases h4 : hiF s p q = 0
  · right
    refine ⟨h4, p, q, hp, hq, fun g => h3 (by rw [g]), rfl, rfl, ?_⟩
    have e1 : nI p + 8 * nI q = nI (p + 8 * q) := by simp [nI]
    unfold seF nwW
    rw [if_neg h1, if_neg h2, if_neg h3, e8, e9, if_pos h4, e1, nI_succ]
  · left
    obtain ⟨g1, g2⟩ := hi_pos h4
    refine ⟨g1, g2, ?_⟩
    unfold seF
    rw [if_neg h1, if_neg h2, if_neg h3, e8, e9, if_neg h4]
theorem Rep_word {B C : Mem} {s : Rw} {n w p q : Nat} (h : Rep B s n w) (hn : n ≤ 8) (hw : w < 200) (hF : FrW B C) (hW : RpW C (nwW s w p q) (w + 1)) : Rep C (nwW s w p q) n (w + 1) := by
  have e : ∀ x, x ≠ 94 → x ≠ 95 + w → nwW s w p q x = s x := fun x a b => by unfold nwW; rw [upd_at, if_neg b, upd_at, if_neg a]
  exact ⟨RpB_row (RpB_fr h.1 hn hF) (fun k hk => e k (by omega) (by omega)) (fun i k hi hk _ => e _ (by have := fb_lt (show i < 8 by omega) hk; omega) (by have := fb_lt (show i < 8 by omega) hk; omega)), hW, by rw [hF 0 (by decide), e 297 (by decide) (by omega)]; exact h.2.2.1, by rw [hF 0 (by decide), e 298 (by decide) (by omega)]; exact h.2.2.2⟩
set_option maxRecDepth 100000 in
set_option maxHeartbeats 4000000 in
theorem c_seA {X : jX} {ad : Nat → Nat} {m B : Mem} {b : Nat} {s : Rw} {n w : Nat} {x y : Int32} (hb : isB b) (hV : Rv s n w) (hRp : Rep B s n w) (hlt : whA s n x y < 0) (e : seF s n w x y = (whA s n x y, s)) : Cm X yX0_sendWord cX0_sendWord 4 (some .int) 3 ad [.ref b, .int x, .int y] (SB m b B) (fun r9 m9 => r9 = some (.int (seF s n w x y).1) ∧ ∃ B9 w9, m9 = SB m b B9 ∧ Rep B9 (seF s n w x y).2 n w9 ∧ Rv (seF s n w x y).2 n w9) := by
  refine Cm.of (own := RX0) (nm := "sendWord") (by decide +kernel) rfl rfl rfl rfl ?_
  refine J_aload_n dX0_sendWord_0 rfl rfl ?_
  refine J_iload_n dX0_sendWord_1 rfl rfl ?_
  refine J_iload_n dX0_sendWord_2 rfl rfl ?_
  refine cVi wv_X0_131 (c_X0_whyNot hb hV hRp) dX0_sendWord_3 (ob0 (by first | assumption | exact isB1 | exact isB18)) rfl rfl (kk := ?_)
  refine J_istore_n dX0_sendWord_6 rfl rfl rfl ?_
  refine J_iload_n dX0_sendWord_7 rfl rfl ?_
  refine J_if_ge (tgt := 13) dX0_sendWord_8 (by decide) (fun h8 => absurd hlt (Int32.not_lt.mpr h8)) (fun h8 => ?_)
  refine J_iload_n dX0_sendWord_11 rfl rfl ?_
  refine r_int dX0_sendWord_12 ?_
  rw [e]
  exact ⟨rfl, B, w, rfl, hRp, hV⟩

set_option maxRecDepth 100000 in
set_option maxHeartbeats 4000000 in
theorem c_seB {X : jX} {ad : Nat → Nat} {m B : Mem} {b : Nat} {s : Rw} {n w : Nat} {x y : Int32} (hb : isB b) (hV : Rv s n w) (hRp : Rep B s n w) (hlt : ¬ whA s n x y < 0) (hle : ¬ whA s n x y ≤ 0) (e : seF s n w x y = (-5, s)) : Cm X yX0_sendWord cX0_sendWord 4 (some .int) 3 ad [.ref b, .int x, .int y] (SB m b B) (fun r9 m9 => r9 = some (.int (seF s n w x y).1) ∧ ∃ B9 w9, m9 = SB m b B9 ∧ Rep B9 (seF s n w x y).2 n w9 ∧ Rv (seF s n w x y).2 n w9) := by
  refine Cm.of (own := RX0) (nm := "sendWord") (by decide +kernel) rfl rfl rfl rfl ?_
  refine J_aload_n dX0_sendWord_0 rfl rfl ?_
  refine J_iload_n dX0_sendWord_1 rfl rfl ?_
  refine J_iload_n dX0_sendWord_2 rfl rfl ?_
  refine cVi wv_X0_131 (c_X0_whyNot hb hV hRp) dX0_sendWord_3 (ob0 (by first | assumption | exact isB1 | exact isB18)) rfl rfl (kk := ?_)
  refine J_istore_n dX0_sendWord_6 rfl rfl rfl ?_
  refine J_iload_n dX0_sendWord_7 rfl rfl ?_
  refine J_if_ge (tgt := 13) dX0_sendWord_8 (by decide) (fun h8 => ?_) (fun h8 => absurd (Int32.not_lt.mp hlt) h8)
  refine J_iload_n dX0_sendWord_13 rfl rfl ?_
  refine J_if_le (tgt := 22) dX0_sendWord_14 (by decide) (fun h14 => absurd h14 hle) (fun h14 => ?_)
  refine J_bipush (v := -5) dX0_sendWord_17 (by decide) ?_
  refine J_goto (tgt := 31) dX0_sendWord_19 (by decide) ?_
  refine r_int dX0_sendWord_31 ?_
  rw [e]
  exact ⟨rfl, B, w, rfl, hRp, hV⟩

theorem se_full {s : Rw} {w : Nat} {r : Int32 × Rw} (hw : w ≤ 200) (h10 : opA s w ≤ 10) (eg : goN s w = nI (opA s w)) (h : 10 ≤ opA s w ∨ w = 200) : (if goN s w = 10 then (-4, s) else if nI w = 200 then (-4, s) else r) = (-4, s) := by
  rcases h with h | h
  · rw [if_pos (by rw [eg, show opA s w = 10 by omega]; rfl)]
  · split
    · rfl
    · rw [if_pos (by rw [h]; rfl)]
theorem se_room {s : Rw} {w : Nat} {r : Int32 × Rw} (hw : w ≤ 200) (eg : goN s w = nI (opA s w)) (h : opA s w < 10) (h2 : w < 200) : (if goN s w = 10 then (-4, s) else if nI w = 200 then (-4, s) else r) = r := by
  rw [if_neg, if_neg]
  · intro g; have := nI_ij (by omega) (by decide) (show nI w = nI 200 from g); omega
  · rw [eg]; intro g; have := nI_ij (by omega) (by decide) (show nI (opA s w) = nI 10 from g); omega
set_option maxRecDepth 100000 in
set_option maxHeartbeats 4000000 in
theorem c_seC {X : jX} {ad : Nat → Nat} {m B : Mem} {b : Nat} {s : Rw} {n w : Nat} {p q : Nat} (hb : isB b) (hV : Rv s n w) (hRp : Rep B s n w) (hp : p < n) (hq : q < n) (h0 : whA s n (nI p) (nI q) = 0) (e : seF s n w (nI p) (nI q) = if goN s w = 10 then (-4, s) else if nI w = 200 then (-4, s) else (nI w, nwW s w p q)) : Cm X yX0_sendWord cX0_sendWord 4 (some .int) 3 ad [.ref b, .int (nI p), .int (nI q)] (SB m b B) (fun r9 m9 => r9 = some (.int (seF s n w (nI p) (nI q)).1) ∧ ∃ B9 w9, m9 = SB m b B9 ∧ Rep B9 (seF s n w (nI p) (nI q)).2 n w9 ∧ Rv (seF s n w (nI p) (nI q)).2 n w9) := by
  refine Cm.of (own := RX0) (nm := "sendWord") (by decide +kernel) rfl rfl rfl rfl ?_
  have hn8 := hV.1.1
  have hS := hV.1.2.2.1
  have eg := goN_opA hS.1 hS.2.2 hV.2.2.2
  have hw := hS.1.1
  refine J_aload_n dX0_sendWord_0 rfl rfl ?_
  refine J_iload_n dX0_sendWord_1 rfl rfl ?_
  refine J_iload_n dX0_sendWord_2 rfl rfl ?_
  refine cVi wv_X0_131 (c_X0_whyNot hb hV hRp) dX0_sendWord_3 (ob0 (by first | assumption | exact isB1 | exact isB18)) rfl rfl (kk := ?_)
  refine J_topi (fun z9 hz9 => ?_)
  obtain rfl : z9 = 0 := hz9.trans (by exact h0)
  clear hz9
  refine J_istore_n dX0_sendWord_6 rfl rfl rfl ?_
  refine J_iload_n dX0_sendWord_7 rfl rfl ?_
  refine J_if_ge (tgt := 13) dX0_sendWord_8 (by decide) (fun h8 => ?_) (fun h8 => absurd (by decide) h8)
  refine J_iload_n dX0_sendWord_13 rfl rfl ?_
  refine J_if_le (tgt := 22) dX0_sendWord_14 (by decide) (fun h14 => ?_) (fun h14 => absurd (by decide) h14)
  refine J_aload_n dX0_sendWord_22 rfl rfl ?_
  refine gX0_bus (by first | assumption | exact isB1 | exact isB18) wf_X0_33 dX0_sendWord_23 ?_
  refine J_iload_n dX0_sendWord_26 rfl rfl ?_
  refine J_iload_n dX0_sendWord_27 rfl rfl ?_
  refine cVg wv_X0_135 (c_X2_queueWord (p := p) (q := q) hb hRp.2.1 hS.1 hS.2.2 hV.2.2.2.2.1 (by omega) (by omega)) dX0_sendWord_28 (ob2 (by first | assumption | exact isB1 | exact isB18)) rfl rfl (kk := (fun v m9 hf9 => ?_))
  rcases hf9 with ⟨h1, rfl, rfl⟩ | ⟨h1, h2, rfl, B9, rfl, hW9, hF9⟩
  · refine r_int dX0_sendWord_31 ?_
    rw [show seF s n w (nI p) (nI q) = (-4, s) from by rw [e]; exact se_full (by omega) hV.2.2.2.2.1 eg h1]
    exact ⟨rfl, B, w, rfl, hRp, hV⟩
  · refine r_int dX0_sendWord_31 ?_
    have e9 : seF s n w (nI p) (nI q) = (nI w, nwW s w p q) := by rw [e]; exact se_room (by omega) eg h1 h2
    rw [e9]
    exact ⟨rfl, B9, w + 1, rfl, Rep_word hRp hn8 h2 hF9 hW9, Rv_new hV h2 hp hq h1⟩

theorem c_X0_sendWord {X : jX} {ad : Nat → Nat} {m B : Mem} {b : Nat} {s : Rw} {n w : Nat} {x y : Int32} (hb : isB b) (hV : Rv s n w) (hRp : Rep B s n w) : Cm X yX0_sendWord cX0_sendWord 4 (some .int) 3 ad [.ref b, .int x, .int y] (SB m b B) (fun r9 m9 => r9 = some (.int (seF s n w x y).1) ∧ ∃ B9 w9, m9 = SB m b B9 ∧ Rep B9 (seF s n w x y).2 n w9 ∧ Rv (seF s n w x y).2 n w9) := by
  rcases wh_cases (s := s) (w := w) (x := x) (y := y) hV.1.1 with ⟨h1, h2⟩ | ⟨h1, h2, h3⟩ | ⟨h1, p, q, hp, hq, -, rfl, rfl, e⟩
  · exact c_seA hb hV hRp h1 h2
  · exact c_seB hb hV hRp h1 h2 h3
  · exact c_seC hb hV hRp hp hq h1 e
