theorem fgL_ge {s : Rw} {d x : Nat} (hx : 296 ≤ x) (h1 : x ≠ 301) : ∀ j, j ≤ 200 → fgL s d j x = s x := by
  intro j
  induction j with
  | zero => intro _; rfl
  | succ j ih =>
    intro hj
    have e : ∀ v, lostF (fgL s d j) j v x = fgL s d j x := fun v => by unfold lostF; rw [upd_at, if_neg h1, upd_at, if_neg (by omega), upd_at, if_neg (by omega)]
    rw [fgL_st]
    split
    · exact ih (by omega)
    · split
      · exact ih (by omega)
      · rw [e]; exact ih (by omega)
theorem grF_ge {s : Rw} {w i x : Nat} (hw : w ≤ 200) (hi : i < 8) (hx : 296 ≤ x) (h1 : x ≠ 301) : grF s w i x = s x := by
  have e (t : Rw) (k : Nat) (hk : k < 11) (v : Int32) : upd t (fb i k) v x = t x := upd_fbx hi hk (by omega)
  have f (t : Rw) : fgF t w i x = t x := by unfold fgF; rw [e _ _ (by decide), e _ _ (by decide), e _ _ (by decide), fgL_ge hx h1 w hw]
  unfold grF
  split
  · split
    · rw [f, e _ _ (by decide)]
    · rw [e _ _ (by decide)]
  · split
    · split
      · rw [f, e _ _ (by decide)]
      · rw [e _ _ (by decide)]
    · split
      · rfl
      · split
        · split
          · rw [e _ _ (by decide), e _ _ (by decide)]
          · rw [e _ _ (by decide), e _ _ (by decide)]
        · rfl
theorem grL_ge {s : Rw} {w x : Nat} (hw : w ≤ 200) (hx : 296 ≤ x) (h1 : x ≠ 301) : ∀ k, k ≤ 8 → grL s w k x = s x := by
  intro k
  induction k with
  | zero => intro _; rfl
  | succ k ih => intro hk; exact (grF_ge hw (by omega) hx h1).trans (ih (by omega))
theorem tkE_297 {s : Rw} {p : Int32} {w x : Nat} (hS : OkS s w) (hx : x = 297 ∨ x = 298) : tkE s p x = s x := by
  unfold tkE
  split
  · rfl
  · next hb =>
    rcases hS.2.2 with q | ⟨k, hk, h4, h5⟩
    · exact absurd q hb
    · have h200 := hS.1.1
      rw [h4, nI_cl (by omega)]
      exact srF_297 (by omega) hx
theorem tkG_297 {s : Rw} {n w x : Nat} (hw : w ≤ 200) (hx : x = 297 ∨ x = 298) : tkG s n w x = s x := by
  unfold tkG
  split
  · split
    · exact getF_297 hw hx
    · rfl
  · rfl
/-- time and plugs behind a tick -/
theorem tkF_297 {s : Rw} {n w : Nat} (h : Rv s n w) : tkF s n w 297 = s 297 + 1 ∧ tkF s n w 298 = if pgL s n 5 = 0 then s 298 + 0 else s 298 + 1 := by
  have hn8 := h.1.1
  have hw := h.1.2.2.1.1.1
  have h3 := tk_3 h
  have h4 := tk_4 h
  have e : ∀ x, x = 297 ∨ x = 298 → r5 s n w x = tkB (r1 s n) (pgL s n 5) x := fun x hx => by
    unfold r5
    rw [tkG_297 hw hx]
    unfold r4
    rw [tkE_297 h3.1 hx]
    unfold r3
    rw [grL_ge hw (by omega) (by omega) n hn8]
    unfold r2
    rw [pwL_out (by omega) hn8]
  rw [tkF_r]
  constructor
  · rw [upd_same, e 297 (Or.inl rfl), tkB_out (by decide)]
    unfold r1
    rw [mvL_out (by decide) hn8]
  · rw [upd_at, if_neg (by decide), e 298 (Or.inr rfl)]
    unfold tkB r1
    rw [upd_same, mvL_out (by decide) hn8]
theorem RpB_t {B : Mem} {s : Rw} {n k : Nat} {v : Int32} (h : RpB B s n) (hn : n ≤ 8) (hk : k ≠ 3) : RpB (up B 0 k v) s n := RpB_blk h hn (by rw [up_rr, if_neg (fun g => hk g.symm)]) (fun r h1 _ => up_ne (by omega))
theorem RpW_t {B : Mem} {s : Rw} {w k : Nat} {v : Int32} (h : RpW B s w) : RpW (up B 0 k v) s w := RpW_blk h (fun r hr => up_ne (by omega))
def TkFin (m : Mem) (b : Nat) (B : Mem) (t : Rw) (n w : Nat) (v : Option Value) (m9 : Mem) : Prop := v = none ∧ ∃ B9, m9 = SB m b B9 ∧ RpB B9 t n ∧ RpW B9 t w ∧ B9 0 4 = B 0 4 + 1 ∧ B9 0 5 = B 0 5
section TE
variable {m B B9 : Mem} {b : Nat} {s : Rw} {n w : Nat}
theorem teA (hn8 : n ≤ 8) (hR : RpB B s n) (hW : RpW B s w) (e : tkG s n w = s) : TkFin m b B (tkG s n w) n w none (SB m b (up B 0 4 (B 0 4 + 1))) := by
  rw [e]
  exact ⟨rfl, _, rfl, RpB_t hR hn8 (by decide), RpW_t hW, by rw [up_rr, if_pos rfl], by rw [up_rr, if_neg (by decide)]⟩
theorem teB (hn8 : n ≤ 8) (hR : RpB B s n) (hW : RpW B9 (getF s w) w) (hF : FrW B B9) (e : tkG s n w = getF s w) : TkFin m b B (tkG s n w) n w none (SB m b (up B9 0 4 (B9 0 4 + 1))) := by
  rw [e]
  have hR9 : RpB B9 (getF s w) n := RpB_sr hR hn8 hF (fun x hx _ => getF_low hx)
  exact ⟨rfl, _, rfl, RpB_t hR9 hn8 (by decide), RpW_t hW, by rw [up_rr, if_pos rfl, hF 0 (by decide)], by rw [up_rr, if_neg (by decide), hF 0 (by decide)]⟩
end TE
theorem tkG_a {s : Rw} {n w : Nat} (h : ¬ s 295 = -6) : tkG s n w = s := by unfold tkG; rw [if_neg h]
theorem tkG_b {s : Rw} {n w : Nat} (h : s 295 = -6) (h2 : ¬ isH s n = 0) : tkG s n w = s := by unfold tkG; rw [if_pos h, if_neg h2]
theorem tkG_c {s : Rw} {n w : Nat} (h : s 295 = -6) (h2 : isH s n = 0) : tkG s n w = getF s w := by unfold tkG; rw [if_pos h, if_pos h2]
set_option maxRecDepth 100000 in
set_option maxHeartbeats 4000000 in
theorem tcEnd {X : jX} {ad : Nat → Nat} {m B : Mem} {b : Nat} {s : Rw} {n w : Nat} {p : Int32} (hb : isB b) (hn8 : n ≤ 8) (hS : OkS s w) (hI : Iw s n w) (hf : ∀ i, i < n → Bf s i) (hg : Sg s) (hR : RpB B s n) (hW : RpW B s w) : Jg X RX0 cX0_tick 2 (none) "tick" 3 0 0 (QF X ad (TkFin m b B (tkG s n w) n w)) ad 0 0 50 [(0, .ref b), (1, .int p)] [] (WS X ad (SB m b B)) := by
  have hw := hS.1.1
  obtain ⟨A, hA, hkA, hbits⟩ := kS_spec (s := s) n hn8
  have h10 : (wl s w).length ≤ 10 := by have := hI.2.1; unfold opA at this; omega
  refine J_aload_n dX0_tick_50 rfl rfl ?_
  refine gX0_bus (by first | assumption | exact isB1 | exact isB18) wf_X0_33 dX0_tick_51 ?_
  refine gB_onBus (by first | assumption | exact isB1 | exact isB18) wf_X0_167 dX0_tick_54 ?_
  refine J_topi (fun z9 hz9 => ?_)
  obtain rfl : z9 = (s 295) := hz9.trans (by exact hW.2.2.2.1)
  clear hz9
  refine J_bipush (v := -6) dX0_tick_57 (by decide) ?_
  refine J_icmp_ne (tgt := 86) dX0_tick_59 (by decide) (fun h59 => ?_) (fun h59 => ?_)
  · refine J_aload_n dX0_tick_86 rfl rfl ?_
    refine J_dup dX0_tick_87 rfl ?_
    refine gB_time (by first | assumption | exact isB1 | exact isB18) wf_X0_54 dX0_tick_88 ?_
    refine J_iconst (v := 1) dX0_tick_91 (by decide) ?_
    refine J_iadd dX0_tick_92 ?_
    refine pB_time (by first | assumption | exact isB1 | exact isB18) wf_X0_54 dX0_tick_93 ?_
    refine r_void dX0_tick_96 ?_
    first | exact teA hn8 hR hW (tkG_a h59) | exact teA hn8 hR hW (tkG_b h59 h66) | exact teB hn8 hR hW9 hF9 (tkG_c h59 h66)
  · refine J_aload_n dX0_tick_62 rfl rfl ?_
    refine cVi wv_X0_170 (c_X0_isHeld hb hR hn8 hg.1) dX0_tick_63 (ob0 (by first | assumption | exact isB1 | exact isB18)) rfl rfl (kk := ?_)
    refine J_if_ne (tgt := 86) dX0_tick_66 (by decide) (fun h66 => ?_) (fun h66 => ?_)
    · refine J_aload_n dX0_tick_86 rfl rfl ?_
      refine J_dup dX0_tick_87 rfl ?_
      refine gB_time (by first | assumption | exact isB1 | exact isB18) wf_X0_54 dX0_tick_88 ?_
      refine J_iconst (v := 1) dX0_tick_91 (by decide) ?_
      refine J_iadd dX0_tick_92 ?_
      refine pB_time (by first | assumption | exact isB1 | exact isB18) wf_X0_54 dX0_tick_93 ?_
      refine r_void dX0_tick_96 ?_
      first | exact teA hn8 hR hW (tkG_a h59) | exact teA hn8 hR hW (tkG_b h59 h66) | exact teB hn8 hR hW9 hF9 (tkG_c h59 h66)
    · refine J_aload_n dX0_tick_69 rfl rfl ?_
      refine gX0_bus (by first | assumption | exact isB1 | exact isB18) wf_X0_33 dX0_tick_70 ?_
      refine J_aload_n dX0_tick_73 rfl rfl ?_
      refine cVi wv_X0_173 (c_X0_knownSet hb hR hn8) dX0_tick_74 (ob0 (by first | assumption | exact isB1 | exact isB18)) rfl rfl (kk := ?_)
      refine J_topi (fun z9 hz9 => ?_)
      obtain rfl : z9 = (nI A) := hz9.trans (by exact hkA)
      clear hz9
      refine J_aload_n dX0_tick_77 rfl rfl ?_
      refine gX0_settings (by first | assumption | exact isB1 | exact isB18) wf_X0_18 dX0_tick_78 ?_
      refine J_iconst (v := 2) dX0_tick_81 (by decide) ?_
      refine rB_set hb 2 (by decide) rfl dX0_tick_82 ?_
      refine J_topi (fun z9 hz9 => ?_)
      obtain rfl : z9 = (s 2) := hz9.trans (by exact hR.2.1 2 (by decide))
      clear hz9
      refine cVg wv_X0_176 (c_X2_takeNextWord (n := n) (A := A) hb hW hS.1 h10 hn8 (fun k hk => ⟨(hI.1 k hk).1, (hI.1 k hk).2.1⟩) hf hbits) dX0_tick_83 (ob2 (by first | assumption | exact isB1 | exact isB18)) rfl rfl (kk := (fun v m9 hf9 => ?_))
      obtain ⟨rfl, B9, rfl, hW9, hF9⟩ := hf9
      refine J_aload_n dX0_tick_86 rfl rfl ?_
      refine J_dup dX0_tick_87 rfl ?_
      refine gB_time (by first | assumption | exact isB1 | exact isB18) wf_X0_54 dX0_tick_88 ?_
      refine J_iconst (v := 1) dX0_tick_91 (by decide) ?_
      refine J_iadd dX0_tick_92 ?_
      refine pB_time (by first | assumption | exact isB1 | exact isB18) wf_X0_54 dX0_tick_93 ?_
      refine r_void dX0_tick_96 ?_
      first | exact teA hn8 hR hW (tkG_a h59) | exact teA hn8 hR hW (tkG_b h59 h66) | exact teB hn8 hR hW9 hF9 (tkG_c h59 h66)

/-- a tick's end from the serving on -/
def TsFin (m : Mem) (b : Nat) (B : Mem) (s : Rw) (p : Int32) (n w : Nat) (v : Option Value) (m9 : Mem) : Prop := v = none ∧ ∃ B9, m9 = SB m b B9 ∧ RpB B9 (tkG (tkE s p) n w) n ∧ RpW B9 (tkG (tkE s p) n w) w ∧ B9 0 4 = B 0 4 + 1 ∧ B9 0 5 = if p = 0 then B 0 5 + 0 else B 0 5 + 1
theorem tkE_free {s : Rw} {p : Int32} (h : s 295 = -6) : tkE s p = s := by unfold tkE; rw [if_pos h]
theorem tkE_busy {s : Rw} {p : Int32} {k : Nat} (hk : k < 200) (h : s 295 = nI k) : tkE s p = srF s p k := by unfold tkE; rw [h, if_neg (nI_m6 hk), nI_cl (by omega)]
theorem Ts_of {m B C : Mem} {b : Nat} {s t : Rw} {p : Int32} {n w : Nat} (et : tkE s p = t) (h4 : C 0 4 = B 0 4) (h5 : C 0 5 = if p = 0 then B 0 5 + 0 else B 0 5 + 1) : ∀ v m9, TkFin m b C (tkG t n w) n w v m9 → TsFin m b B s p n w v m9 := by
  rintro v m9 ⟨hv, B9, h1, h2, h3, h6, h7⟩
  subst et
  exact ⟨hv, B9, h1, h2, h3, by rw [h6, h4], by rw [h7, h5]⟩
theorem Sg_sr {s : Rw} {p : Int32} {k : Nat} (h : Sg s) : Sg (srF s p k) := Sg_same h (fun x hx => srF_low (by omega))
theorem Bf_sr {s : Rw} {p : Int32} {k i : Nat} (hi : i < 8) (h : Bf s i) : Bf (srF s p k) i := Bf_same h (srF_fld hi (by decide) (by decide)) (srF_fld hi (by decide) (by decide)) (srF_fld hi (by decide) (by decide))
theorem RpB_sv {B C : Mem} {s : Rw} {p : Int32} {n k : Nat} (h : RpB B s n) (hn : n ≤ 8) (he : FrW B C) : RpB C (srF s p k) n := RpB_sr h hn he (fun x hx h9 => srF_94 hx h9)
set_option maxRecDepth 100000 in
set_option maxHeartbeats 4000000 in
theorem tsA {X : jX} {ad : Nat → Nat} {m B : Mem} {b : Nat} {s : Rw} {n w : Nat} {p : Int32} (hb : isB b) (hn8 : n ≤ 8) (hS : OkS s w) (hI : Iw s n w) (hf : ∀ i, i < n → Bf s i) (hg : Sg s) (hR : RpB B s n) (hW : RpW B s w) (hp : p = 0) (h6 : s 295 = -6) : Jg X RX0 cX0_tick 2 (none) "tick" 3 0 0 (QF X ad (TsFin m b B s p n w)) ad 0 0 13 [(0, .ref b), (1, .int p)] [] (WS X ad (SB m b B)) := by
  have hw := hS.1.1
  refine J_iload_n dX0_tick_13 rfl rfl ?_
  refine J_if_eq (tgt := 43) dX0_tick_14 (by decide) (fun h14 => ?_) (fun h14 => absurd hp h14)
  refine J_aload_n dX0_tick_43 rfl rfl ?_
  refine gX0_bus (by first | assumption | exact isB1 | exact isB18) wf_X0_33 dX0_tick_44 ?_
  refine cVv wv_X0_164 (c_carry0 hb (hW.2.2.2.1.trans h6)) dX0_tick_47 (ob2 (by first | assumption | exact isB1 | exact isB18)) rfl rfl (kk := ?_)
  exact Jg_fin (Ts_of (tkE_free h6) rfl (by rw [if_pos hp, Int32.add_zero])) (tcEnd hb hn8 hS hI hf hg hR hW)

set_option maxRecDepth 100000 in
set_option maxHeartbeats 4000000 in
theorem tsB {X : jX} {ad : Nat → Nat} {m B : Mem} {b : Nat} {s : Rw} {n w : Nat} {p : Int32} (hb : isB b) (hn8 : n ≤ 8) (hS : OkS s w) (hI : Iw s n w) (hf : ∀ i, i < n → Bf s i) (hg : Sg s) (hR : RpB B s n) (hW : RpW B s w) (hp : p = 0) {k : Nat} (hk : k < w) (h6 : s 295 = nI k) (h768 : wv s k < 768) : Jg X RX0 cX0_tick 2 (none) "tick" 3 0 0 (QF X ad (TsFin m b B s p n w)) ad 0 0 13 [(0, .ref b), (1, .int p)] [] (WS X ad (SB m b B)) := by
  have hw := hS.1.1
  refine J_iload_n dX0_tick_13 rfl rfl ?_
  refine J_if_eq (tgt := 43) dX0_tick_14 (by decide) (fun h14 => ?_) (fun h14 => absurd hp h14)
  refine J_aload_n dX0_tick_43 rfl rfl ?_
  refine gX0_bus (by first | assumption | exact isB1 | exact isB18) wf_X0_33 dX0_tick_44 ?_
  refine cVg wv_X0_164 (c_carry1 (k := k) hb hW hw hS.1 hk h6 ((hI.1 k hk).2.2.2 h6) (hI.2.2.1.resolve_left (by rw [h6]; exact nI_m6 (by omega)))) dX0_tick_47 (ob2 (by first | assumption | exact isB1 | exact isB18)) rfl rfl (kk := (fun v m9 hf9 => ?_))
  obtain ⟨rfl, B9, rfl, hW9, hF9⟩ := hf9
  subst hp
  exact Jg_fin (Ts_of (tkE_busy (by omega) h6) (by rw [hF9 0 (by decide)]) (by rw [if_pos rfl, Int32.add_zero, hF9 0 (by decide)])) (tcEnd hb hn8 (OkS_srF hS hk h6 h768) (Iw_srF hS.1 hI hn8 hk h6 h768 hg.2.2.1) (fun i hi => Bf_sr (by omega) (hf i hi)) (Sg_sr hg) (RpB_sv hR hn8 hF9) hW9)

set_option maxRecDepth 100000 in
set_option maxHeartbeats 4000000 in
theorem tsC {X : jX} {ad : Nat → Nat} {m B : Mem} {b : Nat} {s : Rw} {n w : Nat} {p : Int32} (hb : isB b) (hn8 : n ≤ 8) (hS : OkS s w) (hI : Iw s n w) (hf : ∀ i, i < n → Bf s i) (hg : Sg s) (hR : RpB B s n) (hW : RpW B s w) (hp : ¬ p = 0) (h6 : s 295 = -6) : Jg X RX0 cX0_tick 2 (none) "tick" 3 0 0 (QF X ad (TsFin m b B s p n w)) ad 0 0 13 [(0, .ref b), (1, .int p)] [] (WS X ad (SB m b B)) := by
  have hw := hS.1.1
  refine J_iload_n dX0_tick_13 rfl rfl ?_
  refine J_if_eq (tgt := 43) dX0_tick_14 (by decide) (fun h14 => absurd h14 hp) (fun h14 => ?_)
  refine J_aload_n dX0_tick_17 rfl rfl ?_
  refine J_dup dX0_tick_18 rfl ?_
  refine gB_plugs (by first | assumption | exact isB1 | exact isB18) wf_X0_57 dX0_tick_19 ?_
  refine J_iconst (v := 1) dX0_tick_22 (by decide) ?_
  refine J_iadd dX0_tick_23 ?_
  refine pB_plugs (by first | assumption | exact isB1 | exact isB18) wf_X0_57 dX0_tick_24 ?_
  refine J_aload_n dX0_tick_27 rfl rfl ?_
  refine gX0_bus (by first | assumption | exact isB1 | exact isB18) wf_X0_33 dX0_tick_28 ?_
  refine J_aload_n dX0_tick_31 rfl rfl ?_
  refine gX0_settings (by first | assumption | exact isB1 | exact isB18) wf_X0_18 dX0_tick_32 ?_
  refine J_iconst (v := 2) dX0_tick_35 (by decide) ?_
  refine rB_set hb 2 (by decide) rfl dX0_tick_36 ?_
  refine J_topi (fun z9 hz9 => ?_)
  obtain rfl : z9 = (s 2) := hz9.trans (by rw [up_ne (by decide)]; exact hR.2.1 2 (by decide))
  clear hz9
  refine cVv wv_X0_160 (c_hurt0 hb (by rw [up_ne (by decide)]; exact hW.2.2.2.1.trans h6)) dX0_tick_37 (ob2 (by first | assumption | exact isB1 | exact isB18)) rfl rfl (kk := ?_)
  refine J_goto (tgt := 50) dX0_tick_40 (by decide) ?_
  exact Jg_fin (Ts_of (tkE_free h6) (by rw [up_rr, if_neg (by decide)]) (by rw [up_rr, if_pos rfl, if_neg hp])) (tcEnd hb hn8 hS hI hf hg (RpB_t hR hn8 (by decide)) (RpW_t hW))

set_option maxRecDepth 100000 in
set_option maxHeartbeats 4000000 in
theorem tsD {X : jX} {ad : Nat → Nat} {m B : Mem} {b : Nat} {s : Rw} {n w : Nat} {p : Int32} (hb : isB b) (hn8 : n ≤ 8) (hS : OkS s w) (hI : Iw s n w) (hf : ∀ i, i < n → Bf s i) (hg : Sg s) (hR : RpB B s n) (hW : RpW B s w) (hp : ¬ p = 0) {k : Nat} (hk : k < w) (h6 : s 295 = nI k) (h768 : wv s k < 768) : Jg X RX0 cX0_tick 2 (none) "tick" 3 0 0 (QF X ad (TsFin m b B s p n w)) ad 0 0 13 [(0, .ref b), (1, .int p)] [] (WS X ad (SB m b B)) := by
  have hw := hS.1.1
  refine J_iload_n dX0_tick_13 rfl rfl ?_
  refine J_if_eq (tgt := 43) dX0_tick_14 (by decide) (fun h14 => absurd h14 hp) (fun h14 => ?_)
  refine J_aload_n dX0_tick_17 rfl rfl ?_
  refine J_dup dX0_tick_18 rfl ?_
  refine gB_plugs (by first | assumption | exact isB1 | exact isB18) wf_X0_57 dX0_tick_19 ?_
  refine J_iconst (v := 1) dX0_tick_22 (by decide) ?_
  refine J_iadd dX0_tick_23 ?_
  refine pB_plugs (by first | assumption | exact isB1 | exact isB18) wf_X0_57 dX0_tick_24 ?_
  refine J_aload_n dX0_tick_27 rfl rfl ?_
  refine gX0_bus (by first | assumption | exact isB1 | exact isB18) wf_X0_33 dX0_tick_28 ?_
  refine J_aload_n dX0_tick_31 rfl rfl ?_
  refine gX0_settings (by first | assumption | exact isB1 | exact isB18) wf_X0_18 dX0_tick_32 ?_
  refine J_iconst (v := 2) dX0_tick_35 (by decide) ?_
  refine rB_set hb 2 (by decide) rfl dX0_tick_36 ?_
  refine J_topi (fun z9 hz9 => ?_)
  obtain rfl : z9 = (s 2) := hz9.trans (by rw [up_ne (by decide)]; exact hR.2.1 2 (by decide))
  clear hz9
  refine cVg wv_X0_160 (c_hurt1 (k := k) (p := p) hb (RpW_t hW) hw hS.1 hk h6 ((hI.1 k hk).2.2.2 h6) h768 hp) dX0_tick_37 (ob2 (by first | assumption | exact isB1 | exact isB18)) rfl rfl (kk := (fun v m9 hf9 => ?_))
  obtain ⟨rfl, B9, rfl, hW9, hF9⟩ := hf9
  refine J_goto (tgt := 50) dX0_tick_40 (by decide) ?_
  exact Jg_fin (Ts_of (tkE_busy (by omega) h6) (by rw [hF9 0 (by decide), up_rr, if_neg (by decide)]) (by rw [hF9 0 (by decide), up_rr, if_pos rfl, if_neg hp])) (tcEnd hb hn8 (OkS_srF hS hk h6 h768) (Iw_srF hS.1 hI hn8 hk h6 h768 hg.2.2.1) (fun i hi => Bf_sr (by omega) (hf i hi)) (Sg_sr hg) (RpB_sv (RpB_t hR hn8 (by decide)) hn8 hF9) hW9)

theorem tkR_of {B C : Mem} {s : Rw} {n w : Nat} (hV : Rv s n w) (hRp : Rep B s n w) (h0 : C 0 = B 0) {m : Mem} {b : Nat} : ∀ v m9, TsFin m b C (r3 s n w) (pgL s n 5) n w v m9 → v = none ∧ ∃ B9, m9 = SB m b B9 ∧ Rep B9 (tkF s n w) n w := by
  rintro v m9 ⟨hv, B9, h1, h2, h3, h4, h5⟩
  obtain ⟨-, -, g4, g5⟩ := hRp
  obtain ⟨t1, t2⟩ := tkF_297 hV
  have o : ∀ x, x ≠ 297 → tkF s n w x = r5 s n w x := fun x hx => by rw [tkF_r, upd_at, if_neg hx]
  have e5 : ∀ x, x ≠ 297 → tkF s n w x = tkG (tkE (r3 s n w) (pgL s n 5)) n w x := o
  refine ⟨hv, B9, h1, RpB_row h2 (fun k hk => e5 k (by omega)) (fun i k hi hk _ => e5 _ (by have := fb_lt (show i < 8 by have := hV.1.1; omega) hk; omega)), ?_, ?_, ?_⟩
  · obtain ⟨g1, g2, g3, g4, g5, g6, g7, g8⟩ := h3
    have hw := hV.1.2.2.1.1.1
    exact ⟨g1, fun k hk => RWd_same (g2 k hk) (e5 _ (by omega)) rfl rfl rfl rfl, by rw [wl_same (fun k hk => e5 _ (by omega))]; exact g3, by rw [e5 295 (by decide)]; exact g4, by rw [e5 295 (by decide), e5 296 (by decide)]; exact g5, by rw [e5 300 (by decide)]; exact g6, by rw [e5 301 (by decide)]; exact g7, by rw [e5 299 (by decide)]; exact g8⟩
  · rw [h4, t1, h0, g4]
  · rw [h5, t2, h0, g5]
set_option maxRecDepth 100000 in
set_option maxHeartbeats 4000000 in
theorem c_X0_tick {X : jX} {ad : Nat → Nat} {m B : Mem} {b : Nat} {s : Rw} {n w : Nat}  (hb : isB b) (hV : Rv s n w) (hRp : Rep B s n w) : Cm X yX0_tick cX0_tick 2 (none) 3 ad [.ref b] (SB m b B) (fun v m9 => v = none ∧ ∃ B9, m9 = SB m b B9 ∧ Rep B9 (tkF s n w) n w) := by
  refine Cm.of (own := RX0) (nm := "tick") (by decide +kernel) rfl rfl rfl rfl ?_
  obtain ⟨hR, hW, -, -⟩ := id hRp
  obtain ⟨hA, hf, hg, hI⟩ := id hV
  obtain ⟨hn8, hn, hS, hM, hZ⟩ := hA
  have hw := hS.1.1
  obtain ⟨a1, a2, a3, a4, a5, a6, a7⟩ := tk_1 hV
  obtain ⟨b1, b2, b3, b4, b5, b6, b7⟩ := tk_2 hV
  obtain ⟨c1, c2, c3, c4, c5, c6⟩ := tk_3 hV
  refine J_aload_n dX0_tick_0 rfl rfl ?_
  refine cVg wv_X0_151 (c_X0_moveBoards hb hR hn8 hM) dX0_tick_1 (ob0 (by first | assumption | exact isB1 | exact isB18)) rfl rfl (kk := (fun v m9 hf9 => ?_))
  obtain ⟨rfl, B1, rfl, hR1, hF1⟩ := hf9
  have hR1b : RpB B1 (tkB (r1 s n) (pgL s n 5)) n := RpB_row hR1 (fun k hk => tkB_out (by omega)) (fun i k hi hk _ => tkB_out (by have := fb_lt (show i < 8 by omega) hk; omega))
  have hBb : ∀ i, i < n → Bf (tkB (r1 s n) (pgL s n 5)) i := fun i hi => Bf_same (a3 i hi) (tkB_out (by have := fb_lt (show i < 8 by omega) (show 5 < 11 by decide); omega)) (tkB_out (by have := fb_lt (show i < 8 by omega) (show 6 < 11 by decide); omega)) (tkB_out (by have := fb_lt (show i < 8 by omega) (show 7 < 11 by decide); omega))
  refine J_istore_n dX0_tick_4 rfl rfl rfl ?_
  refine J_aload_n dX0_tick_5 rfl rfl ?_
  refine cVg wv_X0_154 (c_X0_powerBoards hb hR1b hn8 (OkM_same a5 (fun i l hi hl => tkB_out (by have := fb_lt (show i < 8 by omega) (show l < 11 by omega); omega))) hBb (Sg_same a4 (fun k hk => tkB_out (by omega)))) dX0_tick_6 (ob0 (by first | assumption | exact isB1 | exact isB18)) rfl rfl (kk := (fun v m9 hf9 => ?_))
  obtain ⟨rfl, B2, rfl, hR2, hF2⟩ := hf9
  have hW2 : RpW B2 (r2 s n) w := by
    obtain ⟨g1, g2, g3, g4, g5, g6, g7, g8⟩ := RpW_blk hW (C := B2) (fun r hr => (hF2 r (Or.inr hr)).trans (hF1 r (Or.inr hr)))
    exact ⟨g1, fun k hk => RWd_same (g2 k hk) (b7 _ (by omega) (by omega)) rfl rfl rfl rfl, by rw [wl_same (fun k hk => b7 _ (by omega) (by omega))]; exact g3, by rw [b7 295 (by decide) (by decide)]; exact g4, by rw [b7 295 (by decide) (by decide), b7 296 (by decide) (by decide)]; exact g5, by rw [b7 300 (by decide) (by decide)]; exact g6, by rw [b7 301 (by decide) (by decide)]; exact g7, by rw [b7 299 (by decide) (by decide)]; exact g8⟩
  refine J_aload_n dX0_tick_9 rfl rfl ?_
  refine cVg wv_X0_157 (c_X0_greetBoards (s := r2 s n) hb hR2 hW2 hn8 b1 b2 b5.1 b3) dX0_tick_10 (ob0 (by first | assumption | exact isB1 | exact isB18)) rfl rfl (kk := (fun v m9 hf9 => ?_))
  obtain ⟨rfl, B3, rfl, hR3, hW3, hF3⟩ := hf9
  have h0 : B3 0 = B 0 := (hF3 0 (by decide)).trans ((hF2 0 (Or.inl (by decide))).trans (hF1 0 (Or.inl (by decide))))
  refine Jg_fin (tkR_of hV hRp h0) ?_
  rcases c1.2.2 with h6 | ⟨k, hk, h6, h7⟩
  · by_cases hp : pgL s n 5 = 0
    · exact tsA hb hn8 c1 c2 c3 c4 hR3 hW3 hp h6
    · exact tsC hb hn8 c1 c2 c3 c4 hR3 hW3 hp h6
  · by_cases hp : pgL s n 5 = 0
    · exact tsB hb hn8 c1 c2 c3 c4 hR3 hW3 hp hk h6 h7
    · exact tsD hb hn8 c1 c2 c3 c4 hR3 hW3 hp hk h6 h7

