theorem RpW_cut {B : Mem} {s t : Rw} {w : Nat} (h : RpW B s w) (hw : w ≤ 200) (ht : ∀ x, 94 ≤ x → x < 302 → t x = s x) : RpW B t w := by
  obtain ⟨g1, g2, g3, g4, g5, g6, g7, g8⟩ := h
  refine ⟨g1, fun k hk => RWd_same (g2 k hk) (ht _ (by omega) (by omega)) rfl rfl rfl rfl, by rw [wl_same (s := s) (fun k _ => ht _ (by omega) (by omega))]; exact g3, ?_, ?_, ?_, ?_, ?_⟩
  · rw [ht 295 (by decide) (by decide)]; exact g4
  · rw [ht 295 (by decide) (by decide), ht 296 (by decide) (by decide)]; exact g5
  · rw [ht 300 (by decide) (by decide)]; exact g6
  · rw [ht 301 (by decide) (by decide)]; exact g7
  · rw [ht 299 (by decide) (by decide)]; exact g8
/-- only the first 302 numbers of a row count -/
theorem Rv_cut {s t : Rw} {n w : Nat} (h : Rv s n w) (ht : ∀ x, x < 302 → t x = s x) : Rv t n w := by
  obtain ⟨⟨hn8, hn, hS, hM, hZ⟩, hf, hg, hI⟩ := h
  have hw := hS.1.1
  have ef : ∀ i l, i < 8 → l < 11 → t (fb i l) = s (fb i l) := fun i l hi hl => ht _ (fb_302 hi hl)
  exact ⟨⟨hn8, (ht 5 (by decide)).trans hn, OkS_out hS (fun x _ hx => ht x (by omega)), OkM_same hM (fun i l hi hl => ef i l (by omega) (by omega)), Zr_same hZ (fun i l _ hi _ hl _ => ef i l hi hl)⟩, fun i hi => Bf_same (hf i hi) (ef i 5 (by omega) (by decide)) (ef i 6 (by omega) (by decide)) (ef i 7 (by omega) (by decide)), Sg_same hg (fun k hk => ht k (by omega)), Iw_out hI hw (fun x _ hx => ht x (by omega)) (fun i hi => ef i 9 hi (by decide))⟩
theorem Rep_cut {B : Mem} {s t : Rw} {n w : Nat} (h : Rep B s n w) (hn : n ≤ 8) (hw : w ≤ 200) (ht : ∀ x, x < 302 → t x = s x) : Rep B t n w := by
  obtain ⟨h1, h2, h3, h4⟩ := h
  exact ⟨RpB_row h1 (fun k hk => ht k (by omega)) (fun i k hi hk _ => ht _ (fb_302 (by omega) hk)), RpW_cut h2 hw (fun x _ hx => ht x hx), by rw [ht 297 (by decide)]; exact h3, by rw [ht 298 (by decide)]; exact h4⟩
/-- a block shows a row that both systems can go on from -/
def Sh2 (m : Mem) (b : Nat) (s : Rw) : Prop := ∃ n w, Rep (blk m b) s n w ∧ Rv s n w
theorem Sh2_cut {m : Mem} {b : Nat} {s t : Rw} (h : Sh2 m b s) (ht : ∀ x, x < 302 → t x = s x) : Sh2 m b t := by
  obtain ⟨n, w, h1, h2⟩ := h
  exact ⟨n, w, Rep_cut h1 h2.1.1 h2.1.2.2.1.1.1 ht, Rv_cut h2 ht⟩
theorem Sh2_mem {m m' : Mem} {b : Nat} {s : Rw} (h : Sh2 m b s) (he : ∀ r, r < 17 → m' (b + r) = m (b + r)) : Sh2 m' b s := by
  obtain ⟨n, w, ⟨⟨g1, g2, g3⟩, h2, h3, h4⟩, hv⟩ := h
  have e : ∀ r, r < 17 → blk m' b r = blk m b r := fun r hr => he r hr
  have hn8 := hv.1.1
  obtain ⟨t1, t2, t3, t4, t5, t6, t7, t8⟩ := h2
  refine ⟨n, w, ⟨⟨by rw [e 0 (by decide)]; exact g1, fun k hk => by rw [e 1 (by decide)]; exact g2 k hk, fun i hi => ⟨fun k hk => by rw [e _ (by omega)]; exact (g3 i hi).1 k hk, by rw [e _ (by omega)]; exact (g3 i hi).2⟩⟩, ⟨by rw [e 11 (by decide)]; exact t1, fun k hk => RWd_same (t2 k hk) rfl (by rw [e 12 (by decide)]) (by rw [e 13 (by decide)]) (by rw [e 14 (by decide)]) (by rw [e 15 (by decide)]), QL_same t3 (by rw [e 11 (by decide)]) (e 16 (by decide)), by rw [e 11 (by decide)]; exact t4, by rw [e 11 (by decide)]; exact t5, by rw [e 11 (by decide)]; exact t6, by rw [e 11 (by decide)]; exact t7, by rw [e 11 (by decide)]; exact t8⟩, by rw [e 0 (by decide)]; exact h3, by rw [e 0 (by decide)]; exact h4⟩, hv⟩
/-- the history's block of a rank -/
def hbk (o r : Nat) : Nat := 35 + 17 * ((o + r) % 7)
theorem hbk_isB {o r : Nat} : isB (hbk o r) := ⟨2 + (o + r) % 7, by omega, by unfold hbk; omega⟩
theorem hbk_ne {o r q : Nat} (h : r < q) (hq : q < 7) : hbk o r ≠ hbk o q := by unfold hbk; omega
/-- the history's rows -/
def CHi (m : Mem) (o q : Nat) (rows : Nat → Rw) : Prop := o < 7 ∧ q < 7 ∧ m 188 1 = nI o ∧ m 188 2 = nI q ∧ ∀ r, r < q → Sh2 m (hbk o r) (rows r)
/-- the saved rows -/
def CSa (m : Mem) (srows : Nat → Rw) : Prop := ∀ t, t < 2 → m 194 t = srows t 302 ∧ (srows t 302 = 0 ∨ (srows t 302 = 1 ∧ Sh2 m (154 + 17 * t) (srows t)))
/-- the pad -/
def CPa (m : Mem) (P : Nat → Int32) (L : Nat) : Prop := L ≤ 80 ∧ m 190 1 = nI L ∧ ∀ j, j < L → m 191 j = P j
/-- the class's state shows: the row, the history's rows, the saved rows, the pad -/
def CSt (m : Mem) (s : Rw) (o q : Nat) (rows srows : Nat → Rw) (P : Nat → Int32) (L : Nat) : Prop := Sh2 m 1 s ∧ CHi m o q rows ∧ CSa m srows ∧ CPa m P L
theorem isBv {t : Nat} (ht : t < 2) : isB (154 + 17 * t) := ⟨9 + t, by omega, by omega⟩
theorem blocks_apart {b b2 r : Nat} (h : isB b) (h2 : isB b2) (hne : b ≠ b2) (hr : r < 17) : b + r < b2 ∨ b2 + 17 ≤ b + r := by
  obtain ⟨j, h1, rfl⟩ := h
  obtain ⟨k, h3, rfl⟩ := h2
  omega
theorem Sh2_out {m m' : Mem} {b b2 : Nat} {s : Rw} (h : Sh2 m b s) (hb : isB b) (hb2 : isB b2) (hne : b ≠ b2) (ho : Out m m' b2) : Sh2 m' b s := Sh2_mem h (fun r hr => ho _ (blocks_apart hb hb2 hne hr))
/-- one block has changed: the others show what they showed -/
theorem CHi_out {m m' : Mem} {o q b : Nat} {rows : Nat → Rw} (h : CHi m o q rows) (hb : isB b) (hne : ∀ r, r < q → hbk o r ≠ b) (ho : Out m m' b) : CHi m' o q rows := by
  obtain ⟨h1, h2, h3, h4, h5⟩ := h
  have hlt := hb.lt
  have e : m' 188 = m 188 := ho 188 (by obtain ⟨j, hj, rfl⟩ := hb; omega)
  exact ⟨h1, h2, by rw [e]; exact h3, by rw [e]; exact h4, fun r hr => Sh2_out (h5 r hr) hbk_isB hb (hne r hr) ho⟩
theorem CSa_out {m m' : Mem} {b : Nat} {srows : Nat → Rw} (h : CSa m srows) (hb : isB b) (hne : ∀ t, t < 2 → 154 + 17 * t ≠ b) (ho : Out m m' b) : CSa m' srows := by
  intro t ht
  have e : m' 194 = m 194 := ho 194 (by obtain ⟨j, hj, rfl⟩ := hb; omega)
  rw [e]
  exact (h t ht).imp id (Or.imp id (fun q => ⟨q.1, Sh2_out q.2 (isBv ht) hb (hne t ht) ho⟩))
theorem CPa_out {m m' : Mem} {b L : Nat} {P : Nat → Int32} (h : CPa m P L) (hb : isB b) (ho : Out m m' b) : CPa m' P L := by
  obtain ⟨h1, h2, h3⟩ := h
  have e : ∀ c, 188 ≤ c → m' c = m c := fun c hc => ho c (by obtain ⟨j, hj, rfl⟩ := hb; omega)
  exact ⟨h1, by rw [e 190 (by decide)]; exact h2, fun j hj => by rw [e 191 (by decide)]; exact h3 j hj⟩
theorem SB_out {m B : Mem} {b : Nat} : Out m (SB m b B) b := fun c hc => SB_ne hc
theorem blk_SB {m B : Mem} {b r : Nat} (hr : r < 17) : blk (SB m b B) b r = B r := SB_at hr
theorem Sh2_SB {m B : Mem} {b n w : Nat} {s : Rw} (h : Rep B s n w) (hv : Rv s n w) : Sh2 (SB m b B) b s := by
  have : Sh2 (SB m b B) b s ↔ Sh2 (SB m b B) b s := Iff.rfl
  obtain ⟨⟨g1, g2, g3⟩, ⟨t1, t2, t3, t4, t5, t6, t7, t8⟩, h3, h4⟩ := h
  have e : ∀ r, r < 17 → blk (SB m b B) b r = B r := fun r hr => blk_SB hr
  have hn8 := hv.1.1
  exact ⟨n, w, ⟨⟨by rw [e 0 (by decide)]; exact g1, fun k hk => by rw [e 1 (by decide)]; exact g2 k hk, fun i hi => ⟨fun k hk => by rw [e _ (by omega)]; exact (g3 i hi).1 k hk, by rw [e _ (by omega)]; exact (g3 i hi).2⟩⟩, ⟨by rw [e 11 (by decide)]; exact t1, fun k hk => RWd_same (t2 k hk) rfl (by rw [e 12 (by decide)]) (by rw [e 13 (by decide)]) (by rw [e 14 (by decide)]) (by rw [e 15 (by decide)]), QL_same t3 (by rw [e 11 (by decide)]) (e 16 (by decide)), by rw [e 11 (by decide)]; exact t4, by rw [e 11 (by decide)]; exact t5, by rw [e 11 (by decide)]; exact t6, by rw [e 11 (by decide)]; exact t7, by rw [e 11 (by decide)]; exact t8⟩, by rw [e 0 (by decide)]; exact h3, by rw [e 0 (by decide)]; exact h4⟩, hv⟩
theorem fm7 : ∀ k, k < 14 → nI k - nI k / 7 * 7 = nI (k % 7) ∧ 0 ≤ nI k ^^^ 7 := by decide +kernel
set_option maxRecDepth 100000 in
set_option maxHeartbeats 4000000 in
theorem c_J9_floorMod_7cf53 {X : jX} {ad : Nat → Nat} {mem : Mem} {k : Nat} (hk : k < 14) : Cd X yJ9_floorMod_7cf53 cJ9_floorMod_7cf53 3 (some .int) 0 ad [.int (nI k), .int 7] mem (some (.int (nI (k % 7)))) (mem) := by
  refine Cm.of (own := RJ9) (nm := "floorMod") (by decide +kernel) rfl rfl rfl rfl ?_
  refine J_iload_n dJ9_floorMod_7cf53_0 rfl rfl ?_
  refine J_iload_n dJ9_floorMod_7cf53_1 rfl rfl ?_
  refine J_irem dJ9_floorMod_7cf53_2 (by decide) ?_
  refine J_istore_n dJ9_floorMod_7cf53_3 rfl rfl rfl ?_
  refine J_iload_n dJ9_floorMod_7cf53_4 rfl rfl ?_
  refine J_iload_n dJ9_floorMod_7cf53_5 rfl rfl ?_
  refine J_ixor dJ9_floorMod_7cf53_6 ?_
  refine J_if_ge (tgt := 18) dJ9_floorMod_7cf53_7 (by decide) (fun h7 => ?_) (fun h7 => absurd (fm7 k hk).2 h7)
  refine J_iload_n dJ9_floorMod_7cf53_18 rfl rfl ?_
  refine r_int dJ9_floorMod_7cf53_19 ?_
  exact ⟨by rw [(fm7 k hk).1], rfl⟩

set_option maxRecDepth 100000 in
set_option maxHeartbeats 4000000 in
theorem c_X3_stateAt {X : jX} {ad : Nat → Nat} {mem : Mem} {o r : Nat} (ho : o < 7) (hr : r < 7) (h1 : mem 188 1 = nI o) : Cd X yX3_stateAt cX3_stateAt 2 (some (.object "PlugPins$Backplane")) 1 ad [.ref 188, .int (nI r)] mem (some (.ref (hbk o r))) (mem) := by
  refine Cm.of (own := RX3) (nm := "stateAt") (by decide +kernel) rfl rfl rfl rfl ?_
  refine J_aload_n dX3_stateAt_0 rfl rfl ?_
  refine gX3_states wf_X3_13 dX3_stateAt_1 ?_
  refine J_aload_n dX3_stateAt_4 rfl rfl ?_
  refine gX3_oldest wf_X3_18 dX3_stateAt_5 ?_
  refine J_topi (fun z9 hz9 => ?_)
  obtain rfl : z9 = (nI o) := hz9.trans (by exact h1)
  clear hz9
  refine J_iload_n dX3_stateAt_8 rfl rfl ?_
  refine J_iadd dX3_stateAt_9 ?_
  rw [nI_add]
  refine J_bipush (v := 7) dX3_stateAt_10 (by decide) ?_
  refine cSi ws_X3_22 (c_J9_floorMod_7cf53 (k := o + r) (by omega)) dX3_stateAt_12 (kk := ?_)
  refine al_states (k := (o + r) % 7) (nI_clamp (by omega)) dX3_stateAt_15 (nIin (by omega) (by decide)) ?_
  refine r_ref dX3_stateAt_16 ?_
  exact ⟨rfl, rfl⟩

/-- a state is noted ahead of a change -/
def Prp (m : Mem) (s : Rw) (o q : Nat) (rows srows : Nat → Rw) (P : Nat → Int32) (L : Nat) : Prop := CSt m s o q rows srows P L ∧ Sh2 m (hbk o q) s
set_option maxRecDepth 100000 in
set_option maxHeartbeats 4000000 in
theorem c_X3_prepare {X : jX} {ad : Nat → Nat} {mem : Mem} {s : Rw} {o q L : Nat} {rows srows : Nat → Rw} {P : Nat → Int32} (hC : CSt mem s o q rows srows P L) : Cm X yX3_prepare cX3_prepare 2 (none) 3 ad [.ref 188, .ref 1] mem (fun v m9 => v = none ∧ (∀ c, 195 ≤ c → m9 c = mem c) ∧ Prp m9 s o q rows srows P L) := by
  refine Cm.of (own := RX3) (nm := "prepare") (by decide +kernel) rfl rfl rfl rfl ?_
  obtain ⟨⟨n, w, hR, hV⟩, ⟨ho, hq, h1, h2, hr⟩, hsa, hpa⟩ := id hC
  have hne : hbk o q ≠ 1 := by unfold hbk; omega
  refine J_aload_n dX3_prepare_0 rfl rfl ?_
  refine J_aload_n dX3_prepare_1 rfl rfl ?_
  refine gX3_size wf_X3_28 dX3_prepare_2 ?_
  refine J_topi (fun z9 hz9 => ?_)
  obtain rfl : z9 = (nI q) := hz9.trans (by exact h2)
  clear hz9
  refine cVr wv_X3_31 (c_X3_stateAt (r := q) ho hq h1) dX3_prepare_5 ob3 rfl rfl (kk := ?_)
  refine J_aload_n dX3_prepare_8 rfl rfl ?_
  refine cVg wv_X3_35 (c_X0_copyFrom hbk_isB isB1 hne hV hR) dX3_prepare_9 (ob0 (by first | assumption | exact hbk_isB | exact isB1)) rfl rfl (kk := (fun v m1 hf => ?_))
  obtain ⟨rfl, hO, hR9⟩ := hf
  refine r_void dX3_prepare_12 ?_
  have hB := hbk_isB (o := o) (r := q)
  exact ⟨rfl, fun c hc => hO c (by unfold hbk; omega), ⟨Sh2_out ⟨n, w, hR, hV⟩ isB1 hB (fun g => hne g.symm) hO, CHi_out ⟨ho, hq, h1, h2, hr⟩ hB (fun r hr => hbk_ne hr hq) hO, CSa_out hsa hB (fun t ht => by unfold hbk; omega) hO, CPa_out hpa hB hO⟩, n, w, hR9, hV⟩

/-- the history's rows behind a recorded state -/
def rwN (q : Nat) (s : Rw) (rows : Nat → Rw) : Nat → Rw := if q = 6 then (fun r => if r = 5 then s else rows (r + 1)) else (fun r => if r = q then s else rows r)
/-- behind a change that began at a noted row s0 -/
def Stl (m : Mem) (a : Int32) (s0 s : Rw) (o q : Nat) (rows srows : Nat → Rw) (P : Nat → Int32) (L : Nat) : Prop := if a < 0 then CSt m s o q rows srows P L else ∃ o', CSt m s o' (kn1 q) (rwN q s0 rows) srows P L
/-- in the middle of a change: the state noted, and the row that is at hand -/
def Mid (m : Mem) (s0 s : Rw) (o q : Nat) (rows srows : Nat → Rw) (P : Nat → Int32) (L : Nat) : Prop := CSt m s o q rows srows P L ∧ Sh2 m (hbk o q) s0
theorem hbk_mod {o r : Nat} : hbk ((o + 1) % 7) r = hbk o (r + 1) := by unfold hbk; omega
theorem Sh2_188 {m : Mem} {b k : Nat} {s : Rw} {v : Int32} (h : Sh2 m b s) (hb : isB b) : Sh2 (up m 188 k v) b s := Sh2_mem h (fun r hr => by rw [up_ne]; obtain ⟨j, hj, rfl⟩ := hb; omega)
theorem settle_a {m : Mem} {s0 s : Rw} {o q L : Nat} {rows srows : Nat → Rw} {P : Nat → Int32} (h : Mid m s0 s o q rows srows P L) (h6 : q < 6) : CSt (up m 188 2 (nI q + 1)) s o (kn1 q) (rwN q s0 rows) srows P L := by
  obtain ⟨⟨hc, ⟨ho, hq, h1, h2, hr⟩, hsa, hpa⟩, hp⟩ := h
  have ek : kn1 q = q + 1 := by unfold kn1; rw [if_neg (by omega)]
  refine ⟨Sh2_188 hc isB1, ⟨ho, by omega, by rw [up_rr, if_neg (by decide)]; exact h1, by rw [up_rr, if_pos rfl, ek, nI_succ], fun r hr2 => ?_⟩, fun t ht => ?_, ?_⟩
  · rw [ek] at hr2
    unfold rwN
    rw [if_neg (by omega)]
    by_cases e : r = q
    · rw [if_pos e, e]; exact Sh2_188 hp hbk_isB
    · rw [if_neg e]; exact Sh2_188 (hr r (by omega)) hbk_isB
  · rw [up_ne (by decide)]
    exact (hsa t ht).imp id (Or.imp id (fun g => ⟨g.1, Sh2_188 g.2 (isBv ht)⟩))
  · obtain ⟨p1, p2, p3⟩ := hpa
    exact ⟨p1, by rw [up_ne (by decide)]; exact p2, fun j hj => by rw [up_ne (by decide)]; exact p3 j hj⟩
theorem settle_b {m : Mem} {s0 s : Rw} {o L : Nat} {rows srows : Nat → Rw} {P : Nat → Int32} (h : Mid m s0 s o 6 rows srows P L) : CSt (up m 188 1 (nI ((o + 1) % 7))) s ((o + 1) % 7) (kn1 6) (rwN 6 s0 rows) srows P L := by
  obtain ⟨⟨hc, ⟨ho, hq, h1, h2, hr⟩, hsa, hpa⟩, hp⟩ := h
  have ek : kn1 6 = 6 := rfl
  refine ⟨Sh2_188 hc isB1, ⟨Nat.mod_lt _ (by decide), by decide, by rw [up_rr, if_pos rfl], by rw [up_rr, if_neg (by decide), ek]; exact h2, fun r hr2 => ?_⟩, fun t ht => ?_, ?_⟩
  · rw [ek] at hr2
    rw [hbk_mod]
    unfold rwN
    rw [if_pos rfl]
    by_cases e : r = 5
    · rw [if_pos e, e]; exact Sh2_188 hp hbk_isB
    · rw [if_neg e]; exact Sh2_188 (hr (r + 1) (by omega)) hbk_isB
  · rw [up_ne (by decide)]
    exact (hsa t ht).imp id (Or.imp id (fun g => ⟨g.1, Sh2_188 g.2 (isBv ht)⟩))
  · obtain ⟨p1, p2, p3⟩ := hpa
    exact ⟨p1, by rw [up_ne (by decide)]; exact p2, fun j hj => by rw [up_ne (by decide)]; exact p3 j hj⟩
theorem ge6 : ∀ x, x < 7 → (6 ≤ nI x ↔ x = 6) := by decide
theorem settle_e1 {mem : Mem} {a : Int32} {s0 s : Rw} {o q L : Nat} {rows srows : Nat → Rw} {P : Nat → Int32} (h1 : 0 ≤ a) (hM : Mid mem s0 s o q rows srows P L) (h6 : ¬ q = 6) (hq : q < 7) : some (Value.int a) = some (Value.int a) ∧ (∀ c, 195 ≤ c → up mem 188 2 (nI q + 1) c = mem c) ∧ Stl (up mem 188 2 (nI q + 1)) a s0 s o q rows srows P L :=
  ⟨rfl, fun c hc => up_ne (by omega), by unfold Stl; rw [if_neg (Int32.not_lt.mpr h1)]; exact ⟨o, settle_a hM (by omega)⟩⟩
theorem settle_e2 {mem : Mem} {a : Int32} {s0 s : Rw} {o q L : Nat} {rows srows : Nat → Rw} {P : Nat → Int32} (h1 : 0 ≤ a) (hM : Mid mem s0 s o q rows srows P L) (h6 : q = 6) : some (Value.int a) = some (Value.int a) ∧ (∀ c, 195 ≤ c → up mem 188 1 (nI ((o + 1) % 7)) c = mem c) ∧ Stl (up mem 188 1 (nI ((o + 1) % 7))) a s0 s o q rows srows P L := by
  subst h6
  exact ⟨rfl, fun c hc => up_ne (by omega), by unfold Stl; rw [if_neg (Int32.not_lt.mpr h1)]; exact ⟨_, settle_b hM⟩⟩
set_option maxRecDepth 100000 in
set_option maxHeartbeats 4000000 in
theorem c_X3_settle {X : jX} {ad : Nat → Nat} {mem : Mem} {s0 s : Rw} {a : Int32} {o q L : Nat} {rows srows : Nat → Rw} {P : Nat → Int32} (hM : Mid mem s0 s o q rows srows P L) : Cm X yX3_settle cX3_settle 2 (some .int) 1 ad [.ref 188, .int a] mem (fun v m9 => v = some (.int a) ∧ (∀ c, 195 ≤ c → m9 c = mem c) ∧ Stl m9 a s0 s o q rows srows P L) := by
  refine Cm.of (own := RX3) (nm := "settle") (by decide +kernel) rfl rfl rfl rfl ?_
  obtain ⟨-, ⟨ho, hq, hm1, hm2, -⟩, -, -⟩ := hM.1
  refine J_iload_n dX3_settle_0 rfl rfl ?_
  refine J_if_ge (tgt := 6) dX3_settle_1 (by decide) (fun h1 => ?_) (fun h1 => ?_)
  · refine J_aload_n dX3_settle_6 rfl rfl ?_
    refine gX3_size wf_X3_28 dX3_settle_7 ?_
    refine J_topi (fun z9 hz9 => ?_)
    obtain rfl : z9 = (nI q) := hz9.trans (by exact hm2)
    clear hz9
    refine J_bipush (v := 6) dX3_settle_10 (by decide) ?_
    refine J_icmp_ge (tgt := 28) dX3_settle_12 (by decide) (fun h12 => ?_) (fun h12 => ?_)
    · refine J_aload_n dX3_settle_28 rfl rfl ?_
      refine J_aload_n dX3_settle_29 rfl rfl ?_
      refine gX3_oldest wf_X3_18 dX3_settle_30 ?_
      refine J_topi (fun z9 hz9 => ?_)
      obtain rfl : z9 = (nI o) := hz9.trans (by exact hm1)
      clear hz9
      refine J_iconst (v := 1) dX3_settle_33 (by decide) ?_
      refine J_iadd dX3_settle_34 ?_
      rw [show nI o + 1 = nI (o + 1) from (nI_succ o).symm]
      refine J_bipush (v := 7) dX3_settle_35 (by decide) ?_
      refine cSi ws_X3_22 (c_J9_floorMod_7cf53 (k := o + 1) (by omega)) dX3_settle_37 (kk := ?_)
      refine pX3_oldest wf_X3_18 dX3_settle_40 ?_
      refine J_iload_n dX3_settle_43 rfl rfl ?_
      refine r_int dX3_settle_44 ?_
      first | exact settle_e1 h1 hM (fun g => h12 ((ge6 q hq).2 g)) hq | exact settle_e2 h1 hM ((ge6 q hq).1 h12)
    · refine J_aload_n dX3_settle_15 rfl rfl ?_
      refine J_dup dX3_settle_16 rfl ?_
      refine gX3_size wf_X3_28 dX3_settle_17 ?_
      refine J_topi (fun z9 hz9 => ?_)
      obtain rfl : z9 = (nI q) := hz9.trans (by exact hm2)
      clear hz9
      refine J_iconst (v := 1) dX3_settle_20 (by decide) ?_
      refine J_iadd dX3_settle_21 ?_
      refine pX3_size wf_X3_28 dX3_settle_22 ?_
      refine J_goto (tgt := 43) dX3_settle_25 (by decide) ?_
      refine J_iload_n dX3_settle_43 rfl rfl ?_
      refine r_int dX3_settle_44 ?_
      first | exact settle_e1 h1 hM (fun g => h12 ((ge6 q hq).2 g)) hq | exact settle_e2 h1 hM ((ge6 q hq).1 h12)
  · refine J_iload_n dX3_settle_4 rfl rfl ?_
    refine r_int dX3_settle_5 ?_
    exact ⟨rfl, fun c hc => rfl, by unfold Stl; rw [if_pos (Int32.not_le.mp h1)]; exact hM.1⟩

theorem tb_end {m m9 : Mem} {s : Rw} {o p L : Nat} {rows srows : Nat → Rw} {P : Nat → Int32} (hC : CSt m s o (p + 1) rows srows P L) (hO : Out (up m 188 2 (nI p)) m9 1) (hR : Sh2 m9 1 (rows p)) : CSt m9 (rows p) o p rows srows P L := by
  obtain ⟨hc, ⟨ho, hq, h1, h2, hr⟩, hsa, hpa⟩ := hC
  have e188 : m9 188 = up m 188 2 (nI p) 188 := hO 188 (by decide)
  have e : ∀ c, 18 ≤ c → c ≠ 188 → m9 c = m c := fun c hc1 hc2 => (hO c (by omega)).trans (up_ne hc2)
  have hn1 : ∀ r, hbk o r ≠ 1 := fun r => by unfold hbk; omega
  refine ⟨hR, ⟨ho, by omega, by rw [e188, up_rr, if_neg (by decide)]; exact h1, by rw [e188, up_rr, if_pos rfl], fun r hr2 => Sh2_out (Sh2_188 (hr r (by omega)) hbk_isB) hbk_isB isB1 (hn1 r) hO⟩, fun t ht => ?_, ?_⟩
  · rw [e 194 (by decide) (by decide)]
    exact (hsa t ht).imp id (Or.imp id (fun g => ⟨g.1, Sh2_out (Sh2_188 g.2 (isBv ht)) (isBv ht) isB1 (by omega) hO⟩))
  · obtain ⟨p1, p2, p3⟩ := hpa
    exact ⟨p1, by rw [e 190 (by decide) (by decide)]; exact p2, fun j hj => by rw [e 191 (by decide) (by decide)]; exact p3 j hj⟩
set_option maxRecDepth 100000 in
set_option maxHeartbeats 4000000 in
theorem c_tb0 {X : jX} {ad : Nat → Nat} {mem : Mem} {s : Rw} {o L : Nat} {rows srows : Nat → Rw} {P : Nat → Int32} (hC : CSt mem s o 0 rows srows P L) : Cm X yX3_takeBack cX3_takeBack 2 (some .int) 3 ad [.ref 188, .ref 1] mem (fun v m9 => (∀ c, 195 ≤ c → m9 c = mem c) ∧ ((0 = 0 ∧ v = some (.int (-5)) ∧ m9 = mem) ∨ ∃ p, 0 = p + 1 ∧ v = some (.int (nI p)) ∧ CSt m9 (rows p) o p rows srows P L)) := by
  refine Cm.of (own := RX3) (nm := "takeBack") (by decide +kernel) rfl rfl rfl rfl ?_
  refine J_aload_n dX3_takeBack_0 rfl rfl ?_
  refine gX3_size wf_X3_28 dX3_takeBack_1 ?_
  refine J_topi (fun z9 hz9 => ?_)
  obtain rfl : z9 = 0 := hz9.trans (by exact hC.2.1.2.2.2.1)
  clear hz9
  refine J_if_ne (tgt := 10) dX3_takeBack_4 (by decide) (fun h4 => absurd rfl h4) (fun h4 => ?_)
  refine J_bipush (v := -5) dX3_takeBack_7 (by decide) ?_
  refine r_int dX3_takeBack_9 ?_
  exact ⟨fun c hc => rfl, Or.inl ⟨rfl, rfl, rfl⟩⟩

set_option maxRecDepth 100000 in
set_option maxHeartbeats 4000000 in
theorem c_tb1 {X : jX} {ad : Nat → Nat} {mem : Mem} {s : Rw} {o p L : Nat} {rows srows : Nat → Rw} {P : Nat → Int32} (hC : CSt mem s o (p + 1) rows srows P L) : Cm X yX3_takeBack cX3_takeBack 2 (some .int) 3 ad [.ref 188, .ref 1] mem (fun v m9 => (∀ c, 195 ≤ c → m9 c = mem c) ∧ ((p + 1 = 0 ∧ v = some (.int (-5)) ∧ m9 = mem) ∨ ∃ p1, p + 1 = p1 + 1 ∧ v = some (.int (nI p1)) ∧ CSt m9 (rows p1) o p1 rows srows P L)) := by
  refine Cm.of (own := RX3) (nm := "takeBack") (by decide +kernel) rfl rfl rfl rfl ?_
  obtain ⟨-, ⟨ho, hq, hm1, hm2, hr⟩, -, -⟩ := id hC
  obtain ⟨n, w, hR, hV⟩ := Sh2_188 (k := 2) (v := nI p) (hr p (by omega)) hbk_isB
  have hne : 1 ≠ hbk o p := by unfold hbk; omega
  refine J_aload_n dX3_takeBack_0 rfl rfl ?_
  refine gX3_size wf_X3_28 dX3_takeBack_1 ?_
  refine J_topi (fun z9 hz9 => ?_)
  obtain rfl : z9 = (nI (p + 1)) := hz9.trans (by exact hm2)
  clear hz9
  refine J_if_ne (tgt := 10) dX3_takeBack_4 (by decide) (fun h4 => ?_) (fun h4 => absurd (show nI (p + 1) = nI 0 from h4) (fun g => by have := nI_ij (by omega) (by decide) g; omega))
  refine J_aload_n dX3_takeBack_10 rfl rfl ?_
  refine J_dup dX3_takeBack_11 rfl ?_
  refine gX3_size wf_X3_28 dX3_takeBack_12 ?_
  refine J_topi (fun z9 hz9 => ?_)
  obtain rfl : z9 = (nI (p + 1)) := hz9.trans (by exact hm2)
  clear hz9
  refine J_iconst (v := 1) dX3_takeBack_15 (by decide) ?_
  refine J_isub dX3_takeBack_16 ?_
  rw [nI_pred]
  refine pX3_size wf_X3_28 dX3_takeBack_17 ?_
  refine J_aload_n dX3_takeBack_20 rfl rfl ?_
  refine J_aload_n dX3_takeBack_21 rfl rfl ?_
  refine J_aload_n dX3_takeBack_22 rfl rfl ?_
  refine gX3_size wf_X3_28 dX3_takeBack_23 ?_
  refine J_topi (fun z9 hz9 => ?_)
  obtain rfl : z9 = (nI p) := hz9.trans (by rw [up_rr, if_pos rfl])
  clear hz9
  refine cVr wv_X3_31 (c_X3_stateAt (r := p) ho (by omega) (by rw [up_rr, if_neg (by decide)]; exact hm1)) dX3_takeBack_26 ob3 rfl rfl (kk := ?_)
  refine cVg wv_X3_35 (c_X0_copyFrom isB1 hbk_isB hne hV hR) dX3_takeBack_29 (ob0 (by first | assumption | exact hbk_isB | exact isB1)) rfl rfl (kk := (fun v m1 hf => ?_))
  obtain ⟨rfl, hO, hR9⟩ := hf
  refine J_aload_n dX3_takeBack_32 rfl rfl ?_
  refine gX3_size wf_X3_28 dX3_takeBack_33 ?_
  refine J_topi (fun z9 hz9 => ?_)
  obtain rfl : z9 = (nI p) := hz9.trans (by rw [hO 188 (by decide), up_rr, if_pos rfl])
  clear hz9
  refine r_int dX3_takeBack_36 ?_
  exact ⟨fun c hc => (hO c (by omega)).trans (up_ne (by omega)), Or.inr ⟨p, rfl, rfl, tb_end hC hO ⟨n, w, hR9, hV⟩⟩⟩

