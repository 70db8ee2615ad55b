theorem RpW_row {B : Mem} {s t : Rw} {w : Nat} (h : RpW B s w) (ht : ∀ x, 94 ≤ x → t x = s x) : RpW B t w := by
  obtain ⟨g1, g2, g3, g4, g5, g6, g7, g8⟩ := h
  refine ⟨g1, fun k hk => RWd_same (g2 k hk) (ht _ (by omega)) rfl rfl rfl rfl, by rw [wl_same (s := s) (fun k _ => ht _ (by omega))]; exact g3, ?_, ?_, ?_, ?_, ?_⟩
  · rw [ht 295 (by decide)]; exact g4
  · rw [ht 295 (by decide), ht 296 (by decide)]; exact g5
  · rw [ht 300 (by decide)]; exact g6
  · rw [ht 301 (by decide)]; exact g7
  · rw [ht 299 (by decide)]; exact g8
theorem RpW_blk {B C : Mem} {s : Rw} {w : Nat} (h : RpW B s w) (he : ∀ r, 11 ≤ r → C r = B r) : RpW C s w := by
  obtain ⟨g1, g2, g3, g4, g5, g6, g7, g8⟩ := h
  have e11 := he 11 (by decide)
  refine ⟨by rw [e11]; exact g1, fun k hk => RWd_same (g2 k hk) rfl (by rw [he 12 (by decide)]) (by rw [he 13 (by decide)]) (by rw [he 14 (by decide)]) (by rw [he 15 (by decide)]), QL_same g3 (by rw [e11]) (he 16 (by decide)), by rw [e11]; exact g4, by rw [e11]; exact g5, by rw [e11]; exact g6, by rw [e11]; exact g7, by rw [e11]; exact g8⟩
theorem lostF_94 {s t : Rw} {k v x : Nat} (h : ∀ x, 94 ≤ x → s x = t x) (hx : 94 ≤ x) : lostF s k v x = lostF t k v x := by
  unfold lostF
  rw [upd_at, upd_at, upd_at, upd_at, upd_at, upd_at, h 301 (by decide), h 295 (by decide), h x hx]
theorem fgL_94 {s t : Rw} {d : Nat} (h : ∀ x, 94 ≤ x → s x = t x) : ∀ j x, 94 ≤ x → fgL s d j x = fgL t d j x := by
  intro j
  induction j with
  | zero => intro x hx; exact h x hx
  | succ j ih =>
    intro x hx
    have e : wv (fgL s d j) j = wv (fgL t d j) j := wv_eq (ih _ (by omega))
    rw [fgL_st, fgL_st, e]
    split
    · exact ih x hx
    · split
      · exact ih x hx
      · exact lostF_94 ih hx
/-- greeting where a board touches -/
theorem grF_t {s : Rw} {w i x : Nat} (hi : i < 8) (h2 : ¬ s (fb i 2) = -6) (h3 : ¬ s (fb i 3) < 20) (hx : 94 ≤ x) : grF s w i x = s x := by
  have e (t : Rw) (k : Nat) (hk : k < 11) (v : Int32) : upd t (fb i k) v x = t x := upd_fbx hi hk (by omega)
  unfold grF
  rw [if_neg h2, if_neg h3]
  split
  · rfl
  · split
    · split
      · rw [e _ _ (by decide), e _ _ (by decide)]
      · rw [e _ _ (by decide), e _ _ (by decide)]
    · rfl
theorem grF_n {s : Rw} {w i : Nat} (h : s (fb i 2) = -6 ∨ s (fb i 3) < 20) : grF s w i = if s (fb i 6) = 1 then fgF (upd s (fb i 8) 0) w i else upd s (fb i 8) 0 := by
  unfold grF
  by_cases h2 : s (fb i 2) = -6
  · rw [if_pos h2]
  · rw [if_neg h2, if_pos (h.resolve_left h2)]
/-- the class's row behind a board that is no longer known -/
def unR (s : Rw) (i : Nat) : Rw := upd (upd (upd (if s (fb i 7) = 0 then upd s (fb i 10) (s (fb i 10) + 1) else s) (fb i 6) 0) (fb i 7) 0) (fb i 8) 0
theorem grF_u {s : Rw} {w i x : Nat} (hi : i < 8) (hx : x < 94) : fgF (upd s (fb i 8) 0) w i x = unR s i x := by
  have l7 := fb_lt hi (show 7 < 11 by decide)
  have l10 := fb_lt hi (show 10 < 11 by decide)
  have n1 : fb i 7 ≠ fb i 8 := fb_ne (by decide)
  have n2 : fb i 10 ≠ fb i 8 := fb_ne (by decide)
  have a1 : fb i 6 ≠ fb i 7 := fb_ne (by decide)
  have a2 : fb i 6 ≠ fb i 8 := fb_ne (by decide)
  have a3 : fb i 6 ≠ fb i 10 := fb_ne (by decide)
  have a4 : fb i 7 ≠ fb i 10 := fb_ne (by decide)
  unfold fgF unR
  simp only [upd_at, fgL_low l7, fgL_low l10, fgL_low hx, if_neg n1, if_neg n2]
  generalize fb i 6 = p at *
  generalize fb i 7 = q at *
  generalize fb i 8 = r at *
  generalize fb i 10 = u at *
  by_cases e8 : x = r
  · subst e8
    rw [if_neg (fun g => a2 g.symm), if_neg (fun g => n1 g.symm), if_neg (fun g => n2 g.symm), if_pos rfl, if_pos rfl]
  · by_cases e7 : x = q
    · subst e7
      rw [if_neg (fun g => a1 g.symm), if_pos rfl, if_neg e8, if_pos rfl]
    · by_cases e6 : x = p
      · subst e6
        rw [if_pos rfl, if_neg e8, if_neg e7, if_pos rfl]
      · rw [if_neg e6, if_neg e7, if_neg e8, if_neg e7, if_neg e6]
        by_cases e10 : x = u
        · subst e10
          rw [if_pos rfl]
          by_cases h7 : s q = 0
          · rw [if_pos h7, if_pos h7, upd_same, if_neg e8]
          · rw [if_neg h7, if_neg h7, Int32.add_zero, if_neg e8]
        · rw [if_neg e10, if_neg e8]
          by_cases h7 : s q = 0
          · rw [if_pos h7, upd_at, if_neg e10]
          · rw [if_neg h7]
/-- becoming unknown -/
theorem un_rel {B : Mem} {s : Rw} {n w i : Nat} (h : RpB B s n) (hi : i < n) (hn : n ≤ 8) (hf : Bf s i) (hnt : s (fb i 2) = -6 ∨ s (fb i 3) < 20) : RpB (unB B i) (grF s w i) n := by
  obtain ⟨r1, r2⟩ := h.2.2 i hi
  have e6 : B (3 + i) 6 = s (fb i 6) := r1 6 (by decide)
  have e7 : B (3 + i) 7 = s (fb i 7) := r1 7 (by decide)
  have i8 : i < 8 := by omega
  obtain ⟨-, h6, h7⟩ := hf
  rw [grF_n hnt]
  unfold unB
  rw [e6, e7, r2]
  by_cases hk : s (fb i 6) = 0
  · have h70 : s (fb i 7) = 0 := h7.resolve_right (fun g => by rw [hk] at g; exact absurd g.2 (by decide))
    rw [if_pos hk, if_neg (show ¬ s (fb i 6) = 1 by rw [hk]; decide)]
    have := RpB_up (k := 8) (v := 0) (RpB_up (k := 7) (v := 0) (RpB_up (k := 6) (v := 0) h i8 (by decide)) i8 (by decide)) i8 (by decide)
    rw [upd_noop (s := s) hk.symm, upd_noop (s := s) h70.symm] at this
    exact this
  · rw [if_neg hk, if_pos (h6.resolve_left hk)]
    have hu : RpB (up (up (up (if s (fb i 7) = 0 then up B (3 + i) 9 (s (fb i 10) + 1) else B) (3 + i) 6 0) (3 + i) 7 0) (3 + i) 8 0) (unR s i) n := by
      unfold unR
      refine RpB_up (k := 8) (RpB_up (k := 7) (RpB_up (k := 6) ?_ i8 (by decide)) i8 (by decide)) i8 (by decide)
      split
      · exact RpB_up9 h i8
      · exact h
    exact RpB_row hu (fun k hk => grF_u i8 (by omega)) (fun j k hj hk _ => grF_u i8 (fb_lt (by omega) hk))
theorem unB_fr {B : Mem} {i r : Nat} (h : r ≠ 3 + i) : unB B i r = B r := by
  have e (C : Mem) (k : Nat) (v : Int32) : up C (3 + i) k v r = C r := up_ne h
  unfold unB
  rw [e, e, e]
  split
  · rfl
  · split
    · rw [e]
    · rfl
theorem gfB_fr {B : Mem} {i r : Nat} {t : Int32} (h : r ≠ 3 + i) : gfB B i t r = B r := by
  have e (C : Mem) (k : Nat) (v : Int32) : up C (3 + i) k v r = C r := up_ne h
  unfold gfB
  (repeat' split) <;> first | rfl | (rw [e, e, e]; done) | (rw [e]; done)
/-- cells of a block that a greeting leaves -/
def FrG (B B' : Mem) : Prop := ∀ r, r < 3 → B' r = B r
theorem grF_94 {s : Rw} {w i x : Nat} (hi : i < 8) (hnt : s (fb i 2) = -6 ∨ s (fb i 3) < 20) (hx : 94 ≤ x) : grF s w i x = if s (fb i 6) = 1 then fgL s i w x else s x := by
  rw [grF_n hnt]
  split
  · unfold fgF
    rw [upd_fbx hi (by decide) (by omega), upd_fbx hi (by decide) (by omega), upd_fbx hi (by decide) (by omega)]
    exact fgL_94 (fun x hx => upd_fbx hi (by decide) (by omega)) w x hx
  · exact upd_fbx hi (by decide) (by omega)
theorem nt_of {s : Rw} {i : Nat} (h : Bd s i) : (¬ s (fb i 3) < 20 → ¬ s (fb i 2) = -6) := by
  intro h3 h2
  obtain ⟨d, v, -, -, e3, ⟨-, hd, -⟩ | ⟨q, hq, e2, -⟩⟩ := h
  · apply h3; rw [e3, hd]; decide
  · rw [h2] at e2; exact nI_n6 q (by omega) e2.symm
section GR
variable {X : jX} {ad : Nat → Nat} {m B B0 B9 : Mem} {b : Nat} {s r : Rw} {n w i : Nat}
theorem grA (hb : isB b) (hn8 : n ≤ 8) (i8 : i < 8) (hbi : Bd r i) (hfi : Bf r i) (eg : grL s w (i + 1) = grF r w i) (hi : i < n) (hR : RpB B r n) (hW : RpW B r w) (hF : FrG B0 B) (h21 : ¬ (if r (fb i 3) < 20 then (0 : Int32) else 1) = 0) (ih : ∀ C : Mem, RpB C (grL s w (i + 1)) n → RpW C (grL s w (i + 1)) w → FrG B0 C → Jg X RX0 cX0_greetBoards 2 (none) "greetBoards" 2 0 0 (QF X ad (fun v m9 => v = none ∧ ∃ B9, m9 = SB m b B9 ∧ RpB B9 (grL s w n) n ∧ RpW B9 (grL s w n) w ∧ FrG B0 B9)) ad 0 0 2 [(0, .ref b), (1, .int (nI (i + 1)))] [] (WS X ad (SB m b C))) : Jg X RX0 cX0_greetBoards 2 (none) "greetBoards" 2 0 0 (QF X ad (fun v m9 => v = none ∧ ∃ B9, m9 = SB m b B9 ∧ RpB B9 (grL s w n) n ∧ RpW B9 (grL s w n) w ∧ FrG B0 B9)) ad 0 0 2 [(0, .ref b), (1, .int (nI (i + 1)))] [] (WS X ad (SB m b (gfB B i (r 3)))) := by
  have h3 := tc1 h21
  have h2 := nt_of hbi h3
  refine ih _ ?_ ?_ (fun q hq => by rw [gfB_fr (by omega)]; exact hF q hq)
  · rw [eg]; exact gt_rel hR hi hn8 hfi h2 h3
  · rw [eg]; exact RpW_row (RpW_blk hW (fun q hq => gfB_fr (by omega))) (fun x hx => grF_t i8 h2 h3 hx)
theorem grB (hb : isB b) (hn8 : n ≤ 8) (i8 : i < 8) (hbi : Bd r i) (hfi : Bf r i) (eg : grL s w (i + 1) = grF r w i) (hi : i < n) (hR : RpB B r n) (hW : RpW B r w) (hF : FrG B0 B) (h21 : (if r (fb i 3) < 20 then (0 : Int32) else 1) = 0) (h51 : r (fb i 6) = 0) (ih : ∀ C : Mem, RpB C (grL s w (i + 1)) n → RpW C (grL s w (i + 1)) w → FrG B0 C → Jg X RX0 cX0_greetBoards 2 (none) "greetBoards" 2 0 0 (QF X ad (fun v m9 => v = none ∧ ∃ B9, m9 = SB m b B9 ∧ RpB B9 (grL s w n) n ∧ RpW B9 (grL s w n) w ∧ FrG B0 B9)) ad 0 0 2 [(0, .ref b), (1, .int (nI (i + 1)))] [] (WS X ad (SB m b C))) : Jg X RX0 cX0_greetBoards 2 (none) "greetBoards" 2 0 0 (QF X ad (fun v m9 => v = none ∧ ∃ B9, m9 = SB m b B9 ∧ RpB B9 (grL s w n) n ∧ RpW B9 (grL s w n) w ∧ FrG B0 B9)) ad 0 0 2 [(0, .ref b), (1, .int (nI (i + 1)))] [] (WS X ad (SB m b (unB B i))) := by
  have h3 := tc0 h21
  refine ih _ ?_ ?_ (fun q hq => by rw [unB_fr (by omega)]; exact hF q hq)
  · rw [eg]; exact un_rel hR hi hn8 hfi (Or.inr h3)
  · rw [eg]; exact RpW_row (RpW_blk hW (fun q hq => unB_fr (by omega))) (fun x hx => by rw [grF_94 i8 (Or.inr h3) hx, if_neg (by rw [h51]; decide)])
theorem grC (hb : isB b) (hn8 : n ≤ 8) (i8 : i < 8) (hbi : Bd r i) (hfi : Bf r i) (eg : grL s w (i + 1) = grF r w i) (hi : i < n) (hR : RpB B r n) (hF : FrG B0 B) (h21 : (if r (fb i 3) < 20 then (0 : Int32) else 1) = 0) (h51 : ¬ r (fb i 6) = 0) (hW9 : RpW B9 (fgL r i w) w) (hF9 : FrW B B9) (ih : ∀ C : Mem, RpB C (grL s w (i + 1)) n → RpW C (grL s w (i + 1)) w → FrG B0 C → Jg X RX0 cX0_greetBoards 2 (none) "greetBoards" 2 0 0 (QF X ad (fun v m9 => v = none ∧ ∃ B9, m9 = SB m b B9 ∧ RpB B9 (grL s w n) n ∧ RpW B9 (grL s w n) w ∧ FrG B0 B9)) ad 0 0 2 [(0, .ref b), (1, .int (nI (i + 1)))] [] (WS X ad (SB m b C))) : Jg X RX0 cX0_greetBoards 2 (none) "greetBoards" 2 0 0 (QF X ad (fun v m9 => v = none ∧ ∃ B9, m9 = SB m b B9 ∧ RpB B9 (grL s w n) n ∧ RpW B9 (grL s w n) w ∧ FrG B0 B9)) ad 0 0 2 [(0, .ref b), (1, .int (nI (i + 1)))] [] (WS X ad (SB m b (unB B9 i))) := by
  have h3 := tc0 h21
  have h1 := hfi.2.1.resolve_left h51
  have hR9 : RpB B9 r n := RpB_blk hR hn8 (by rw [hF9 0 (by decide)]) (fun q _ hq => hF9 q hq)
  refine ih _ ?_ ?_ (fun q hq => by rw [unB_fr (by omega), hF9 q (by omega)]; exact hF q hq)
  · rw [eg]; exact un_rel hR9 hi hn8 hfi (Or.inr h3)
  · rw [eg]; exact RpW_row (RpW_blk hW9 (fun q hq => unB_fr (by omega))) (fun x hx => by rw [grF_94 i8 (Or.inr h3) hx, if_pos h1])
end GR
set_option maxRecDepth 100000 in
set_option maxHeartbeats 4000000 in
theorem greetLoop {X : jX} {ad : Nat → Nat} {m B0 : Mem} {b : Nat} {s : Rw} {n w : Nat} (hb : isB b) (hn8 : n ≤ 8) (hS : OkS s w) (hI : Iw s n w) (hbd : ∀ i, i < n → Bd s i) (hbf : ∀ i, i < n → Bf s i) : ∀ (j i : Nat) (B : Mem), i + j = n → RpB B (grL s w i) n → RpW B (grL s w i) w → FrG B0 B → Jg X RX0 cX0_greetBoards 2 (none) "greetBoards" 2 0 0 (QF X ad (fun v m9 => v = none ∧ ∃ B9, m9 = SB m b B9 ∧ RpB B9 (grL s w n) n ∧ RpW B9 (grL s w n) w ∧ FrG B0 B9)) ad 0 0 2 [(0, .ref b), (1, .int (nI i))] [] (WS X ad (SB m b B)) := by
  have hw := hS.1.1
  intro j
  induction j with
  | zero =>
    intro i B hi hR hW hF
    obtain rfl : i = n := by omega
    refine J_iload_n dX0_greetBoards_2 rfl rfl ?_
    refine J_aload_n dX0_greetBoards_3 rfl rfl ?_
    refine gB_boardCount (by first | assumption | exact isB1 | exact isB18) wf_X0_43 dX0_greetBoards_4 ?_
    refine J_topi (fun z9 hz9 => ?_)
    obtain rfl : z9 = (nI i) := hz9.trans (by exact hR.1)
    clear hz9
    refine J_icmp_ge (tgt := 77) dX0_greetBoards_7 (by decide) (fun h7 => ?_) (fun h7 => absurd (nI_le1 (Nat.le_refl _) (by omega)) h7)
    refine r_void dX0_greetBoards_77 ?_
    exact ⟨rfl, B, rfl, hR, hW, hF⟩
  | succ j ih =>
    intro i B hi hR hW hF
    have i8 : i < 8 := by omega
    obtain ⟨r1, r2⟩ := hR.2.2 i (by omega)
    have hSi := OkS_grL hS i (by omega)
    have hIi := Iw_grL hS hI i (by omega)
    have hfi := Bf_grL hw i8 (hbf i (by omega)) i (by omega)
    have hbi : Bd (grL s w i) i := by
      unfold Bd
      rw [grL_fld i8 (by decide) (by decide) i, grL_fld i8 (by decide) (by decide) i, grL_fld i8 (by decide) (by decide) i]
      exact hbd i (by omega)
    have e3 : (grL s w i) 3 = s 3 := (grL_ok hS.1 i (by omega)).2 3 (by decide)
    have eg : grL s w (i + 1) = grF (grL s w i) w i := rfl
    have h10 : (wl (grL s w i) w).length ≤ 10 := by have := hIi.2.1; unfold opA at this; omega
    refine J_iload_n dX0_greetBoards_2 rfl rfl ?_
    refine J_aload_n dX0_greetBoards_3 rfl rfl ?_
    refine gB_boardCount (by first | assumption | exact isB1 | exact isB18) wf_X0_43 dX0_greetBoards_4 ?_
    refine J_topi (fun z9 hz9 => ?_)
    obtain rfl : z9 = (nI n) := hz9.trans (by exact hR.1)
    clear hz9
    refine J_icmp_ge (tgt := 77) dX0_greetBoards_7 (by decide) (fun h7 => absurd h7 (nI_nle1 (by omega) (by omega))) (fun h7 => ?_)
    refine J_aload_n dX0_greetBoards_10 rfl rfl ?_
    refine gX0_boards (by first | assumption | exact isB1 | exact isB18) wf_X0_25 dX0_greetBoards_11 ?_
    refine J_iload_n dX0_greetBoards_14 rfl rfl ?_
    refine al_boards hb (k := i) (nI_cl (by omega)) dX0_greetBoards_15 (nIin (by omega) (by decide)) ?_
    refine J_bipush (v := 20) dX0_greetBoards_16 (by decide) ?_
    refine cVi wv_X0_185 (c_X1_touches hb (i := i) i8) dX0_greetBoards_18 (ob1 (by first | assumption | exact isB1 | exact isB18) (by first | assumption | omega)) rfl rfl (kk := ?_)
    refine J_topi (fun z9 hz9 => ?_)
    obtain rfl : z9 = (if (grL s w i) (fb i 3) < 20 then 0 else 1) := hz9.trans (by rw [r1 3 (by decide)])
    clear hz9
    refine J_if_eq (tgt := 42) dX0_greetBoards_21 (by decide) (fun h21 => ?_) (fun h21 => ?_)
    · refine J_aload_n dX0_greetBoards_42 rfl rfl ?_
      refine gX0_boards (by first | assumption | exact isB1 | exact isB18) wf_X0_25 dX0_greetBoards_43 ?_
      refine J_iload_n dX0_greetBoards_46 rfl rfl ?_
      refine al_boards hb (k := i) (nI_cl (by omega)) dX0_greetBoards_47 (nIin (by omega) (by decide)) ?_
      refine gB_isKnown (by first | assumption | exact isB1 | exact isB18) (by first | assumption | omega) wf_X0_63 dX0_greetBoards_48 ?_
      refine J_topi (fun z9 hz9 => ?_)
      obtain rfl : z9 = ((grL s w i) (fb i 6)) := hz9.trans (by exact r1 6 (by decide))
      clear hz9
      refine J_if_eq (tgt := 62) dX0_greetBoards_51 (by decide) (fun h51 => ?_) (fun h51 => ?_)
      · refine J_aload_n dX0_greetBoards_62 rfl rfl ?_
        refine gX0_boards (by first | assumption | exact isB1 | exact isB18) wf_X0_25 dX0_greetBoards_63 ?_
        refine J_iload_n dX0_greetBoards_66 rfl rfl ?_
        refine al_boards hb (k := i) (nI_cl (by omega)) dX0_greetBoards_67 (nIin (by omega) (by decide)) ?_
        refine cVv wv_X0_202 (c_X1_becomeUnknown hb (i := i) i8) dX0_greetBoards_68 (ob1 (by first | assumption | exact isB1 | exact isB18) (by first | assumption | omega)) rfl rfl (kk := ?_)
        refine J_iinc (v := _ + 1) dX0_greetBoards_71 rfl rfl rfl rfl ?_
        rw [show nI i + 1 = nI (i + 1) from (nI_succ i).symm]
        refine J_goto (tgt := 2) dX0_greetBoards_74 (by decide) ?_
        first | exact grA hb hn8 i8 hbi hfi eg (by omega) hR hW hF h21 (fun B9 a b c => ih (i + 1) B9 (by omega) a b c) | exact grB hb hn8 i8 hbi hfi eg (by omega) hR hW hF h21 h51 (fun B9 a b c => ih (i + 1) B9 (by omega) a b c) | exact grC hb hn8 i8 hbi hfi eg (by omega) hR hF h21 h51 hW9 hF9 (fun B9 a b c => ih (i + 1) B9 (by omega) a b c)
      · refine J_aload_n dX0_greetBoards_54 rfl rfl ?_
        refine gX0_bus (by first | assumption | exact isB1 | exact isB18) wf_X0_33 dX0_greetBoards_55 ?_
        refine J_iload_n dX0_greetBoards_58 rfl rfl ?_
        refine cVg wv_X0_199 (c_X2_loseWordsOf hb hW hSi.1 hSi.2.2 (fun k hk => (hIi.1 k hk).2.2) h10 i8) dX0_greetBoards_59 (ob2 (by first | assumption | exact isB1 | exact isB18)) rfl rfl (kk := (fun v m9 hf9 => ?_))
        obtain ⟨rfl, B9, rfl, hW9, hF9⟩ := hf9
        refine J_aload_n dX0_greetBoards_62 rfl rfl ?_
        refine gX0_boards (by first | assumption | exact isB1 | exact isB18) wf_X0_25 dX0_greetBoards_63 ?_
        refine J_iload_n dX0_greetBoards_66 rfl rfl ?_
        refine al_boards hb (k := i) (nI_cl (by omega)) dX0_greetBoards_67 (nIin (by omega) (by decide)) ?_
        refine cVv wv_X0_202 (c_X1_becomeUnknown hb (i := i) i8) dX0_greetBoards_68 (ob1 (by first | assumption | exact isB1 | exact isB18) (by first | assumption | omega)) rfl rfl (kk := ?_)
        refine J_iinc (v := _ + 1) dX0_greetBoards_71 rfl rfl rfl rfl ?_
        rw [show nI i + 1 = nI (i + 1) from (nI_succ i).symm]
        refine J_goto (tgt := 2) dX0_greetBoards_74 (by decide) ?_
        first | exact grA hb hn8 i8 hbi hfi eg (by omega) hR hW hF h21 (fun B9 a b c => ih (i + 1) B9 (by omega) a b c) | exact grB hb hn8 i8 hbi hfi eg (by omega) hR hW hF h21 h51 (fun B9 a b c => ih (i + 1) B9 (by omega) a b c) | exact grC hb hn8 i8 hbi hfi eg (by omega) hR hF h21 h51 hW9 hF9 (fun B9 a b c => ih (i + 1) B9 (by omega) a b c)
    · refine J_aload_n dX0_greetBoards_24 rfl rfl ?_
      refine gX0_boards (by first | assumption | exact isB1 | exact isB18) wf_X0_25 dX0_greetBoards_25 ?_
      refine J_iload_n dX0_greetBoards_28 rfl rfl ?_
      refine al_boards hb (k := i) (nI_cl (by omega)) dX0_greetBoards_29 (nIin (by omega) (by decide)) ?_
      refine J_aload_n dX0_greetBoards_30 rfl rfl ?_
      refine gX0_settings (by first | assumption | exact isB1 | exact isB18) wf_X0_18 dX0_greetBoards_31 ?_
      refine J_iconst (v := 3) dX0_greetBoards_34 (by decide) ?_
      refine rB_set hb 3 (by decide) rfl dX0_greetBoards_35 ?_
      refine J_topi (fun z9 hz9 => ?_)
      obtain rfl : z9 = ((grL s w i) 3) := hz9.trans (by exact hR.2.1 3 (by decide))
      clear hz9
      refine cVv wv_X0_196 (c_X1_greetForTick hb (i := i) i8) dX0_greetBoards_36 (ob1 (by first | assumption | exact isB1 | exact isB18) (by first | assumption | omega)) rfl rfl (kk := ?_)
      refine J_goto (tgt := 71) dX0_greetBoards_39 (by decide) ?_
      refine J_iinc (v := _ + 1) dX0_greetBoards_71 rfl rfl rfl rfl ?_
      rw [show nI i + 1 = nI (i + 1) from (nI_succ i).symm]
      refine J_goto (tgt := 2) dX0_greetBoards_74 (by decide) ?_
      first | exact grA hb hn8 i8 hbi hfi eg (by omega) hR hW hF h21 (fun B9 a b c => ih (i + 1) B9 (by omega) a b c) | exact grB hb hn8 i8 hbi hfi eg (by omega) hR hW hF h21 h51 (fun B9 a b c => ih (i + 1) B9 (by omega) a b c) | exact grC hb hn8 i8 hbi hfi eg (by omega) hR hF h21 h51 hW9 hF9 (fun B9 a b c => ih (i + 1) B9 (by omega) a b c)

set_option maxRecDepth 100000 in
set_option maxHeartbeats 4000000 in
theorem c_X0_greetBoards {X : jX} {ad : Nat → Nat} {m B : Mem} {b : Nat} {s : Rw} {n w : Nat}  (hb : isB b) (hR : RpB B s n) (hW : RpW B s w) (hn8 : n ≤ 8) (hS : OkS s w) (hI : Iw s n w) (hbd : ∀ i, i < n → Bd s i) (hbf : ∀ i, i < n → Bf s i) : Cm X yX0_greetBoards cX0_greetBoards 2 (none) 2 ad [.ref b] (SB m b B) (fun v m9 => v = none ∧ ∃ B9, m9 = SB m b B9 ∧ RpB B9 (grL s w n) n ∧ RpW B9 (grL s w n) w ∧ FrG B B9) := by
  refine Cm.of (own := RX0) (nm := "greetBoards") (by decide +kernel) rfl rfl rfl rfl ?_
  refine J_iconst (v := 0) dX0_greetBoards_0 (by decide) ?_
  refine J_istore_n dX0_greetBoards_1 rfl rfl rfl ?_
  exact greetLoop hb hn8 hS hI hbd hbf n 0 B (Nat.zero_add _) hR hW (fun _ _ => rfl)

