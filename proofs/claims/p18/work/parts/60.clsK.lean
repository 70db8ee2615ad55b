def lI (s : Rw) (d k : Nat) : Int32 := if iG (wv s k) = 0 then 0 else if iO (wv s k) d = 0 then 0 else 1
/-- the word on the bus is lost among the first j -/
def bL (s : Rw) (d j : Nat) : Int32 := if s 295 = -6 then 0 else if (s 295).toNatClampNeg < j then lI s d (s 295).toNatClampNeg else 0
theorem lI_0 {s : Rw} {d k : Nat} (h : lI s d k = 0) : iG (wv s k) = 0 ∨ iO (wv s k) d = 0 := by
  unfold lI at h
  split at h
  · next h1 => exact Or.inl h1
  · split at h
    · next h1 => exact Or.inr h1
    · exact absurd h (by decide)
theorem fgL_st {s : Rw} {d j : Nat} : fgL s d (j + 1) = if iG (wv (fgL s d j) j) = 0 then fgL s d j else if iO (wv (fgL s d j) j) d = 0 then fgL s d j else lostF (fgL s d j) j (wv (fgL s d j) j) := rfl
theorem fgL_pt {s : Rw} {w d : Nat} (hw : w ≤ 200) (hB : OkB s w) : ∀ j, j ≤ w → (∀ k, k < 200 → fgL s d j (95 + k) = if k < j then (if lI s d k = 0 then s (95 + k) else nI (setSt (wv s k) 3)) else s (95 + k)) ∧ fgL s d j 295 = (if bL s d j = 0 then s 295 else -6) ∧ fgL s d j 301 = s 301 + nI (cL s d j) ∧ ∀ x, 94 ≤ x → (x < 95 ∨ 296 ≤ x) → x ≠ 301 → fgL s d j x = s x := by
  intro j
  induction j with
  | zero =>
    intro _
    refine ⟨fun k _ => by rw [if_neg (by omega)]; rfl, ?_, ?_, fun x _ _ _ => rfl⟩
    · have e : bL s d 0 = 0 := by unfold bL; split; rfl; rw [if_neg (by omega)]
      rw [if_pos e]; rfl
    · show s 301 = s 301 + nI 0
      rw [show nI 0 = 0 from rfl, Int32.add_zero]
  | succ j ih =>
    intro hj
    obtain ⟨p1, p2, p3, p4⟩ := ih (by omega)
    have hv : wv (fgL s d j) j = wv s j := wv_eq (by rw [p1 j (by omega), if_neg (by omega)])
    rw [fgL_st, hv]
    have keep : lI s d j = 0 → cL s d (j + 1) = cL s d j → (∀ k, k < 200 → fgL s d j (95 + k) = if k < j + 1 then (if lI s d k = 0 then s (95 + k) else nI (setSt (wv s k) 3)) else s (95 + k)) ∧ fgL s d j 295 = (if bL s d (j + 1) = 0 then s 295 else -6) ∧ fgL s d j 301 = s 301 + nI (cL s d (j + 1)) ∧ ∀ x, 94 ≤ x → (x < 95 ∨ 296 ≤ x) → x ≠ 301 → fgL s d j x = s x := by
      intro hl hc
      refine ⟨fun k hk => ?_, ?_, by rw [hc]; exact p3, p4⟩
      · rw [p1 k hk]
        by_cases e : k = j
        · rw [if_neg (show ¬ k < j by omega), if_pos (show k < j + 1 by omega), e, if_pos hl]
        · by_cases e2 : k < j
          · rw [if_pos e2, if_pos (show k < j + 1 by omega)]
          · rw [if_neg e2, if_neg (show ¬ k < j + 1 by omega)]
      · rw [p2]
        have e : bL s d (j + 1) = bL s d j := by
          unfold bL
          split
          · rfl
          · by_cases e : (s 295).toNatClampNeg = j
            · rw [if_pos (by omega), if_neg (by omega), e, hl]
            · by_cases e2 : (s 295).toNatClampNeg < j
              · rw [if_pos e2, if_pos (by omega)]
              · rw [if_neg e2, if_neg (by omega)]
        rw [e]
    by_cases hg : iG (wv s j) = 0
    · rw [if_pos hg]
      exact keep (by unfold lI; rw [if_pos hg]) (by show (if iG (wv s j) = 0 then _ else _) = _; rw [if_pos hg])
    · rw [if_neg hg]
      by_cases ho : iO (wv s j) d = 0
      · rw [if_pos ho]
        exact keep (by unfold lI; rw [if_neg hg, if_pos ho]) (by show (if iG (wv s j) = 0 then _ else _) = _; rw [if_neg hg, if_pos ho])
      · rw [if_neg ho]
        have hl : lI s d j = 1 := by unfold lI; rw [if_neg hg, if_neg ho]
        have hc : cL s d (j + 1) = cL s d j + 1 := by show (if iG (wv s j) = 0 then _ else _) = _; rw [if_neg hg, if_neg ho]
        refine ⟨fun k hk => ?_, ?_, ?_, fun x h1 h2 h3 => ?_⟩
        · rw [lostF_wd hk, p1 k hk]
          by_cases e : k = j
          · rw [if_pos e, if_pos (show k < j + 1 by omega), e, if_neg (by rw [hl]; decide)]
          · rw [if_neg e]
            by_cases e2 : k < j
            · rw [if_pos e2, if_pos (show k < j + 1 by omega)]
            · rw [if_neg e2, if_neg (show ¬ k < j + 1 by omega)]
        · rw [lostF_bus (by omega), p2]
          rcases hB with q | ⟨k, hk, q, -⟩
          · have e (i : Nat) : bL s d i = 0 := by unfold bL; rw [if_pos q]
            rw [e, e, if_pos rfl, q, if_neg (fun g => nI_m6 (show j < 200 by omega) g.symm)]
          · have e (i : Nat) : bL s d i = if k < i then lI s d k else 0 := by unfold bL; rw [if_neg (by rw [q]; exact nI_m6 (by omega)), q, nI_cl (by omega)]
            rw [e, e, q]
            by_cases e1 : k = j
            · subst e1
              rw [if_neg (Nat.lt_irrefl k), if_pos rfl, if_pos rfl, if_pos (Nat.lt_succ_self k), if_neg (by rw [hl]; decide)]
            · have ne : ¬ nI k = nI j := fun g => e1 (nI_ij (by omega) (by omega) g)
              by_cases e2 : k < j
              · rw [if_pos e2, if_pos (show k < j + 1 by omega)]
                by_cases e3 : lI s d k = 0
                · rw [if_pos e3, if_neg ne]
                · rw [if_neg e3, if_neg (fun g => nI_m6 (show j < 200 by omega) g.symm)]
              · rw [if_neg e2, if_neg (show ¬ k < j + 1 by omega), if_pos rfl, if_neg ne]
        · unfold lostF
          rw [upd_same, p3, hc, nI_succ, Int32.add_assoc]
        · unfold lostF
          rw [upd_at, if_neg h3, upd_at, if_neg (by omega), upd_at, if_neg (by omega)]
          exact p4 x h1 h2 h3
def nO (s : Rw) (d k : Nat) : Bool := if iO (wv s k) d = 0 then true else false
theorem nO_t {s : Rw} {d k : Nat} (h : iO (wv s k) d = 0) : nO s d k = true := by unfold nO; rw [if_pos h]
theorem nO_f {s : Rw} {d k : Nat} (h : ¬ iO (wv s k) d = 0) : nO s d k = false := by unfold nO; rw [if_neg h]
theorem wl_lose {s t : Rw} {w d : Nat} (hv : ∀ k, k < w → wv t k = if lI s d k = 0 then wv s k else setSt (wv s k) 3) : wl t w = (wl s w).filter (nO s d) := by
  unfold wl
  rw [List.filter_filter]
  apply List.filter_congr
  intro k hk
  have hkw := List.mem_range.mp hk
  unfold isWt
  rw [hv k hkw]
  by_cases ho : iO (wv s k) d = 0
  · have e : lI s d k = 0 := by
      unfold lI
      rw [if_pos ho]
      split <;> rfl
    rw [if_pos e, nO_t ho]
    rfl
  · rw [nO_f ho]
    by_cases hg : iG (wv s k) = 0
    · have e : lI s d k = 0 := by unfold lI; rw [if_pos hg]
      have := iG_0.1 hg
      rw [if_pos e]
      cases hb : Nat.beq (wv s k / 64 % 4) 0 with
      | false => rfl
      | true => have := Nat.eq_of_beq_eq_true hb; omega
    · have e : ¬ lI s d k = 0 := by unfold lI; rw [if_neg hg, if_neg ho]; decide
      rw [if_neg e, (setSt_p (show 3 < 4 by decide)).2.2.1]
      rfl
/-- a block's bus behind the loss of a board's words -/
theorem rel_lose {B B' : Mem} {s : Rw} {w d : Nat} (hW : RpW B s w) (hO : OkW s w) (hB : OkB s w) (h4 : B' 11 4 = B 11 4) (h12 : B' 12 = B 12) (h13 : B' 13 = B 13) (h15 : B' 15 = B 15) (h14 : ∀ k, k < w → B' 14 k = if lI s d k = 0 then B 14 k else 3) (hQ : QL B' ((wl s w).filter (nO s d))) (h7 : B' 11 7 = if bL s d w = 0 then s 295 else -6) (h8 : bL s d w = 0 → B' 11 8 = B 11 8) (h9 : B' 11 9 = B 11 9) (h10 : B' 11 10 = s 301 + nI (cL s d w)) (h11 : B' 11 11 = B 11 11) : RpW B' (fgL s d w) w := by
  have hw := hO.1
  obtain ⟨p1, p2, p3, p4⟩ := fgL_pt (d := d) hw hB w (Nat.le_refl _)
  obtain ⟨g1, g2, g3, g4, g5, g6, g7, g8⟩ := hW
  have hc : ∀ k, k < w → fgL s d w (95 + k) = if lI s d k = 0 then s (95 + k) else nI (setSt (wv s k) 3) := fun k hk => by rw [p1 k (by omega), if_pos hk]
  have hlt : ∀ k, k < w → setSt (wv s k) 3 < 1024 := fun k hk => setSt_lt (hO.2.2 k hk).2 (by decide)
  have hv : ∀ k, k < w → wv (fgL s d w) k = if lI s d k = 0 then wv s k else setSt (wv s k) 3 := fun k hk => by
    by_cases e : lI s d k = 0
    · rw [if_pos e]; exact wv_eq (by rw [hc k hk, if_pos e])
    · rw [if_neg e]; exact wv_of (hlt k hk) (by rw [hc k hk, if_neg e])
  refine ⟨h4.trans g1, fun k hk => ?_, by rw [wl_lose hv]; exact hQ, by rw [h7, p2], ?_, ?_, by rw [h10, p3], ?_⟩
  · obtain ⟨a1, a2, a3, a4⟩ := g2 k hk
    unfold RWd
    rw [hv k hk, h12, h13, h15, h14 k hk]
    by_cases e : lI s d k = 0
    · rw [if_pos e, if_pos e]; exact ⟨a1, a2, a3, a4⟩
    · rw [if_neg e, if_neg e]
      obtain ⟨d1, d2, d3, d4⟩ := setSt_p (v := wv s k) (show 3 < 4 by decide)
      rw [d1, d2, d3, d4]
      exact ⟨a1, a2, rfl, a4⟩
  · rw [p2]
    by_cases e : bL s d w = 0
    · rw [if_pos e, h8 e, p4 296 (by decide) (by decide) (by decide)]; exact g5
    · rw [if_neg e]; exact Or.inl rfl
  · rw [h9, p4 300 (by decide) (by decide) (by decide)]; exact g6
  · rw [h11, p4 299 (by decide) (by decide) (by decide)]; exact g8
/-- the queue part of a loss, the first i of the queue looked at -/
def LQ (B0 B : Mem) (s : Rw) (w d i kept : Nat) : Prop := (∀ c, c ≠ 11 → c ≠ 14 → c ≠ 16 → B c = B0 c) ∧ (∀ k, k ≠ 10 → B 11 k = B0 11 k) ∧ B 11 10 = s 301 + nI (cO s d ((wl s w).take i)) ∧ (∀ k, k < w → B 14 k = if k ∈ (wl s w).take i ∧ ¬ iO (wv s k) d = 0 then 3 else B0 14 k) ∧ kept = (((wl s w).take i).filter (nO s d)).length ∧ (∀ j, j < kept → B 16 j = nI ((((wl s w).take i).filter (nO s d)).getD j 0)) ∧ ∀ j, i ≤ j → j < (wl s w).length → B 16 j = nI ((wl s w).getD j 0)
theorem LQ_0 {B : Mem} {s : Rw} {w d : Nat} (hW : RpW B s w) : LQ B B s w d 0 0 := by
  refine ⟨fun _ _ _ _ => rfl, fun _ _ => rfl, ?_, fun k _ => ?_, rfl, fun j hj => absurd hj (by omega), fun j _ hj => hW.2.2.1.2 j hj⟩
  · rw [List.take_zero]
    show B 11 10 = s 301 + nI 0
    rw [show nI 0 = 0 from rfl, Int32.add_zero]
    exact hW.2.2.2.2.2.2.1
  · rw [List.take_zero, if_neg (fun g => absurd g.1 (by simp))]
theorem fl_app {s : Rw} {d k : Nat} {l : List Nat} : (l ++ [k]).filter (nO s d) = if iO (wv s k) d = 0 then l.filter (nO s d) ++ [k] else l.filter (nO s d) := by
  rw [List.filter_append]
  by_cases h : iO (wv s k) d = 0
  · rw [if_pos h, List.filter_cons_of_pos (nO_t h)]; rfl
  · rw [if_neg h, List.filter_cons_of_neg (by rw [nO_f h]; decide)]; simp
theorem getD_at {l : List Nat} {x : Nat} : (l ++ [x]).getD l.length 0 = x := by
  rw [List.getD_eq_getElem?_getD, List.getElem?_append_right (Nat.le_refl _), Nat.sub_self]
  rfl
theorem getD_lt {l : List Nat} {x j : Nat} (h : j < l.length) : (l ++ [x]).getD j 0 = l.getD j 0 := by
  rw [List.getD_eq_getElem?_getD, List.getD_eq_getElem?_getD, List.getElem?_append_left h]
theorem kept_le {s : Rw} {w d i : Nat} : (((wl s w).take i).filter (nO s d)).length ≤ i := Nat.le_trans (List.length_filter_le _ _) (List.length_take_le _ _)
theorem LQ_lost {B0 B : Mem} {s : Rw} {w d i kept : Nat} (h : LQ B0 B s w d i kept) (hi : i < (wl s w).length) (ho : ¬ iO (wv s ((wl s w).getD i 0)) d = 0) : LQ B0 (up (up B 14 ((wl s w).getD i 0) 3) 11 10 (s 301 + nI (cO s d ((wl s w).take i)) + 1)) s w d (i + 1) kept := by
  obtain ⟨h1, h2, h3, h4, h5, h6, h7⟩ := h
  have ts := take_succ hi
  refine ⟨fun c c1 c2 c3 => by rw [up_ne c1, up_ne c2]; exact h1 c c1 c2 c3, fun k hk => by rw [up_rr, if_neg hk, up_ne (by decide)]; exact h2 k hk, ?_, fun k hk => ?_, ?_, fun j hj => ?_, fun j hj hj2 => by rw [up_ne (by decide), up_ne (by decide)]; exact h7 j (by omega) hj2⟩
  · rw [up_rr, if_pos rfl, ts, cO_app, if_neg ho, nI_succ, Int32.add_assoc]
  · rw [up_ne (by decide), up_rr, ts]
    by_cases e : k = (wl s w).getD i 0
    · rw [if_pos e, if_pos ⟨by rw [e]; simp, by rw [e]; exact ho⟩]
    · rw [if_neg e, h4 k hk]
      by_cases q : k ∈ (wl s w).take i ∧ ¬ iO (wv s k) d = 0
      · rw [if_pos q, if_pos ⟨List.mem_append_left _ q.1, q.2⟩]
      · rw [if_neg q, if_neg]
        rintro ⟨g1, g2⟩
        rcases List.mem_append.mp g1 with g | g
        · exact q ⟨g, g2⟩
        · exact e (List.mem_singleton.mp g)
  · rw [ts, fl_app, if_neg ho]; exact h5
  · rw [ts, fl_app, if_neg ho, up_ne (by decide), up_ne (by decide)]; exact h6 j hj
theorem LQ_keep {B0 B : Mem} {s : Rw} {w d i kept : Nat} (h : LQ B0 B s w d i kept) (hi : i < (wl s w).length) (ho : iO (wv s ((wl s w).getD i 0)) d = 0) : LQ B0 (up B 16 kept (nI ((wl s w).getD i 0))) s w d (i + 1) (kept + 1) := by
  obtain ⟨h1, h2, h3, h4, h5, h6, h7⟩ := h
  have ts := take_succ hi
  have hk := kept_le (s := s) (w := w) (d := d) (i := i)
  have ef : ((wl s w).take (i + 1)).filter (nO s d) = ((wl s w).take i).filter (nO s d) ++ [(wl s w).getD i 0] := by rw [ts, fl_app, if_pos ho]
  refine ⟨fun c c1 c2 c3 => by rw [up_ne c3]; exact h1 c c1 c2 c3, fun k hk => by rw [up_ne (by decide)]; exact h2 k hk, ?_, fun k hk => ?_, ?_, fun j hj => ?_, fun j hj hj2 => ?_⟩
  · rw [up_ne (by decide), ts, cO_app, if_pos ho]; exact h3
  · rw [up_ne (by decide), h4 k hk, ts]
    by_cases q : k ∈ (wl s w).take i ∧ ¬ iO (wv s k) d = 0
    · rw [if_pos q, if_pos ⟨List.mem_append_left _ q.1, q.2⟩]
    · rw [if_neg q, if_neg]
      rintro ⟨g1, g2⟩
      rcases List.mem_append.mp g1 with g | g
      · exact q ⟨g, g2⟩
      · rw [List.mem_singleton.mp g] at g2; exact g2 ho
  · rw [ef, List.length_append, ← h5]; rfl
  · rw [ef, up_rr]
    by_cases e : j = kept
    · rw [if_pos e, e, h5, getD_at]
    · rw [if_neg e, h6 j (by omega), getD_lt (by omega)]
  · rw [up_rr, if_neg (by omega)]; exact h7 j (by omega) hj2
set_option maxRecDepth 100000 in
set_option maxHeartbeats 4000000 in
theorem c_isBetweenG {X : jX} {ad : Nat → Nat} {m B : Mem} {b : Nat} {s : Rw} {w : Nat} {k d : Nat} (hb : isB b) (h4w : B 11 4 = nI w) (h12 : B 12 k = nI (wv s k % 8)) (h13 : B 13 k = nI (wv s k / 8 % 8)) (hw : w ≤ 200) (hk : k < w) (hd : d < 8) : Cd X yX2_isBetween cX2_isBetween 3 (some .boolean) 0 ad [.ref (b + 11), .int (nI k), .int (nI d)] (SB m b B) (some (.int (iO (wv s k) d))) ((SB m b B)) := by
  refine Cm.of (own := RX2) (nm := "isBetween") (by decide +kernel) rfl rfl rfl rfl ?_
  refine J_iload_n dX2_isBetween_0 rfl rfl ?_
  refine J_if_lt (tgt := 36) dX2_isBetween_1 (by decide) (fun h1 => absurd h1 (nI_lt0 (by omega))) (fun h1 => ?_)
  refine J_iload_n dX2_isBetween_4 rfl rfl ?_
  refine J_aload_n dX2_isBetween_5 rfl rfl ?_
  refine gB_sent (by first | assumption | exact isB1 | exact isB18) wf_X2_31 dX2_isBetween_6 ?_
  refine J_topi (fun z9 hz9 => ?_)
  obtain rfl : z9 = (nI w) := hz9.trans (by exact h4w)
  clear hz9
  refine J_icmp_ge (tgt := 36) dX2_isBetween_9 (by decide) (fun h9 => absurd h9 (nI_nle1 hk (by omega))) (fun h9 => ?_)
  refine J_aload_n dX2_isBetween_12 rfl rfl ?_
  refine gX2_senders (by first | assumption | exact isB1 | exact isB18) wf_X2_9 dX2_isBetween_13 ?_
  refine J_iload_n dX2_isBetween_16 rfl rfl ?_
  refine rB_w12 hb k (by omega) rfl dX2_isBetween_17 ?_
  refine J_topi (fun z9 hz9 => ?_)
  obtain rfl : z9 = (nI (wv s k % 8)) := hz9.trans (by exact h12)
  clear hz9
  refine J_iload_n dX2_isBetween_18 rfl rfl ?_
  refine J_icmp_eq (tgt := 32) dX2_isBetween_19 (by decide) (fun h19 => ?_) (fun h19 => ?_)
  · refine J_iconst (v := 1) dX2_isBetween_32 (by decide) ?_
    refine J_goto (tgt := 37) dX2_isBetween_33 (by decide) ?_
    refine r_bool dX2_isBetween_37 (by first | exact Or.inl rfl | exact Or.inr rfl | exact i01 | exact jin01) ?_
    first | exact ⟨by rw [iO, if_pos (Or.inl (nI_ij (by omega) (by omega) h19))], rfl⟩ | exact ⟨by rw [iO, if_pos (Or.inr (nI_ij (by omega) (by omega) h29))], rfl⟩ | exact ⟨by rw [iO, if_neg (by rintro (q | q); exact h19 (by rw [q]); exact h29 (by rw [q]))], rfl⟩
  · refine J_aload_n dX2_isBetween_22 rfl rfl ?_
    refine gX2_receivers (by first | assumption | exact isB1 | exact isB18) wf_X2_15 dX2_isBetween_23 ?_
    refine J_iload_n dX2_isBetween_26 rfl rfl ?_
    refine rB_w13 hb k (by omega) rfl dX2_isBetween_27 ?_
    refine J_topi (fun z9 hz9 => ?_)
    obtain rfl : z9 = (nI (wv s k / 8 % 8)) := hz9.trans (by exact h13)
    clear hz9
    refine J_iload_n dX2_isBetween_28 rfl rfl ?_
    refine J_icmp_ne (tgt := 36) dX2_isBetween_29 (by decide) (fun h29 => ?_) (fun h29 => ?_)
    · refine J_iconst (v := 0) dX2_isBetween_36 (by decide) ?_
      refine r_bool dX2_isBetween_37 (by first | exact Or.inl rfl | exact Or.inr rfl | exact i01 | exact jin01) ?_
      first | exact ⟨by rw [iO, if_pos (Or.inl (nI_ij (by omega) (by omega) h19))], rfl⟩ | exact ⟨by rw [iO, if_pos (Or.inr (nI_ij (by omega) (by omega) h29))], rfl⟩ | exact ⟨by rw [iO, if_neg (by rintro (q | q); exact h19 (by rw [q]); exact h29 (by rw [q]))], rfl⟩
    · refine J_iconst (v := 1) dX2_isBetween_32 (by decide) ?_
      refine J_goto (tgt := 37) dX2_isBetween_33 (by decide) ?_
      refine r_bool dX2_isBetween_37 (by first | exact Or.inl rfl | exact Or.inr rfl | exact i01 | exact jin01) ?_
      first | exact ⟨by rw [iO, if_pos (Or.inl (nI_ij (by omega) (by omega) h19))], rfl⟩ | exact ⟨by rw [iO, if_pos (Or.inr (nI_ij (by omega) (by omega) h29))], rfl⟩ | exact ⟨by rw [iO, if_neg (by rintro (q | q); exact h19 (by rw [q]); exact h29 (by rw [q]))], rfl⟩

/-- the queue behind the loop: all that the walk's end needs -/
theorem LQ_end {B0 B : Mem} {s : Rw} {w d kept : Nat} (h : LQ B0 B s w d (wl s w).length kept) : B 11 10 = s 301 + nI (cO s d (wl s w)) ∧ (∀ k, k < w → B 14 k = if wv s k / 64 % 4 = 0 ∧ ¬ iO (wv s k) d = 0 then 3 else B0 14 k) ∧ QL (up B 11 6 (nI kept)) ((wl s w).filter (nO s d)) := by
  obtain ⟨h1, h2, h3, h4, h5, h6, h7⟩ := h
  rw [List.take_length] at h3 h5 h6
  refine ⟨h3, fun k hk => ?_, by rw [up_rr, if_pos rfl, h5], fun j hj => by rw [up_ne (by decide)]; exact h6 j (by omega)⟩
  rw [h4 k hk, List.take_length]
  by_cases q : k ∈ wl s w ∧ ¬ iO (wv s k) d = 0
  · rw [if_pos q, if_pos ⟨(wl_mem q.1).2, q.2⟩]
  · rw [if_neg q, if_neg]
    rintro ⟨g1, g2⟩
    refine q ⟨?_, g2⟩
    unfold wl
    exact List.mem_filter.mpr ⟨List.mem_range.mpr hk, beq0.mpr g1⟩
theorem lI_st {s : Rw} {d k : Nat} {x : Int32} (h1 : ¬ wv s k / 64 % 4 = 1) : (if wv s k / 64 % 4 = 0 ∧ ¬ iO (wv s k) d = 0 then (3 : Int32) else x) = if lI s d k = 0 then x else 3 := by
  unfold lI
  by_cases h0 : wv s k / 64 % 4 = 0
  · have hg : ¬ iG (wv s k) = 0 := by rw [iG_0]; omega
    rw [if_neg hg]
    by_cases ho : iO (wv s k) d = 0
    · rw [if_pos ho, if_pos rfl, if_neg (fun g => g.2 ho)]
    · rw [if_neg ho, if_pos (show wv s k / 64 % 4 = 0 ∧ ¬ iO (wv s k) d = 0 from ⟨h0, ho⟩), if_neg (show ¬ (1 : Int32) = 0 by decide)]
  · have hg : iG (wv s k) = 0 := by rw [iG_0]; omega
    rw [if_pos hg, if_pos rfl, if_neg (fun g => h0 g.1)]
theorem lI_bus {s : Rw} {d k : Nat} (h1 : wv s k / 64 % 4 = 1) : lI s d k = if iO (wv s k) d = 0 then 0 else 1 := by
  unfold lI
  rw [if_neg (by rw [iG_0]; omega)]
section LE
variable {B0 B : Mem} {s : Rw} {w d kept n : Nat}
/-- the bus is free -/
theorem lose0 (hW : RpW B0 s w) (hO : OkW s w) (hB : OkB s w) (hG : ∀ k, k < w → (wv s k / 64 % 4 = 1 ↔ s 295 = nI k)) (h : LQ B0 B s w d (wl s w).length kept) (h6 : s 295 = -6) : RpW (up B 11 6 (nI kept)) (fgL s d w) w := by
  have hw := hO.1
  obtain ⟨e1, e2, e3⟩ := LQ_end h
  obtain ⟨h1, h2, -⟩ := h
  have hb : bL s d w = 0 := by unfold bL; rw [if_pos h6]
  have hn1 : ∀ k, k < w → ¬ wv s k / 64 % 4 = 1 := fun k hk g => nI_m6 (show k < 200 by omega) (((hG k hk).1 g).symm.trans h6)
  refine rel_lose hW hO hB ?_ ?_ ?_ ?_ (fun k hk => ?_) e3 ?_ (fun _ => ?_) ?_ ?_ ?_
  · rw [up_rr, if_neg (by decide)]; exact h2 4 (by decide)
  · rw [up_ne (by decide)]; exact h1 12 (by decide) (by decide) (by decide)
  · rw [up_ne (by decide)]; exact h1 13 (by decide) (by decide) (by decide)
  · rw [up_ne (by decide)]; exact h1 15 (by decide) (by decide) (by decide)
  · rw [up_ne (by decide), e2 k hk, lI_st (hn1 k hk)]
  · rw [up_rr, if_neg (by decide), h2 7 (by decide), if_pos hb]; exact hW.2.2.2.1
  · rw [up_rr, if_neg (by decide)]; exact h2 8 (by decide)
  · rw [up_rr, if_neg (by decide)]; exact h2 9 (by decide)
  · rw [up_rr, if_neg (by decide), e1, cL_eq hw hB hG w (Nat.le_refl _)]
    unfold bO
    rw [if_pos h6, Nat.zero_add]
  · rw [up_rr, if_neg (by decide)]; exact h2 11 (by decide)
/-- the word on the bus is another's -/
theorem lose1 (hW : RpW B0 s w) (hO : OkW s w) (hB : OkB s w) (hG : ∀ k, k < w → (wv s k / 64 % 4 = 1 ↔ s 295 = nI k)) (h : LQ B0 B s w d (wl s w).length kept) {x : Nat} (hx : x < w) (h6 : s 295 = nI x) (ho : iO (wv s x) d = 0) : RpW (up B 11 6 (nI kept)) (fgL s d w) w := by
  have hw := hO.1
  obtain ⟨e1, e2, e3⟩ := LQ_end h
  obtain ⟨h1, h2, -⟩ := h
  have hm : ¬ s 295 = -6 := by rw [h6]; exact nI_m6 (by omega)
  have hl : lI s d x = 0 := by rw [lI_bus ((hG x hx).2 h6), if_pos ho]
  have hb : bL s d w = 0 := by unfold bL; rw [if_neg hm, h6, nI_cl (by omega), if_pos hx]; exact hl
  refine rel_lose hW hO hB ?_ ?_ ?_ ?_ (fun k hk => ?_) e3 ?_ (fun _ => ?_) ?_ ?_ ?_
  · rw [up_rr, if_neg (by decide)]; exact h2 4 (by decide)
  · rw [up_ne (by decide)]; exact h1 12 (by decide) (by decide) (by decide)
  · rw [up_ne (by decide)]; exact h1 13 (by decide) (by decide) (by decide)
  · rw [up_ne (by decide)]; exact h1 15 (by decide) (by decide) (by decide)
  · rw [up_ne (by decide), e2 k hk]
    by_cases hk1 : wv s k / 64 % 4 = 1
    · have e : k = x := nI_ij (by omega) (by omega) (((hG k hk).1 hk1).symm.trans h6)
      rw [if_neg (by omega), e, if_pos hl]
    · exact lI_st hk1
  · rw [up_rr, if_neg (by decide), h2 7 (by decide), if_pos hb]; exact hW.2.2.2.1
  · rw [up_rr, if_neg (by decide)]; exact h2 8 (by decide)
  · rw [up_rr, if_neg (by decide)]; exact h2 9 (by decide)
  · rw [up_rr, if_neg (by decide), e1, cL_eq hw hB hG w (Nat.le_refl _)]
    unfold bO
    rw [if_neg hm, h6, nI_cl (by omega), if_pos hx, if_pos ho, Nat.zero_add]
  · rw [up_rr, if_neg (by decide)]; exact h2 11 (by decide)
/-- the word on the bus is lost -/
theorem lose2 (hW : RpW B0 s w) (hO : OkW s w) (hB : OkB s w) (hG : ∀ k, k < w → (wv s k / 64 % 4 = 1 ↔ s 295 = nI k)) (h : LQ B0 B s w d (wl s w).length kept) {x : Nat} (hx : x < w) (h6 : s 295 = nI x) (ho : ¬ iO (wv s x) d = 0) : RpW (up (up (up (up (up B 11 6 (nI kept)) 11 10 (s 301 + nI (cO s d (wl s w)) + 1)) 14 x 3) 11 7 (-6)) 11 8 0) (fgL s d w) w := by
  have hw := hO.1
  obtain ⟨e1, e2, e3⟩ := LQ_end h
  obtain ⟨h1, h2, -⟩ := h
  have hm : ¬ s 295 = -6 := by rw [h6]; exact nI_m6 (by omega)
  have hst := (hG x hx).2 h6
  have hl : lI s d x = 1 := by rw [lI_bus hst, if_neg ho]
  have hb : ¬ bL s d w = 0 := by unfold bL; rw [if_neg hm, h6, nI_cl (by omega), if_pos hx, hl]; decide
  refine rel_lose hW hO hB ?_ ?_ ?_ ?_ (fun k hk => ?_) (QL_same e3 ?_ ?_) ?_ (fun g => absurd g hb) ?_ ?_ ?_
  · rw [up_rr, if_neg (by decide), up_rr, if_neg (by decide), up_ne (by decide), up_rr, if_neg (by decide), up_rr, if_neg (by decide)]; exact h2 4 (by decide)
  · rw [up_ne (by decide), up_ne (by decide), up_ne (by decide), up_ne (by decide), up_ne (by decide)]; exact h1 12 (by decide) (by decide) (by decide)
  · rw [up_ne (by decide), up_ne (by decide), up_ne (by decide), up_ne (by decide), up_ne (by decide)]; exact h1 13 (by decide) (by decide) (by decide)
  · rw [up_ne (by decide), up_ne (by decide), up_ne (by decide), up_ne (by decide), up_ne (by decide)]; exact h1 15 (by decide) (by decide) (by decide)
  · rw [up_ne (by decide), up_ne (by decide), up_rr, up_ne (by decide), up_ne (by decide)]
    by_cases e : k = x
    · rw [if_pos e, e, if_neg (by rw [hl]; decide)]
    · rw [if_neg e, e2 k hk]
      by_cases hk1 : wv s k / 64 % 4 = 1
      · exact absurd (nI_ij (by omega) (by omega) (((hG k hk).1 hk1).symm.trans h6)) e
      · exact lI_st hk1
  · rw [up_rr, if_neg (by decide), up_rr, if_neg (by decide), up_ne (by decide), up_rr, if_neg (by decide)]
  · rw [up_ne (by decide), up_ne (by decide), up_ne (by decide), up_ne (by decide)]
  · rw [up_rr, if_neg (by decide), up_rr, if_pos rfl, if_neg hb]
  · rw [up_rr, if_neg (by decide), up_rr, if_neg (by decide), up_ne (by decide), up_rr, if_neg (by decide), up_rr, if_neg (by decide)]; exact h2 9 (by decide)
  · rw [up_rr, if_neg (by decide), up_rr, if_neg (by decide), up_ne (by decide), up_rr, if_pos rfl, cL_eq hw hB hG w (Nat.le_refl _)]
    unfold bO
    rw [if_neg hm, h6, nI_cl (by omega), if_pos hx, if_neg ho, Nat.add_comm 1, nI_succ, Int32.add_assoc]
  · rw [up_rr, if_neg (by decide), up_rr, if_neg (by decide), up_ne (by decide), up_rr, if_neg (by decide), up_rr, if_neg (by decide)]; exact h2 11 (by decide)
end LE
theorem FrW_LQ {B0 B : Mem} {s : Rw} {w d i kept : Nat} (h : LQ B0 B s w d i kept) : FrW B0 B := fun r hr => h.1 r (by omega) (by omega) (by omega)
set_option maxRecDepth 100000 in
set_option maxHeartbeats 4000000 in
theorem loseT0 {X : jX} {ad : Nat → Nat} {m B0 B : Mem} {b : Nat} {s : Rw} {w d kept : Nat} {x i : Nat} (hb : isB b) (hW : RpW B0 s w) (hO : OkW s w) (hB : OkB s w) (hG : ∀ k, k < w → (wv s k / 64 % 4 = 1 ↔ s 295 = nI k)) (h10 : (wl s w).length ≤ 10) (hd : d < 8) (h : LQ B0 B s w d (wl s w).length kept) (h6 : s 295 = -6) : Jg X RX2 cX2_loseWordsOf 5 (none) "loseWordsOf" 1 0 0 (QF X ad (fun v m9 => v = none ∧ ∃ B9, m9 = SB m b B9 ∧ RpW B9 (fgL s d w) w ∧ FrW B0 B9)) ad 0 0 68 [(0, .ref (b + 11)), (1, .int (nI d)), (2, .int (nI kept)), (3, .int (nI i))] [] (WS X ad (SB m b B)) := by
  have hw := hO.1
  have h2 := h.2.1
  have e1 := (LQ_end h).1
  refine J_aload_n dX2_loseWordsOf_68 rfl rfl ?_
  refine J_iload_n dX2_loseWordsOf_69 rfl rfl ?_
  refine pB_queued (by first | assumption | exact isB1 | exact isB18) wf_X2_40 dX2_loseWordsOf_70 ?_
  refine J_aload_n dX2_loseWordsOf_73 rfl rfl ?_
  refine J_aload_n dX2_loseWordsOf_74 rfl rfl ?_
  refine gB_onBus (by first | assumption | exact isB1 | exact isB18) wf_X2_27 dX2_loseWordsOf_75 ?_
  refine J_topi (fun z9 hz9 => ?_)
  obtain rfl : z9 = -6 := hz9.trans (by rw [up_rr, if_neg (by decide), h2 7 (by decide)]; exact hW.2.2.2.1.trans h6)
  clear hz9
  refine J_iload_n dX2_loseWordsOf_78 rfl rfl ?_
  refine cVi wv_X2_59 (c_isBetweenN hb) dX2_loseWordsOf_79 (ob2 (by first | assumption | exact isB1 | exact isB18)) rfl rfl (kk := ?_)
  refine J_if_eq (tgt := 100) dX2_loseWordsOf_82 (by decide) (fun h82 => ?_) (fun h82 => absurd rfl h82)
  refine r_void dX2_loseWordsOf_100 ?_
  exact ⟨rfl, _, rfl, lose0 hW hO hB hG h h6, FrW.up (FrW_LQ h) (by decide)⟩

set_option maxRecDepth 100000 in
set_option maxHeartbeats 4000000 in
theorem loseT1 {X : jX} {ad : Nat → Nat} {m B0 B : Mem} {b : Nat} {s : Rw} {w d kept : Nat} {x i : Nat} (hb : isB b) (hW : RpW B0 s w) (hO : OkW s w) (hB : OkB s w) (hG : ∀ k, k < w → (wv s k / 64 % 4 = 1 ↔ s 295 = nI k)) (h10 : (wl s w).length ≤ 10) (hd : d < 8) (h : LQ B0 B s w d (wl s w).length kept) (hx : x < w) (h6 : s 295 = nI x) : Jg X RX2 cX2_loseWordsOf 5 (none) "loseWordsOf" 1 0 0 (QF X ad (fun v m9 => v = none ∧ ∃ B9, m9 = SB m b B9 ∧ RpW B9 (fgL s d w) w ∧ FrW B0 B9)) ad 0 0 68 [(0, .ref (b + 11)), (1, .int (nI d)), (2, .int (nI kept)), (3, .int (nI i))] [] (WS X ad (SB m b B)) := by
  have hw := hO.1
  have h2 := h.2.1
  have e1 := (LQ_end h).1
  refine J_aload_n dX2_loseWordsOf_68 rfl rfl ?_
  refine J_iload_n dX2_loseWordsOf_69 rfl rfl ?_
  refine pB_queued (by first | assumption | exact isB1 | exact isB18) wf_X2_40 dX2_loseWordsOf_70 ?_
  refine J_aload_n dX2_loseWordsOf_73 rfl rfl ?_
  refine J_aload_n dX2_loseWordsOf_74 rfl rfl ?_
  refine gB_onBus (by first | assumption | exact isB1 | exact isB18) wf_X2_27 dX2_loseWordsOf_75 ?_
  refine J_topi (fun z9 hz9 => ?_)
  obtain rfl : z9 = (nI x) := hz9.trans (by rw [up_rr, if_neg (by decide), h2 7 (by decide)]; exact hW.2.2.2.1.trans h6)
  clear hz9
  refine J_iload_n dX2_loseWordsOf_78 rfl rfl ?_
  refine cVi wv_X2_59 (c_isBetweenG (w := w) hb (by rw [up_rr, if_neg (by decide), h2 4 (by decide)]; exact hW.1) (by rw [up_ne (by decide), h.1 12 (by decide) (by decide) (by decide)]; exact (hW.2.1 x hx).1) (by rw [up_ne (by decide), h.1 13 (by decide) (by decide) (by decide)]; exact (hW.2.1 x hx).2.1) hw hx hd) dX2_loseWordsOf_79 (ob2 (by first | assumption | exact isB1 | exact isB18)) rfl rfl (kk := ?_)
  refine J_if_eq (tgt := 100) dX2_loseWordsOf_82 (by decide) (fun h82 => ?_) (fun h82 => ?_)
  · refine r_void dX2_loseWordsOf_100 ?_
    first | exact ⟨rfl, _, rfl, lose1 hW hO hB hG h hx h6 h82, FrW.up (FrW_LQ h) (by decide)⟩ | exact ⟨rfl, _, rfl, lose2 hW hO hB hG h hx h6 h82, FrW.up (FrW.up (FrW.up (FrW.up (FrW.up (FrW_LQ h) (by decide)) (by decide)) (by decide)) (by decide)) (by decide)⟩
  · refine J_aload_n dX2_loseWordsOf_85 rfl rfl ?_
    refine J_dup dX2_loseWordsOf_86 rfl ?_
    refine gB_lost (by first | assumption | exact isB1 | exact isB18) wf_X2_49 dX2_loseWordsOf_87 ?_
    refine J_topi (fun z9 hz9 => ?_)
    obtain rfl : z9 = (s 301 + nI (cO s d (wl s w))) := hz9.trans (by rw [up_rr, if_neg (by decide)]; exact e1)
    clear hz9
    refine J_iconst (v := 1) dX2_loseWordsOf_90 (by decide) ?_
    refine J_iadd dX2_loseWordsOf_91 ?_
    refine pB_lost (by first | assumption | exact isB1 | exact isB18) wf_X2_49 dX2_loseWordsOf_92 ?_
    refine J_aload_n dX2_loseWordsOf_95 rfl rfl ?_
    refine J_iconst (v := 3) dX2_loseWordsOf_96 (by decide) ?_
    refine cVv wv_X2_67 (c_X2_freeBus (k := x) (w := w) hb (by rw [up_rr, if_neg (by decide), up_rr, if_neg (by decide), h2 7 (by decide)]; exact hW.2.2.2.1.trans h6) (by rw [up_rr, if_neg (by decide), up_rr, if_neg (by decide), h2 4 (by decide)]; exact hW.1) hx hw) dX2_loseWordsOf_97 (ob2 (by first | assumption | exact isB1 | exact isB18)) rfl rfl (kk := ?_)
    refine r_void dX2_loseWordsOf_100 ?_
    first | exact ⟨rfl, _, rfl, lose1 hW hO hB hG h hx h6 h82, FrW.up (FrW_LQ h) (by decide)⟩ | exact ⟨rfl, _, rfl, lose2 hW hO hB hG h hx h6 h82, FrW.up (FrW.up (FrW.up (FrW.up (FrW.up (FrW_LQ h) (by decide)) (by decide)) (by decide)) (by decide)) (by decide)⟩

set_option maxRecDepth 100000 in
set_option maxHeartbeats 4000000 in
theorem loseLoop {X : jX} {ad : Nat → Nat} {m B0 : Mem} {b : Nat} {s : Rw} {w d : Nat} (hb : isB b) (hW : RpW B0 s w) (hO : OkW s w) (hB : OkB s w) (hG : ∀ k, k < w → (wv s k / 64 % 4 = 1 ↔ s 295 = nI k)) (h10 : (wl s w).length ≤ 10) (hd : d < 8) : ∀ (j i kept : Nat) (B : Mem), i + j = (wl s w).length → LQ B0 B s w d i kept → Jg X RX2 cX2_loseWordsOf 5 (none) "loseWordsOf" 1 0 0 (QF X ad (fun v m9 => v = none ∧ ∃ B9, m9 = SB m b B9 ∧ RpW B9 (fgL s d w) w ∧ FrW B0 B9)) ad 0 0 4 [(0, .ref (b + 11)), (1, .int (nI d)), (2, .int (nI kept)), (3, .int (nI i))] [] (WS X ad (SB m b B)) := by
  have hw := hO.1
  intro j
  induction j with
  | zero =>
    intro i kept B hi h
    obtain rfl : i = (wl s w).length := by omega
    refine J_iload_n dX2_loseWordsOf_4 rfl rfl ?_
    refine J_aload_n dX2_loseWordsOf_5 rfl rfl ?_
    refine gB_queued (by first | assumption | exact isB1 | exact isB18) wf_X2_40 dX2_loseWordsOf_6 ?_
    refine J_topi (fun z9 hz9 => ?_)
    obtain rfl : z9 = (nI (wl s w).length) := hz9.trans (by exact (h.2.1 6 (by decide)).trans hW.2.2.1.1)
    clear hz9
    refine J_icmp_ge (tgt := 68) dX2_loseWordsOf_9 (by decide) (fun h9 => ?_) (fun h9 => absurd (nI_le1 (Nat.le_refl _) (by omega)) h9)
    rcases id hB with h6 | ⟨x, hx, h6, -⟩
    · exact loseT0 (x := 0) hb hW hO hB hG h10 hd h h6
    · exact loseT1 hb hW hO hB hG h10 hd h hx h6
  | succ j ih =>
    intro i kept B hi h
    have hil : i < (wl s w).length := by omega
    obtain ⟨hk, hst⟩ := wl_at hil
    obtain ⟨a1, a2, -, -⟩ := hW.2.1 _ hk
    have hkl : kept ≤ i := by rw [h.2.2.2.2.1]; exact kept_le
    refine J_iload_n dX2_loseWordsOf_4 rfl rfl ?_
    refine J_aload_n dX2_loseWordsOf_5 rfl rfl ?_
    refine gB_queued (by first | assumption | exact isB1 | exact isB18) wf_X2_40 dX2_loseWordsOf_6 ?_
    refine J_topi (fun z9 hz9 => ?_)
    obtain rfl : z9 = (nI (wl s w).length) := hz9.trans (by exact (h.2.1 6 (by decide)).trans hW.2.2.1.1)
    clear hz9
    refine J_icmp_ge (tgt := 68) dX2_loseWordsOf_9 (by decide) (fun h9 => absurd h9 (nI_nle1 (by omega) (by omega))) (fun h9 => ?_)
    refine J_aload_n dX2_loseWordsOf_12 rfl rfl ?_
    refine gX2_queue (by first | assumption | exact isB1 | exact isB18) wf_X2_24 dX2_loseWordsOf_13 ?_
    refine J_iload_n dX2_loseWordsOf_16 rfl rfl ?_
    refine rB_w16 hb i (by omega) rfl dX2_loseWordsOf_17 ?_
    refine J_topi (fun z9 hz9 => ?_)
    obtain rfl : z9 = (nI ((wl s w).getD i 0)) := hz9.trans (by exact h.2.2.2.2.2.2 i (Nat.le_refl _) hil)
    clear hz9
    refine J_istore dX2_loseWordsOf_18 rfl rfl ?_
    refine J_aload_n dX2_loseWordsOf_20 rfl rfl ?_
    refine J_iload dX2_loseWordsOf_21 rfl ?_
    refine J_iload_n dX2_loseWordsOf_23 rfl rfl ?_
    refine cVi wv_X2_59 (c_isBetweenG (w := w) hb ((h.2.1 4 (by decide)).trans hW.1) (by rw [h.1 12 (by decide) (by decide) (by decide)]; exact a1) (by rw [h.1 13 (by decide) (by decide) (by decide)]; exact a2) hw hk hd) dX2_loseWordsOf_24 (ob2 (by first | assumption | exact isB1 | exact isB18)) rfl rfl (kk := ?_)
    refine J_if_eq (tgt := 51) dX2_loseWordsOf_27 (by decide) (fun h27 => ?_) (fun h27 => ?_)
    · refine J_aload_n dX2_loseWordsOf_51 rfl rfl ?_
      refine gX2_queue (by first | assumption | exact isB1 | exact isB18) wf_X2_24 dX2_loseWordsOf_52 ?_
      refine J_iload_n dX2_loseWordsOf_55 rfl rfl ?_
      refine J_iload dX2_loseWordsOf_56 rfl ?_
      refine wB_w16 hb kept (by omega) rfl dX2_loseWordsOf_58 ?_
      refine J_iinc (v := _ + 1) dX2_loseWordsOf_59 rfl rfl rfl rfl ?_
      first | rw [show nI kept + 1 = nI (kept + 1) from (nI_succ kept).symm] | skip
      refine J_iinc (v := _ + 1) dX2_loseWordsOf_62 rfl rfl rfl rfl ?_
      rw [show nI i + 1 = nI (i + 1) from (nI_succ i).symm]
      refine J_goto (tgt := 4) dX2_loseWordsOf_65 (by decide) ?_
      refine J_lv [0, 1, 2, 3] rfl ?_
      first | exact ih (i + 1) kept _ (by omega) (LQ_lost h hil h27) | exact ih (i + 1) (kept + 1) _ (by omega) (LQ_keep h hil h27)
    · refine J_aload_n dX2_loseWordsOf_30 rfl rfl ?_
      refine gX2_conditions (by first | assumption | exact isB1 | exact isB18) wf_X2_18 dX2_loseWordsOf_31 ?_
      refine J_iload dX2_loseWordsOf_34 rfl ?_
      refine J_iconst (v := 3) dX2_loseWordsOf_36 (by decide) ?_
      refine wB_w14 hb ((wl s w).getD i 0) (by omega) rfl dX2_loseWordsOf_37 ?_
      refine J_aload_n dX2_loseWordsOf_38 rfl rfl ?_
      refine J_dup dX2_loseWordsOf_39 rfl ?_
      refine gB_lost (by first | assumption | exact isB1 | exact isB18) wf_X2_49 dX2_loseWordsOf_40 ?_
      refine J_topi (fun z9 hz9 => ?_)
      obtain rfl : z9 = (s 301 + nI (cO s d ((wl s w).take i))) := hz9.trans (by rw [up_ne (by decide)]; exact h.2.2.1)
      clear hz9
      refine J_iconst (v := 1) dX2_loseWordsOf_43 (by decide) ?_
      refine J_iadd dX2_loseWordsOf_44 ?_
      refine pB_lost (by first | assumption | exact isB1 | exact isB18) wf_X2_49 dX2_loseWordsOf_45 ?_
      refine J_goto (tgt := 62) dX2_loseWordsOf_48 (by decide) ?_
      first | rw [show nI kept + 1 = nI (kept + 1) from (nI_succ kept).symm] | skip
      refine J_iinc (v := _ + 1) dX2_loseWordsOf_62 rfl rfl rfl rfl ?_
      rw [show nI i + 1 = nI (i + 1) from (nI_succ i).symm]
      refine J_goto (tgt := 4) dX2_loseWordsOf_65 (by decide) ?_
      refine J_lv [0, 1, 2, 3] rfl ?_
      first | exact ih (i + 1) kept _ (by omega) (LQ_lost h hil h27) | exact ih (i + 1) (kept + 1) _ (by omega) (LQ_keep h hil h27)

set_option maxRecDepth 100000 in
set_option maxHeartbeats 4000000 in
theorem c_X2_loseWordsOf {X : jX} {ad : Nat → Nat} {m B : Mem} {b : Nat} {s : Rw} {w : Nat} {d : Nat} (hb : isB b) (hW : RpW B s w) (hO : OkW s w) (hB : OkB s w) (hG : ∀ k, k < w → (wv s k / 64 % 4 = 1 ↔ s 295 = nI k)) (h10 : (wl s w).length ≤ 10) (hd : d < 8) : Cm X yX2_loseWordsOf cX2_loseWordsOf 5 (none) 1 ad [.ref (b + 11), .int (nI d)] (SB m b B) (fun v m9 => v = none ∧ ∃ B9, m9 = SB m b B9 ∧ RpW B9 (fgL s d w) w ∧ FrW B B9) := by
  refine Cm.of (own := RX2) (nm := "loseWordsOf") (by decide +kernel) rfl rfl rfl rfl ?_
  refine J_iconst (v := 0) dX2_loseWordsOf_0 (by decide) ?_
  refine J_istore_n dX2_loseWordsOf_1 rfl rfl rfl ?_
  refine J_iconst (v := 0) dX2_loseWordsOf_2 (by decide) ?_
  refine J_istore_n dX2_loseWordsOf_3 rfl rfl rfl ?_
  exact loseLoop hb hW hO hB hG h10 hd (wl s w).length 0 0 B (Nat.zero_add _) (LQ_0 hW)

