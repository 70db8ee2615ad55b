/-- of a block, boards alone have changed -/
def FrB (B B' : Mem) : Prop := ∀ r, (r < 3 ∨ 11 ≤ r) → B' r = B r
theorem FrB.up {B B' : Mem} {i k : Nat} {v : Int32} (h : FrB B B') (hi : i < 8) : FrB B (up B' (3 + i) k v) := fun r hr => by rw [up_ne (by omega)]; exact h r hr
theorem FrB_mv {B B' : Mem} {i : Nat} (h : FrB B B') (hi : i < 8) : FrB B (mvB B' i) := by
  intro r hr
  have e (C : Mem) (k : Nat) (v : Int32) : up C (3 + i) k v r = C r := up_ne (by omega)
  unfold mvB
  (repeat' split) <;> first | (rw [e, e, e, e]; exact h r hr) | (rw [e, e]; exact h r hr) | (rw [e]; exact h r hr)
theorem Bf_goF {s : Rw} {i j : Nat} (h : Bf s j) (h5 : ∃ p, p ≤ 100 ∧ goF s i (fb j 5) = nI p) (h6 : goF s i (fb j 6) = s (fb j 6)) (h7 : goF s i (fb j 7) = s (fb j 7)) : Bf (goF s i) j := by
  unfold Bf
  rw [h6, h7]
  exact ⟨h5, h.2⟩
theorem goF_k {s : Rw} {i k : Nat} (hk : k < 11) (h : k ≠ 2 ∧ k ≠ 3 ∧ k ≠ 4 ∧ k ≠ 5) : goF s i (fb i k) = s (fb i k) := by
  have e (t : Rw) (l : Nat) (v : Int32) (hl : l ≠ k) : upd t (fb i l) v (fb i k) = t (fb i k) := upd_fbn (fun q => hl q.symm)
  unfold goF goA
  (repeat' split) <;> unfold goB <;> first | (rw [e _ 4 _ (by omega), e _ 3 _ (by omega), e _ 5 _ (by omega), e _ 2 _ (by omega)]; done) | (rw [e _ 4 _ (by omega), e _ 3 _ (by omega)]; done)
theorem goF_5' {s : Rw} {i : Nat} : goF s i (fb i 5) = s (fb i 5) ∨ goF s i (fb i 5) = 0 := by
  have e (t : Rw) (l : Nat) (v : Int32) (hl : l ≠ 5) : upd t (fb i l) v (fb i 5) = t (fb i 5) := upd_fbn (fun q => hl q.symm)
  unfold goF goA
  (repeat' split) <;> unfold goB <;> first | (left; rw [e _ 4 _ (by omega), e _ 3 _ (by omega)]; done) | (right; rw [e _ 4 _ (by omega), e _ 3 _ (by omega)]; exact upd_same)
theorem Bf_go {s : Rw} {i j : Nat} (h : Bf s j) : Bf (goF s i) j := by
  by_cases e : j = i
  · subst e
    refine Bf_goF h ?_ (goF_k (by decide) (by decide)) (goF_k (by decide) (by decide))
    rcases (goF_5' : goF s j (fb j 5) = s (fb j 5) ∨ goF s j (fb j 5) = 0) with q | q
    · rw [q]; exact h.1
    · exact ⟨0, by decide, q⟩
  · refine Bf_goF h ?_ (goF_j (by decide) e) (goF_j (by decide) e)
    rw [goF_j (by decide) e]; exact h.1
theorem Bf_mv {s : Rw} {n j : Nat} (h : Bf s j) : ∀ k, Bf (mvL s n k) j := by
  intro k
  induction k with
  | zero => exact h
  | succ k ih =>
    unfold mvL
    split
    · exact ih
    · split
      · exact ih
      · exact Bf_go ih
theorem pwF_5 {s : Rw} {n i : Nat} (h : Bf s i) (hs : Sg s) : ∃ p, p ≤ 100 ∧ pwF s n i (fb i 5) = nI p := by
  obtain ⟨⟨p, hp, h5⟩, -⟩ := h
  obtain ⟨-, ⟨a, ha1, ha2, h1⟩, -⟩ := hs
  have hle : ∃ q, q ≤ 100 ∧ (if s (fb i 5) + s 1 ≤ 100 then s (fb i 5) + s 1 else 100) = nI q := by
    rw [h5, h1, nI_add]
    split
    · next h => exact ⟨p + a, (show ∀ x, x < 151 → nI x ≤ 100 → x ≤ 100 by decide +kernel) _ (by omega) h, rfl⟩
    · exact ⟨100, by decide, rfl⟩
  unfold pwF
  split
  · split
    · exact ⟨p, hp, h5⟩
    · rw [upd_same]
      generalize (if s (fb i 5) + s 1 ≤ 100 then s (fb i 5) + s 1 else 100) = x at hle ⊢
      split
      · exact hle
      · exact ⟨p, hp, h5⟩
  · rw [upd_same]; exact ⟨0, by decide, rfl⟩
theorem Bf_pwF {s : Rw} {n i j : Nat} (h : Bf s j) (hs : Sg s) : Bf (pwF s n i) j := by
  unfold Bf
  rw [pwF_fld (l := 6) (by decide) (Or.inl (by decide)), pwF_fld (l := 7) (by decide) (Or.inl (by decide))]
  refine ⟨?_, h.2⟩
  by_cases e : j = i
  · subst e; exact pwF_5 h hs
  · rw [pwF_fld (l := 5) (by decide) (Or.inr e)]; exact h.1
theorem Sg_same {s t : Rw} (h : Sg s) (he : ∀ k, k < 4 → t k = s k) : Sg t := by
  unfold Sg
  rw [he 0 (by decide), he 1 (by decide), he 2 (by decide), he 3 (by decide)]
  exact h
theorem Bf_pw {s : Rw} {n j : Nat} (h : Bf s j) (hs : Sg s) (hn : n ≤ 8) : ∀ k, Bf (pwL s n k) j := by
  intro k
  induction k with
  | zero => exact h
  | succ k ih =>
    unfold pwL
    split
    · exact ih
    · exact Bf_pwF ih (Sg_same hs (fun x hx => pwL_out (by omega) hn k))
theorem OkM_pw {s : Rw} {n : Nat} (h : OkM s n) (hn : n ≤ 8) (k : Nat) : OkM (pwL s n k) n := OkM_same h (fun i l _ hl => pwL_fld hn (by omega) (by omega) k)
/-- plugging, bit by bit -/
theorem pg_step {a v : Int32} (ha : a = 0 ∨ a = 1) (hv : v = 0 ∨ v = 1) : (if v = 0 then a else 1) = if a = 0 then v else 1 := by
  rcases ha with rfl | rfl <;> rcases hv with rfl | rfl <;> rfl
theorem go01 {s : Rw} {q : Nat} : (if s (fb q 4) = 0 then (0 : Int32) else goP s q) = 0 ∨ (if s (fb q 4) = 0 then (0 : Int32) else goP s q) = 1 := by
  split
  · exact Or.inl rfl
  · exact plg01
set_option maxRecDepth 100000 in
set_option maxHeartbeats 4000000 in
theorem clsMoveLoop {X : jX} {ad : Nat → Nat} {m : Mem} {b : Nat} {s : Rw} {n : Nat} {B0 : Mem} (hb : isB b) (hn8 : n ≤ 8) (hM : OkM s n) : ∀ (j k : Nat) (B : Mem) (a : Int32), k + j = 5 → RpB B (mvL s n k) n → FrB B0 B → a = pgL s n k → Jg X RX0 cX0_moveBoards 4 (some .boolean) "moveBoards" 2 0 0 (QF X ad (fun v m9 => v = some (.int (pgL s n 5)) ∧ ∃ B9, m9 = SB m b B9 ∧ RpB B9 (mvL s n 5) n ∧ FrB B0 B9)) ad 0 0 4 [(0, .ref b), (1, .int a), (2, .int (nI k))] [] (WS X ad (SB m b B)) := by
  intro j
  induction j with
  | zero =>
    intro k B a hk hR hF ha
    obtain rfl : k = 5 := by omega
    refine J_iload_n dX0_moveBoards_4 rfl rfl ?_
    refine J_iconst (v := 5) dX0_moveBoards_5 (by decide) ?_
    refine J_icmp_ge (tgt := 38) dX0_moveBoards_6 (by decide) (fun h6 => ?_) (fun h6 => absurd (nI_le1 (a := 5) (b := 5) (Nat.le_refl _) (by omega)) h6)
    refine J_iload_n dX0_moveBoards_38 rfl rfl ?_
    refine r_bool dX0_moveBoards_39 (by rw [ha]; exact plg_or 5) ?_
    exact ⟨by rw [ha], B, rfl, hR, hF⟩
  | succ j ih =>
    intro k B a hk hR hF ha
    have hMk := OkM_mv hM hn8 k (by omega)
    rcases bI_or (s := mvL s n k) (x := nI k) n with hbi | ⟨q, hq, hbi⟩
    · obtain ⟨e1, e2⟩ := mvL_none hbi
      have ha2 : a = pgL s n (k + 1) := by
        rw [e2, ha]
        rcases plg_or (s := s) (n := n) k with g | g <;> rw [g] <;> rfl
      refine J_iload_n dX0_moveBoards_4 rfl rfl ?_
      refine J_iconst (v := 5) dX0_moveBoards_5 (by decide) ?_
      refine J_icmp_ge (tgt := 38) dX0_moveBoards_6 (by decide) (fun h6 => absurd h6 (nI_nle1 (a := k) (b := 5) (by omega) (by omega))) (fun h6 => ?_)
      refine J_aload_n dX0_moveBoards_9 rfl rfl ?_
      refine J_aload_n dX0_moveBoards_10 rfl rfl ?_
      refine J_iload_n dX0_moveBoards_11 rfl rfl ?_
      refine cVi wv_X0_121 (c_X0_boardIn hb hR hn8 (q := k) (OkM_mv hM hn8 k (by omega)).2 (by omega)) dX0_moveBoards_12 (ob0 (by first | assumption | exact isB1 | exact isB18)) rfl rfl (kk := ?_)
      refine J_topi (fun z9 hz9 => ?_)
      obtain rfl : z9 = -6 := hz9.trans (by exact hbi)
      clear hz9
      refine cVn wv_X0_83 (c_boardAtN hb hR hn8 jin_m6) dX0_moveBoards_15 (ob0 (by first | assumption | exact isB1 | exact isB18)) rfl rfl (kk := ?_)
      refine J_astore_nN dX0_moveBoards_18 rfl rfl rfl ?_
      refine J_aload_nN dX0_moveBoards_19 rfl rfl ?_
      refine J_ifnullN (tgt := 32) dX0_moveBoards_20 (by decide) ?_
      refine J_iinc (v := _ + 1) dX0_moveBoards_32 rfl rfl rfl rfl ?_
      rw [show nI k + 1 = nI (k + 1) from (nI_succ k).symm]
      refine J_goto (tgt := 4) dX0_moveBoards_35 (by decide) ?_
      refine J_lv [0, 1, 2] rfl ?_
      exact ih (k + 1) B _ (by omega) (by rw [e1]; exact hR) hF ha2
    · have i8 : q < 8 := by omega
      obtain ⟨e1, e2⟩ := mvL_some i8 hbi
      have hsl := (mvL_step hn8 i8 hbi).2
      obtain ⟨m1, m2⟩ := mv_rel hR hq hn8 (hMk.1 q hq) (show k < 5 by omega) hsl
      rw [← e1] at m1
      have hv : mvA (B (3 + q) 3) (mvC B q) = if mvL s n k (fb q 4) = 0 then 0 else goP (mvL s n k) q := m2
      have ha2 : (if mvA (B (3 + q) 3) (mvC B q) = 0 then a else 1) = pgL s n (k + 1) := by
        rw [hv, e2, ha]
        exact pg_step (plg_or k) go01
      refine J_iload_n dX0_moveBoards_4 rfl rfl ?_
      refine J_iconst (v := 5) dX0_moveBoards_5 (by decide) ?_
      refine J_icmp_ge (tgt := 38) dX0_moveBoards_6 (by decide) (fun h6 => absurd h6 (nI_nle1 (a := k) (b := 5) (by omega) (by omega))) (fun h6 => ?_)
      refine J_aload_n dX0_moveBoards_9 rfl rfl ?_
      refine J_aload_n dX0_moveBoards_10 rfl rfl ?_
      refine J_iload_n dX0_moveBoards_11 rfl rfl ?_
      refine cVi wv_X0_121 (c_X0_boardIn hb hR hn8 (q := k) (OkM_mv hM hn8 k (by omega)).2 (by omega)) dX0_moveBoards_12 (ob0 (by first | assumption | exact isB1 | exact isB18)) rfl rfl (kk := ?_)
      refine J_topi (fun z9 hz9 => ?_)
      obtain rfl : z9 = (nI q) := hz9.trans (by exact hbi)
      clear hz9
      refine cVr wv_X0_83 (c_boardAt hb hR hn8 (i := q) hq) dX0_moveBoards_15 (ob0 (by first | assumption | exact isB1 | exact isB18)) rfl rfl (kk := ?_)
      refine J_astore_n dX0_moveBoards_18 rfl rfl rfl ?_
      refine J_aload_n dX0_moveBoards_19 rfl rfl ?_
      refine J_ifnull dX0_moveBoards_20 ?_
      refine J_aload_n dX0_moveBoards_23 rfl rfl ?_
      refine cVi wv_X0_179 (c_X1_move hb (i := q) i8) dX0_moveBoards_24 (ob1 (by first | assumption | exact isB1 | exact isB18) (by first | assumption | omega)) rfl rfl (kk := ?_)
      refine J_if_eq (tgt := 32) dX0_moveBoards_27 (by decide) (fun h27 => ?_) (fun h27 => ?_)
      · refine J_iinc (v := _ + 1) dX0_moveBoards_32 rfl rfl rfl rfl ?_
        rw [show nI k + 1 = nI (k + 1) from (nI_succ k).symm]
        refine J_goto (tgt := 4) dX0_moveBoards_35 (by decide) ?_
        refine J_lv [0, 1, 2] rfl ?_
        refine ih (k + 1) (mvB B q) _ (by omega) m1 (FrB_mv hF i8) (Eq.trans ?_ ha2)
        first | rw [if_pos h27] | rw [if_neg h27]
      · refine J_iconst (v := 1) dX0_moveBoards_30 (by decide) ?_
        refine J_istore_n dX0_moveBoards_31 rfl rfl rfl ?_
        refine J_iinc (v := _ + 1) dX0_moveBoards_32 rfl rfl rfl rfl ?_
        rw [show nI k + 1 = nI (k + 1) from (nI_succ k).symm]
        refine J_goto (tgt := 4) dX0_moveBoards_35 (by decide) ?_
        refine J_lv [0, 1, 2] rfl ?_
        refine ih (k + 1) (mvB B q) _ (by omega) m1 (FrB_mv hF i8) (Eq.trans ?_ ha2)
        first | rw [if_pos h27] | rw [if_neg h27]

set_option maxRecDepth 100000 in
set_option maxHeartbeats 4000000 in
theorem c_X0_moveBoards {X : jX} {ad : Nat → Nat} {m B : Mem} {b : Nat} {s : Rw} {n : Nat}  (hb : isB b) (hR : RpB B s n) (hn8 : n ≤ 8) (hM : OkM s n) : Cm X yX0_moveBoards cX0_moveBoards 4 (some .boolean) 2 ad [.ref b] (SB m b B) (fun v m9 => v = some (.int (pgL s n 5)) ∧ ∃ B9, m9 = SB m b B9 ∧ RpB B9 (mvL s n 5) n ∧ FrB B B9) := by
  refine Cm.of (own := RX0) (nm := "moveBoards") (by decide +kernel) rfl rfl rfl rfl ?_
  refine J_iconst (v := 0) dX0_moveBoards_0 (by decide) ?_
  refine J_istore_n dX0_moveBoards_1 rfl rfl rfl ?_
  refine J_iconst (v := 0) dX0_moveBoards_2 (by decide) ?_
  refine J_istore_n dX0_moveBoards_3 rfl rfl rfl ?_
  exact clsMoveLoop hb hn8 hM 5 0 B _ (by omega) hR (fun r hr => rfl) rfl

theorem pw_nat : ∀ p, p < 100 → ∀ a, a < 51 → 1 ≤ a → ¬ (if nI p + nI a < 100 then nI p + nI a else 100) ≤ nI p := by decide +kernel
theorem pw_eq : ∀ p, p < 101 → ∀ a, a < 51 → (if nI p + nI a < 100 then nI p + nI a else 100) = if nI p + nI a ≤ 100 then nI p + nI a else 100 := by decide +kernel
theorem pw_100 : ∀ a, a < 51 → 1 ≤ a → (if nI 100 + nI a < 100 then nI 100 + nI a else 100) = (100 : Int32) := by decide +kernel
def ppF (s : Rw) (i : Nat) : Int32 := if s (fb i 5) + s 1 < 100 then s (fb i 5) + s 1 else 100
theorem pw_a {s : Rw} {n i : Nat} (h8 : s (fb i 3) < 8) : pwF s n i = upd s (fb i 5) 0 := by
  unfold pwF
  rw [if_neg (Int32.not_le.mpr h8)]
theorem pw_b {s : Rw} {n i : Nat} (hf : Bf s i) (hs : Sg s) (h8 : ¬ s (fb i 3) < 8) (h42 : ppF s i ≤ s (fb i 5)) : pwF s n i = upd s (fb i 5) (ppF s i) := by
  obtain ⟨⟨p, hp, h5⟩, -⟩ := hf
  obtain ⟨-, ⟨a, ha1, ha2, h1⟩, -⟩ := hs
  unfold ppF at h42 ⊢
  rw [h5, h1] at h42 ⊢
  have hp100 : p = 100 := by
    rcases Nat.lt_or_ge p 100 with g | g
    · exact absurd h42 (pw_nat p g a (by omega) ha1)
    · omega
  subst hp100
  rw [pw_100 a (by omega) ha1]
  unfold pwF
  rw [if_pos (Int32.not_lt.mp h8), h5, if_pos (by decide)]
  exact (upd_noop (by rw [h5]; rfl)).symm
theorem pw_c {s : Rw} {n i : Nat} (hf : Bf s i) (hs : Sg s) (h8 : ¬ s (fb i 3) < 8) (h42 : ¬ ppF s i ≤ s (fb i 5)) : pwF s n i = upd (upd s (fb i 5) (ppF s i)) (fb i 5) (if dr (upd s (fb i 5) (ppF s i)) n ≤ s 4 then ppF s i else s (fb i 5)) := by
  obtain ⟨⟨p, hp, h5⟩, -⟩ := hf
  obtain ⟨-, ⟨a, ha1, ha2, h1⟩, -⟩ := hs
  have e : ppF s i = if s (fb i 5) + s 1 ≤ 100 then s (fb i 5) + s 1 else 100 := by
    unfold ppF
    rw [h5, h1]
    exact pw_eq p (by omega) a (by omega)
  have hlt : ¬ 100 ≤ s (fb i 5) := by
    intro g
    rw [h5] at g
    have hp100 : p = 100 := by
      rcases Nat.lt_or_ge p 100 with q | q
      · exact absurd g ((show ∀ p, p < 100 → ¬ 100 ≤ nI p by decide +kernel) p q)
      · omega
    subst hp100
    apply h42
    unfold ppF
    rw [h5, h1, pw_100 a (by omega) ha1]
    decide
  rw [e]
  unfold pwF
  rw [if_pos (Int32.not_lt.mp h8), if_neg hlt]
section PWE
variable {m B : Mem} {b : Nat} {s : Rw} {n i : Nat}
theorem pwEndB (hR : RpB B s n) (i8 : i < 8) (hf : Bf s i) (hs : Sg s) (h8 : ¬ s (fb i 3) < 8) (h42 : ppF s i ≤ s (fb i 5)) : (none : Option Value) = none ∧ ∃ B9, SB m b (up B (3 + i) 5 (ppF s i)) = SB m b B9 ∧ RpB B9 (pwF s n i) n ∧ FrB B B9 :=
  ⟨rfl, _, rfl, by rw [pw_b hf hs h8 h42]; exact RpB_up (k := 5) hR i8 (by decide), FrB.up (fun r hr => rfl) i8⟩
theorem pwEndC (hR : RpB B s n) (i8 : i < 8) (hf : Bf s i) (hs : Sg s) (h8 : ¬ s (fb i 3) < 8) (h42 : ¬ ppF s i ≤ s (fb i 5)) (h55 : dr (upd s (fb i 5) (ppF s i)) n ≤ s 4) : (none : Option Value) = none ∧ ∃ B9, SB m b (up B (3 + i) 5 (ppF s i)) = SB m b B9 ∧ RpB B9 (pwF s n i) n ∧ FrB B B9 :=
  ⟨rfl, _, rfl, by rw [pw_c hf hs h8 h42, if_pos h55, upd_upd]; exact RpB_up (k := 5) hR i8 (by decide), FrB.up (fun r hr => rfl) i8⟩
theorem pwEndD (hR : RpB B s n) (i8 : i < 8) (hf : Bf s i) (hs : Sg s) (h8 : ¬ s (fb i 3) < 8) (h42 : ¬ ppF s i ≤ s (fb i 5)) (h55 : ¬ dr (upd s (fb i 5) (ppF s i)) n ≤ s 4) : (none : Option Value) = none ∧ ∃ B9, SB m b (up (up B (3 + i) 5 (ppF s i)) (3 + i) 5 (s (fb i 5))) = SB m b B9 ∧ RpB B9 (pwF s n i) n ∧ FrB B B9 :=
  ⟨rfl, _, rfl, by rw [pw_c hf hs h8 h42, if_neg h55]; exact RpB_up (k := 5) (RpB_up (k := 5) hR i8 (by decide)) i8 (by decide), FrB.up (FrB.up (fun r hr => rfl) i8) i8⟩
end PWE
set_option maxRecDepth 100000 in
set_option maxHeartbeats 4000000 in
theorem c_X0_powerBoard {X : jX} {ad : Nat → Nat} {m B : Mem} {b : Nat} {s : Rw} {n : Nat} {i : Nat} (hb : isB b) (hR : RpB B s n) (hn8 : n ≤ 8) (hi : i < n) (hf : Bf s i) (hs : Sg s) : Cm X yX0_powerBoard cX0_powerBoard 3 (none) 1 ad [.ref b, .ref (b + (3 + i))] (SB m b B) (fun v m9 => v = none ∧ ∃ B9, m9 = SB m b B9 ∧ RpB B9 (pwF s n i) n ∧ FrB B B9) := by
  refine Cm.of (own := RX0) (nm := "powerBoard") (by decide +kernel) rfl rfl rfl rfl ?_
  obtain ⟨r1, r2⟩ := hR.2.2 i hi
  have i8 : i < 8 := by omega
  refine J_aload_n dX0_powerBoard_0 rfl rfl ?_
  refine J_bipush (v := 8) dX0_powerBoard_1 (by decide) ?_
  refine cVi wv_X0_185 (c_X1_touches hb (i := i) i8) dX0_powerBoard_3 (ob1 (by first | assumption | exact isB1 | exact isB18) (by first | assumption | omega)) rfl rfl (kk := ?_)
  refine J_topi (fun z9 hz9 => ?_)
  obtain rfl : z9 = (if s (fb i 3) < 8 then 0 else 1) := hz9.trans (by rw [r1 3 (by decide)])
  clear hz9
  refine J_if_ne (tgt := 15) dX0_powerBoard_6 (by decide) (fun h6 => ?_) (fun h6 => ?_)
  · refine J_aload_n dX0_powerBoard_15 rfl rfl ?_
    refine gB_power (by first | assumption | exact isB1 | exact isB18) (by first | assumption | omega) wf_X0_73 dX0_powerBoard_16 ?_
    refine J_topi (fun z9 hz9 => ?_)
    obtain rfl : z9 = (s (fb i 5)) := hz9.trans (by exact r1 5 (by decide))
    clear hz9
    refine J_istore_n dX0_powerBoard_19 rfl rfl rfl ?_
    refine J_aload_n dX0_powerBoard_20 rfl rfl ?_
    refine J_bipush (v := 100) dX0_powerBoard_21 (by decide) ?_
    refine J_iload_n dX0_powerBoard_23 rfl rfl ?_
    refine J_aload_n dX0_powerBoard_24 rfl rfl ?_
    refine gX0_settings (by first | assumption | exact isB1 | exact isB18) wf_X0_18 dX0_powerBoard_25 ?_
    refine J_iconst (v := 1) dX0_powerBoard_28 (by decide) ?_
    refine rB_set hb 1 (by decide) rfl dX0_powerBoard_29 ?_
    refine J_topi (fun z9 hz9 => ?_)
    obtain rfl : z9 = (s 1) := hz9.trans (by exact hR.2.1 1 (by decide))
    clear hz9
    refine J_iadd dX0_powerBoard_30 ?_
    refine J_mmin wm_X0_188 wk_mins wk_math wk_minc dX0_powerBoard_31 (by decide) (by decide) (by decide) (Nat.le_of_ble_eq_true rfl) ?_
    refine J_topi (fun z9 hz9 => ?_)
    obtain rfl : z9 = (ppF s i) := hz9.trans (by rfl)
    clear hz9
    refine pB_power (by first | assumption | exact isB1 | exact isB18) (by first | assumption | omega) wf_X0_73 dX0_powerBoard_34 ?_
    refine J_aload_n dX0_powerBoard_37 rfl rfl ?_
    refine gB_power (by first | assumption | exact isB1 | exact isB18) (by first | assumption | omega) wf_X0_73 dX0_powerBoard_38 ?_
    refine J_topi (fun z9 hz9 => ?_)
    obtain rfl : z9 = (ppF s i) := hz9.trans (by rw [up_rr, if_pos rfl])
    clear hz9
    refine J_iload_n dX0_powerBoard_41 rfl rfl ?_
    refine J_icmp_le (tgt := 63) dX0_powerBoard_42 (by decide) (fun h42 => ?_) (fun h42 => ?_)
    · refine r_void dX0_powerBoard_63 ?_
      first | exact pwEndB hR i8 hf hs (tc1 h6) h42 | exact pwEndC hR i8 hf hs (tc1 h6) h42 h55 | exact pwEndD hR i8 hf hs (tc1 h6) h42 h55
    · refine J_aload_n dX0_powerBoard_45 rfl rfl ?_
      refine cVi wv_X0_193 (c_X0_drawn hb (RpB_up (k := 5) (v := ppF s i) hR i8 (by decide)) hn8) dX0_powerBoard_46 (ob0 (by first | assumption | exact isB1 | exact isB18)) rfl rfl (kk := ?_)
      refine J_aload_n dX0_powerBoard_49 rfl rfl ?_
      refine gX0_settings (by first | assumption | exact isB1 | exact isB18) wf_X0_18 dX0_powerBoard_50 ?_
      refine J_iconst (v := 4) dX0_powerBoard_53 (by decide) ?_
      refine rB_set hb 4 (by decide) rfl dX0_powerBoard_54 ?_
      refine J_topi (fun z9 hz9 => ?_)
      obtain rfl : z9 = (s 4) := hz9.trans (by rw [up_ne (by omega)]; exact hR.2.1 4 (by decide))
      clear hz9
      refine J_icmp_le (tgt := 63) dX0_powerBoard_55 (by decide) (fun h55 => ?_) (fun h55 => ?_)
      · refine r_void dX0_powerBoard_63 ?_
        first | exact pwEndB hR i8 hf hs (tc1 h6) h42 | exact pwEndC hR i8 hf hs (tc1 h6) h42 h55 | exact pwEndD hR i8 hf hs (tc1 h6) h42 h55
      · refine J_aload_n dX0_powerBoard_58 rfl rfl ?_
        refine J_iload_n dX0_powerBoard_59 rfl rfl ?_
        refine pB_power (by first | assumption | exact isB1 | exact isB18) (by first | assumption | omega) wf_X0_73 dX0_powerBoard_60 ?_
        refine r_void dX0_powerBoard_63 ?_
        first | exact pwEndB hR i8 hf hs (tc1 h6) h42 | exact pwEndC hR i8 hf hs (tc1 h6) h42 h55 | exact pwEndD hR i8 hf hs (tc1 h6) h42 h55
  · refine J_aload_n dX0_powerBoard_9 rfl rfl ?_
    refine J_iconst (v := 0) dX0_powerBoard_10 (by decide) ?_
    refine pB_power (by first | assumption | exact isB1 | exact isB18) (by first | assumption | omega) wf_X0_73 dX0_powerBoard_11 ?_
    refine r_void dX0_powerBoard_14 ?_
    exact ⟨rfl, _, rfl, by rw [pw_a (tc0 h6)]; exact RpB_up (k := 5) hR i8 (by decide), FrB.up (fun r hr => rfl) i8⟩

set_option maxRecDepth 100000 in
set_option maxHeartbeats 4000000 in
theorem clsPowerLoop {X : jX} {ad : Nat → Nat} {m : Mem} {b : Nat} {s : Rw} {n : Nat} {B0 : Mem} (hb : isB b) (hn8 : n ≤ 8) (hM : OkM s n) (hf : ∀ i, i < n → Bf s i) (hs : Sg s) : ∀ (j k : Nat) (B : Mem), k + j = 5 → RpB B (pwL s n k) n → FrB B0 B → Jg X RX0 cX0_powerBoards 3 (none) "powerBoards" 2 0 0 (QF X ad (fun v m9 => v = none ∧ ∃ B9, m9 = SB m b B9 ∧ RpB B9 (pwL s n 5) n ∧ FrB B0 B9)) ad 0 0 2 [(0, .ref b), (1, .int (nI k))] [] (WS X ad (SB m b B)) := by
  intro j
  induction j with
  | zero =>
    intro k B hk hR hF
    obtain rfl : k = 5 := by omega
    refine J_iload_n dX0_powerBoards_2 rfl rfl ?_
    refine J_iconst (v := 5) dX0_powerBoards_3 (by decide) ?_
    refine J_icmp_ge (tgt := 32) dX0_powerBoards_4 (by decide) (fun h4 => ?_) (fun h4 => absurd (nI_le1 (a := 5) (b := 5) (Nat.le_refl _) (by omega)) h4)
    refine r_void dX0_powerBoards_32 ?_
    exact ⟨rfl, B, rfl, hR, hF⟩
  | succ j ih =>
    intro k B hk hR hF
    rcases bI_or (s := pwL s n k) (x := nI k) n with hbi | ⟨q, hq, hbi⟩
    · have e1 := pwL_none hbi
      refine J_iload_n dX0_powerBoards_2 rfl rfl ?_
      refine J_iconst (v := 5) dX0_powerBoards_3 (by decide) ?_
      refine J_icmp_ge (tgt := 32) dX0_powerBoards_4 (by decide) (fun h4 => absurd h4 (nI_nle1 (a := k) (b := 5) (by omega) (by omega))) (fun h4 => ?_)
      refine J_aload_n dX0_powerBoards_7 rfl rfl ?_
      refine J_aload_n dX0_powerBoards_8 rfl rfl ?_
      refine J_iload_n dX0_powerBoards_9 rfl rfl ?_
      refine cVi wv_X0_121 (c_X0_boardIn hb hR hn8 (q := k) (OkM_pw hM hn8 k).2 (by omega)) dX0_powerBoards_10 (ob0 (by first | assumption | exact isB1 | exact isB18)) rfl rfl (kk := ?_)
      refine J_topi (fun z9 hz9 => ?_)
      obtain rfl : z9 = -6 := hz9.trans (by exact hbi)
      clear hz9
      refine cVn wv_X0_83 (c_boardAtN hb hR hn8 jin_m6) dX0_powerBoards_13 (ob0 (by first | assumption | exact isB1 | exact isB18)) rfl rfl (kk := ?_)
      refine J_astore_nN dX0_powerBoards_16 rfl rfl rfl ?_
      refine J_aload_nN dX0_powerBoards_17 rfl rfl ?_
      refine J_ifnullN (tgt := 26) dX0_powerBoards_18 (by decide) ?_
      refine J_iinc (v := _ + 1) dX0_powerBoards_26 rfl rfl rfl rfl ?_
      rw [show nI k + 1 = nI (k + 1) from (nI_succ k).symm]
      refine J_goto (tgt := 2) dX0_powerBoards_29 (by decide) ?_
      refine J_lv [0, 1] rfl ?_
      exact ih (k + 1) B (by omega) (by rw [e1]; exact hR) hF
    · have e1 := pwL_some (show q < 8 by omega) hbi
      refine J_iload_n dX0_powerBoards_2 rfl rfl ?_
      refine J_iconst (v := 5) dX0_powerBoards_3 (by decide) ?_
      refine J_icmp_ge (tgt := 32) dX0_powerBoards_4 (by decide) (fun h4 => absurd h4 (nI_nle1 (a := k) (b := 5) (by omega) (by omega))) (fun h4 => ?_)
      refine J_aload_n dX0_powerBoards_7 rfl rfl ?_
      refine J_aload_n dX0_powerBoards_8 rfl rfl ?_
      refine J_iload_n dX0_powerBoards_9 rfl rfl ?_
      refine cVi wv_X0_121 (c_X0_boardIn hb hR hn8 (q := k) (OkM_pw hM hn8 k).2 (by omega)) dX0_powerBoards_10 (ob0 (by first | assumption | exact isB1 | exact isB18)) rfl rfl (kk := ?_)
      refine J_topi (fun z9 hz9 => ?_)
      obtain rfl : z9 = (nI q) := hz9.trans (by exact hbi)
      clear hz9
      refine cVr wv_X0_83 (c_boardAt hb hR hn8 (i := q) hq) dX0_powerBoards_13 (ob0 (by first | assumption | exact isB1 | exact isB18)) rfl rfl (kk := ?_)
      refine J_astore_n dX0_powerBoards_16 rfl rfl rfl ?_
      refine J_aload_n dX0_powerBoards_17 rfl rfl ?_
      refine J_ifnull dX0_powerBoards_18 ?_
      refine J_aload_n dX0_powerBoards_21 rfl rfl ?_
      refine J_aload_n dX0_powerBoards_22 rfl rfl ?_
      refine cVg wv_X0_182 (c_X0_powerBoard hb hR hn8 (i := q) hq (Bf_pw (hf q hq) hs hn8 k) (Sg_same hs (fun x hx => pwL_out (by omega) hn8 k))) dX0_powerBoards_23 (ob0 (by first | assumption | exact isB1 | exact isB18)) rfl rfl (kk := (fun v m9 hf9 => ?_))
      obtain ⟨rfl, B9, rfl, hR9, hF9⟩ := hf9
      refine J_iinc (v := _ + 1) dX0_powerBoards_26 rfl rfl rfl rfl ?_
      rw [show nI k + 1 = nI (k + 1) from (nI_succ k).symm]
      refine J_goto (tgt := 2) dX0_powerBoards_29 (by decide) ?_
      refine J_lv [0, 1] rfl ?_
      exact ih (k + 1) B9 (by omega) (by rw [e1]; exact hR9) (fun r hr => (hF9 r hr).trans (hF r hr))

set_option maxRecDepth 100000 in
set_option maxHeartbeats 4000000 in
theorem c_X0_powerBoards {X : jX} {ad : Nat → Nat} {m B : Mem} {b : Nat} {s : Rw} {n : Nat}  (hb : isB b) (hR : RpB B s n) (hn8 : n ≤ 8) (hM : OkM s n) (hf : ∀ i, i < n → Bf s i) (hs : Sg s) : Cm X yX0_powerBoards cX0_powerBoards 3 (none) 2 ad [.ref b] (SB m b B) (fun v m9 => v = none ∧ ∃ B9, m9 = SB m b B9 ∧ RpB B9 (pwL s n 5) n ∧ FrB B B9) := by
  refine Cm.of (own := RX0) (nm := "powerBoards") (by decide +kernel) rfl rfl rfl rfl ?_
  refine J_iconst (v := 0) dX0_powerBoards_0 (by decide) ?_
  refine J_istore_n dX0_powerBoards_1 rfl rfl rfl ?_
  exact clsPowerLoop hb hn8 hM hf hs 5 0 B (by omega) hR (fun r hr => rfl)

