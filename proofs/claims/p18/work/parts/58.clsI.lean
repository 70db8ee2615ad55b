theorem wl_pair {s : Rw} {w : Nat} : (wl s w).Pairwise (· < ·) := by
  unfold wl
  exact List.Pairwise.filter _ List.pairwise_lt_range
theorem wl_lt {s : Rw} {w i j : Nat} (hij : i < j) (hj : j < (wl s w).length) : (wl s w).getD i 0 < (wl s w).getD j 0 := by
  have h := List.pairwise_iff_getElem.mp (wl_pair (s := s) (w := w)) i j (by omega) hj hij
  rw [List.getD_eq_getElem?_getD, List.getD_eq_getElem?_getD, List.getElem?_eq_getElem (by omega), List.getElem?_eq_getElem hj]
  exact h
theorem mem_wl {s : Rw} {w k : Nat} (hk : k < w) (h : wv s k / 64 % 4 = 0) : ∃ r, r < (wl s w).length ∧ (wl s w).getD r 0 = k := by
  have hm : k ∈ wl s w := by
    unfold wl
    exact List.mem_filter.mpr ⟨List.mem_range.mpr hk, beq0.mpr h⟩
  obtain ⟨r, hr, e⟩ := List.getElem_of_mem hm
  exact ⟨r, hr, by rw [List.getD_eq_getElem?_getD, List.getElem?_eq_getElem hr]; exact e⟩
theorem fRd_low {s : Rw} {n i : Nat} (hi : i < n) (hk : ¬ rdy s i = 0) (hno : ∀ k, k < i → rdy s k = 0) : ∀ j, n - i ≤ j → j ≤ n → fRd s n j = nI i := by
  intro j
  induction j with
  | zero => intro h1; omega
  | succ j ih =>
    intro h1 h2
    unfold fRd
    by_cases e : n - 1 - j = i
    · rw [e, if_neg hk]
    · rw [if_pos (hno _ (by omega))]
      exact ih (by omega) (by omega)
theorem fRd_none {s : Rw} {n : Nat} (hno : ∀ k, k < n → rdy s k = 0) : ∀ j, j ≤ n → fRd s n j = -6 := by
  intro j
  induction j with
  | zero => intro _; rfl
  | succ j ih =>
    intro h2
    unfold fRd
    rw [if_pos (hno _ (by omega))]
    exact ih (by omega)
/-- none ahead of the i-th waiting word is ready: none of lower number is -/
theorem rdy_before {s : Rw} {w i : Nat} (hno : ∀ r, r < i → rdy s ((wl s w).getD r 0) = 0) : (i < (wl s w).length → ∀ k, k < (wl s w).getD i 0 → rdy s k = 0) ∧ (i = (wl s w).length → ∀ k, k < w → rdy s k = 0) := by
  constructor
  · intro hi k hk
    apply Classical.byContradiction
    intro hr
    have hkw := (wl_at hi).1
    obtain ⟨r, hr1, hr2⟩ := mem_wl (w := w) (show k < w by omega) (rdy_st hr)
    rcases Nat.lt_or_ge r i with g | g
    · exact hr (by rw [← hr2]; exact hno r g)
    · rcases Nat.lt_or_ge i r with g2 | g2
      · have := wl_lt g2 hr1; omega
      · have e : r = i := by omega
        subst e; omega
  · intro hi k hk
    apply Classical.byContradiction
    intro hr
    obtain ⟨r, hr1, hr2⟩ := mem_wl (w := w) hk (rdy_st hr)
    exact hr (by rw [← hr2]; exact hno r (by omega))
theorem er_filter : ∀ (l : List Nat) (i : Nat), l.Pairwise (· < ·) → i < l.length → l.filter (fun x => !(Nat.beq x (l.getD i 0))) = l.eraseIdx i := by
  intro l
  induction l with
  | nil => intro i _ h; exact absurd h (by simp)
  | cons a t ih =>
    intro i hp hi
    obtain ⟨h1, h2⟩ := List.pairwise_cons.mp hp
    cases i with
    | zero =>
      have e : (a :: t).getD 0 0 = a := rfl
      rw [e, List.filter_cons_of_neg (by rw [Nat.beq_refl]; decide)]
      show _ = t
      apply List.filter_eq_self.mpr
      intro x hx
      have := h1 x hx
      cases hb : Nat.beq x a with
      | false => rfl
      | true => have := Nat.eq_of_beq_eq_true hb; omega
    | succ i =>
      have e : (a :: t).getD (i + 1) 0 = t.getD i 0 := rfl
      have hi2 : i < t.length := by simpa using hi
      have hlt := h1 _ (getD_mem hi2)
      rw [e, List.filter_cons_of_pos]
      · show a :: _ = a :: t.eraseIdx i
        rw [ih i h2 hi2]
      · cases hb : Nat.beq a (t.getD i 0) with
        | false => rfl
        | true => have := Nat.eq_of_beq_eq_true hb; omega
/-- the waiting words without one -/
theorem wl_erase {s t : Rw} {w i : Nat} (hi : i < (wl s w).length) (hk : ¬ wv t ((wl s w).getD i 0) / 64 % 4 = 0) (hj : ∀ j, j < w → j ≠ (wl s w).getD i 0 → t (95 + j) = s (95 + j)) : wl t w = (wl s w).eraseIdx i := by
  rw [← er_filter _ i wl_pair hi]
  generalize hg : (wl s w).getD i 0 = g at hk hj ⊢
  unfold wl
  rw [List.filter_filter]
  apply List.filter_congr
  intro k hk2
  have hkw := List.mem_range.mp hk2
  unfold isWt
  by_cases e : k = g
  · subst e
    rw [Nat.beq_refl]
    cases hb : Nat.beq (wv t k / 64 % 4) 0 with
    | false => rfl
    | true => exact absurd (Nat.eq_of_beq_eq_true hb) hk
  · rw [wv_eq (hj k hkw e)]
    cases hb : Nat.beq k g with
    | true => exact absurd (Nat.eq_of_beq_eq_true hb) e
    | false => simp
section TN
variable {B B' : Mem} {s : Rw} {w i : Nat}
theorem rel_g (hW : RpW B s w) (hO : OkW s w) (hi : i < (wl s w).length) (hf : fRd s w w = nI ((wl s w).getD i 0)) (hQ : QL B' ((wl s w).eraseIdx i)) (hF : FrQ B B') : RpW (up (up (up B' 14 ((wl s w).getD i 0) 1) 11 7 (nI ((wl s w).getD i 0))) 11 8 (s 2)) (getF s w) w := by
  have hw := hO.1
  obtain ⟨hk, hst⟩ := wl_at hi
  have e0 : getF s w = upd (upd (upd s 295 (nI ((wl s w).getD i 0))) 296 (s 2)) (95 + (wl s w).getD i 0) (nI (setSt (wv s ((wl s w).getD i 0)) 1)) := by
    unfold getF
    rw [hf, if_neg (nI_m6 (by omega)), nI_cl (by omega)]
  rw [e0]
  have hwe : ∀ t : Rw, ¬ wv t ((wl s w).getD i 0) / 64 % 4 = 0 → (∀ j, j < w → j ≠ (wl s w).getD i 0 → t (95 + j) = s (95 + j)) → wl t w = (wl s w).eraseIdx i := fun t => wl_erase hi
  generalize hL : (wl s w).eraseIdx i = L at hQ hwe
  generalize (wl s w).getD i 0 = k at hk hst hwe ⊢
  generalize ht : upd (upd (upd s 295 (nI k)) 296 (s 2)) (95 + k) (nI (setSt (wv s k) 1)) = t
  obtain ⟨g1, g2, g3, g4, g5, g6, g7, g8⟩ := hW
  have lk : t (95 + k) = nI (setSt (wv s k) 1) := by rw [← ht, upd_same]
  have lj : ∀ j, j < w → j ≠ k → t (95 + j) = s (95 + j) := fun j hj hjk => by rw [← ht, upd_at, if_neg (by omega), upd_at, if_neg (by omega), upd_at, if_neg (by omega)]
  have t295 : t 295 = nI k := by rw [← ht, upd_at, if_neg (by omega), upd_at, if_neg (by decide), upd_same]
  have t296 : t 296 = s 2 := by rw [← ht, upd_at, if_neg (by omega), upd_same]
  have tx : ∀ x, 299 ≤ x → t x = s x := fun x h1 => by rw [← ht, upd_at, if_neg (by omega), upd_at, if_neg (by omega), upd_at, if_neg (by omega)]
  obtain ⟨a1, a2, a3, a4⟩ := g2 k hk
  obtain ⟨d1, d2, d3, d4⟩ := setSt_p (v := wv s k) (show 1 < 4 by decide)
  have hlt := setSt_lt (hO.2.2 k hk).2 (show 1 < 4 by decide)
  have ek := wv_of hlt lk
  refine ⟨?_, fun j hj => ?_, ?_, ?_, Or.inr ?_, ?_, ?_, ?_⟩
  · rw [up_rr, if_neg (by decide), up_rr, if_neg (by decide), up_ne (by decide), hF.2 4 (by decide)]; exact g1
  · by_cases hjk : j = k
    · subst hjk
      refine RWd_of hlt lk ?_ ?_ ?_ ?_
      · rw [up_ne (by decide), up_ne (by decide), up_ne (by decide), hF.1 12 (by decide) (by decide), d1]; exact a1
      · rw [up_ne (by decide), up_ne (by decide), up_ne (by decide), hF.1 13 (by decide) (by decide), d2]; exact a2
      · rw [up_ne (by decide), up_ne (by decide), up_rr, if_pos rfl, d3]; rfl
      · rw [up_ne (by decide), up_ne (by decide), up_ne (by decide), hF.1 15 (by decide) (by decide), d4]; exact a4
    · exact RWd_same (g2 j hj) (lj j hj hjk) (by rw [up_ne (by decide), up_ne (by decide), up_ne (by decide), hF.1 12 (by decide) (by decide)]) (by rw [up_ne (by decide), up_ne (by decide), up_ne (by decide), hF.1 13 (by decide) (by decide)]) (by rw [up_ne (by decide), up_ne (by decide), up_rr, if_neg hjk, hF.1 14 (by decide) (by decide)]) (by rw [up_ne (by decide), up_ne (by decide), up_ne (by decide), hF.1 15 (by decide) (by decide)])
  · rw [hwe t (by rw [ek, d3]; decide) lj]
    exact QL_same hQ (by rw [up_rr, if_neg (by decide), up_rr, if_neg (by decide), up_ne (by decide)]) (by rw [up_ne (by decide), up_ne (by decide), up_ne (by decide)])
  · rw [up_rr, if_neg (by decide), up_rr, if_pos rfl, t295]
  · rw [up_rr, if_pos rfl, t296]
  · rw [up_rr, if_neg (by decide), up_rr, if_neg (by decide), up_ne (by decide), hF.2 9 (by decide), tx 300 (by decide)]; exact g6
  · rw [up_rr, if_neg (by decide), up_rr, if_neg (by decide), up_ne (by decide), hF.2 10 (by decide), tx 301 (by decide)]; exact g7
  · rw [up_rr, if_neg (by decide), up_rr, if_neg (by decide), up_ne (by decide), hF.2 11 (by decide), tx 299 (by decide)]; exact g8
end TN
theorem rdy_a {s : Rw} {k : Nat} (hf : s (fb (wv s k % 8) 6) = 0) : rdy s k = 0 := by
  unfold rdy
  split
  · rw [if_neg (by rw [hf]; decide)]
  · rfl
theorem rdy_b {s : Rw} {k : Nat} (hf : s (fb (wv s k / 8 % 8) 6) = 0) : rdy s k = 0 := by
  unfold rdy
  split
  · split
    · rw [if_neg (by rw [hf]; decide)]
    · rfl
  · rfl
theorem rdy_c {s : Rw} {k : Nat} (hst : wv s k / 64 % 4 = 0) (h1 : s (fb (wv s k % 8) 6) = 0 ∨ s (fb (wv s k % 8) 6) = 1) (h2 : s (fb (wv s k / 8 % 8) 6) = 0 ∨ s (fb (wv s k / 8 % 8) 6) = 1) (h3 : ¬ s (fb (wv s k % 8) 6) = 0) (h4 : ¬ s (fb (wv s k / 8 % 8) 6) = 0) : ¬ rdy s k = 0 := by
  unfold rdy
  rw [hst, if_pos (show nI 0 = 0 from rfl), if_pos (h1.resolve_left h3), if_pos (h2.resolve_left h4)]
  decide
set_option maxRecDepth 100000 in
set_option maxHeartbeats 4000000 in
theorem takeLoop {X : jX} {ad : Nat → Nat} {m B : Mem} {b : Nat} {s : Rw} {w : Nat} {n A : Nat} (hb : isB b) (hW : RpW B s w) (hO : OkW s w) (h10 : (wl s w).length ≤ 10) (hn : n ≤ 8) (hG : ∀ k, k < w → wv s k % 8 < n ∧ wv s k / 8 % 8 < n) (hf : ∀ i, i < n → Bf s i) (hK : KS s n A) : ∀ (j i : Nat), i + j = (wl s w).length → (∀ r, r < i → rdy s ((wl s w).getD r 0) = 0) → Jg X RX2 cX2_takeNextWord 5 (none) "takeNextWord" 1 0 0 (QF X ad (fun v m9 => v = none ∧ ∃ B9, m9 = SB m b B9 ∧ RpW B9 (getF s w) w ∧ FrW B B9)) ad 0 0 2 [(0, .ref (b + 11)), (1, .int (nI A)), (2, .int (s 2)), (3, .int (nI i))] [] (WS X ad (SB m b B)) := by
  have hw := hO.1
  intro j
  induction j with
  | zero =>
    intro i hi hno
    obtain rfl : i = (wl s w).length := by omega
    refine J_iload_n dX2_takeNextWord_2 rfl rfl ?_
    refine J_aload_n dX2_takeNextWord_3 rfl rfl ?_
    refine gB_queued (by first | assumption | exact isB1 | exact isB18) wf_X2_40 dX2_takeNextWord_4 ?_
    refine J_topi (fun z9 hz9 => ?_)
    obtain rfl : z9 = (nI (wl s w).length) := hz9.trans (by exact hW.2.2.1.1)
    clear hz9
    refine J_icmp_ge (tgt := 86) dX2_takeNextWord_7 (by decide) (fun h7 => ?_) (fun h7 => absurd (nI_le1 (Nat.le_refl _) (by omega)) h7)
    refine r_void dX2_takeNextWord_86 ?_
    have e : getF s w = s := by unfold getF; rw [if_pos (fRd_none ((rdy_before hno).2 rfl) w (Nat.le_refl _))]
    exact ⟨rfl, B, rfl, by rw [e]; exact hW, FrW.rf⟩
  | succ j ih =>
    intro i hi hno
    have hil : i < (wl s w).length := by omega
    obtain ⟨hk, hst⟩ := wl_at hil
    obtain ⟨q1, q2⟩ := hG _ hk
    obtain ⟨a1, a2, -, -⟩ := hW.2.1 _ hk
    have f1 := (hf _ q1).2.1
    have f2 := (hf _ q2).2.1
    refine J_iload_n dX2_takeNextWord_2 rfl rfl ?_
    refine J_aload_n dX2_takeNextWord_3 rfl rfl ?_
    refine gB_queued (by first | assumption | exact isB1 | exact isB18) wf_X2_40 dX2_takeNextWord_4 ?_
    refine J_topi (fun z9 hz9 => ?_)
    obtain rfl : z9 = (nI (wl s w).length) := hz9.trans (by exact hW.2.2.1.1)
    clear hz9
    refine J_icmp_ge (tgt := 86) dX2_takeNextWord_7 (by decide) (fun h7 => absurd h7 (nI_nle1 (by omega) (by omega))) (fun h7 => ?_)
    refine J_aload_n dX2_takeNextWord_10 rfl rfl ?_
    refine gX2_queue (by first | assumption | exact isB1 | exact isB18) wf_X2_24 dX2_takeNextWord_11 ?_
    refine J_iload_n dX2_takeNextWord_14 rfl rfl ?_
    refine rB_w16 hb i (by omega) rfl dX2_takeNextWord_15 ?_
    refine J_topi (fun z9 hz9 => ?_)
    obtain rfl : z9 = (nI ((wl s w).getD i 0)) := hz9.trans (by exact hW.2.2.1.2 i hil)
    clear hz9
    refine J_istore dX2_takeNextWord_16 rfl rfl ?_
    refine J_aload_n dX2_takeNextWord_18 rfl rfl ?_
    refine J_iload dX2_takeNextWord_19 rfl ?_
    refine cVi wv_X2_55 (c_isWord hb hW.1 hk hw) dX2_takeNextWord_21 (ob2 (by first | assumption | exact isB1 | exact isB18)) rfl rfl (kk := ?_)
    refine J_if_eq (tgt := 80) dX2_takeNextWord_24 (by decide) (fun h24 => absurd h24 (by decide)) (fun h24 => ?_)
    refine J_aload_n dX2_takeNextWord_27 rfl rfl ?_
    refine gX2_senders (by first | assumption | exact isB1 | exact isB18) wf_X2_9 dX2_takeNextWord_28 ?_
    refine J_iload dX2_takeNextWord_31 rfl ?_
    refine rB_w12 hb ((wl s w).getD i 0) (by omega) rfl dX2_takeNextWord_33 ?_
    refine J_topi (fun z9 hz9 => ?_)
    obtain rfl : z9 = (nI (wv s ((wl s w).getD i 0) % 8)) := hz9.trans (by exact a1)
    clear hz9
    refine J_iload_n dX2_takeNextWord_34 rfl rfl ?_
    refine cSi ws_X2_71 (c_X2_isInSet) dX2_takeNextWord_35 (kk := ?_)
    refine J_topi (fun z9 hz9 => ?_)
    obtain rfl : z9 = (s (fb (wv s ((wl s w).getD i 0) % 8) 6)) := hz9.trans (by exact ks_val hK q1 hn f1)
    clear hz9
    refine J_if_eq (tgt := 80) dX2_takeNextWord_38 (by decide) (fun h38 => ?_) (fun h38 => ?_)
    · refine J_iinc (v := _ + 1) dX2_takeNextWord_80 rfl rfl rfl rfl ?_
      rw [show nI i + 1 = nI (i + 1) from (nI_succ i).symm]
      refine J_goto (tgt := 2) dX2_takeNextWord_83 (by decide) ?_
      have hz : rdy s ((wl s w).getD i 0) = 0 := by first | exact rdy_a h38 | exact rdy_b h52
      refine J_lv [0, 1, 2, 3] rfl ?_
      refine ih (i + 1) (by omega) (fun r hr => ?_)
      by_cases e : r = i
      · rw [e]; exact hz
      · exact hno r (by omega)
    · refine J_aload_n dX2_takeNextWord_41 rfl rfl ?_
      refine gX2_receivers (by first | assumption | exact isB1 | exact isB18) wf_X2_15 dX2_takeNextWord_42 ?_
      refine J_iload dX2_takeNextWord_45 rfl ?_
      refine rB_w13 hb ((wl s w).getD i 0) (by omega) rfl dX2_takeNextWord_47 ?_
      refine J_topi (fun z9 hz9 => ?_)
      obtain rfl : z9 = (nI (wv s ((wl s w).getD i 0) / 8 % 8)) := hz9.trans (by exact a2)
      clear hz9
      refine J_iload_n dX2_takeNextWord_48 rfl rfl ?_
      refine cSi ws_X2_71 (c_X2_isInSet) dX2_takeNextWord_49 (kk := ?_)
      refine J_topi (fun z9 hz9 => ?_)
      obtain rfl : z9 = (s (fb (wv s ((wl s w).getD i 0) / 8 % 8) 6)) := hz9.trans (by exact ks_val hK q2 hn f2)
      clear hz9
      refine J_if_eq (tgt := 80) dX2_takeNextWord_52 (by decide) (fun h52 => ?_) (fun h52 => ?_)
      · refine J_iinc (v := _ + 1) dX2_takeNextWord_80 rfl rfl rfl rfl ?_
        rw [show nI i + 1 = nI (i + 1) from (nI_succ i).symm]
        refine J_goto (tgt := 2) dX2_takeNextWord_83 (by decide) ?_
        have hz : rdy s ((wl s w).getD i 0) = 0 := by first | exact rdy_a h38 | exact rdy_b h52
        refine J_lv [0, 1, 2, 3] rfl ?_
        refine ih (i + 1) (by omega) (fun r hr => ?_)
        by_cases e : r = i
        · rw [e]; exact hz
        · exact hno r (by omega)
      · have hrd := rdy_c hst f1 f2 h38 h52
        have hfr := fRd_low hk hrd ((rdy_before hno).1 hil) w (by omega) (Nat.le_refl _)
        refine J_aload_n dX2_takeNextWord_55 rfl rfl ?_
        refine J_iload_n dX2_takeNextWord_56 rfl rfl ?_
        refine cVg wv_X2_74 (c_X2_removeFromQueue hb hW.2.2.1 h10 hil) dX2_takeNextWord_57 (ob2 (by first | assumption | exact isB1 | exact isB18)) rfl rfl (kk := (fun v m9 hf9 => ?_))
        obtain ⟨rfl, B9, rfl, hQ9, hF9⟩ := hf9
        refine J_aload_n dX2_takeNextWord_60 rfl rfl ?_
        refine gX2_conditions (by first | assumption | exact isB1 | exact isB18) wf_X2_18 dX2_takeNextWord_61 ?_
        refine J_iload dX2_takeNextWord_64 rfl ?_
        refine J_iconst (v := 1) dX2_takeNextWord_66 (by decide) ?_
        refine wB_w14 hb ((wl s w).getD i 0) (by omega) rfl dX2_takeNextWord_67 ?_
        refine J_aload_n dX2_takeNextWord_68 rfl rfl ?_
        refine J_iload dX2_takeNextWord_69 rfl ?_
        refine pB_onBus (by first | assumption | exact isB1 | exact isB18) wf_X2_27 dX2_takeNextWord_71 ?_
        refine J_aload_n dX2_takeNextWord_74 rfl rfl ?_
        refine J_iload_n dX2_takeNextWord_75 rfl rfl ?_
        refine pB_ticksLeft (by first | assumption | exact isB1 | exact isB18) wf_X2_43 dX2_takeNextWord_76 ?_
        refine r_void dX2_takeNextWord_79 ?_
        exact ⟨rfl, _, rfl, rel_g hW hO hil hfr hQ9 hF9, FrW.up (FrW.up (FrW.up (fun r hr => hF9.1 r (by omega) (by omega)) (by decide)) (by decide)) (by decide)⟩

set_option maxRecDepth 100000 in
set_option maxHeartbeats 4000000 in
theorem c_X2_takeNextWord {X : jX} {ad : Nat → Nat} {m B : Mem} {b : Nat} {s : Rw} {w : Nat} {n A : Nat} (hb : isB b) (hW : RpW B s w) (hO : OkW s w) (h10 : (wl s w).length ≤ 10) (hn : n ≤ 8) (hG : ∀ k, k < w → wv s k % 8 < n ∧ wv s k / 8 % 8 < n) (hf : ∀ i, i < n → Bf s i) (hK : KS s n A) : Cm X yX2_takeNextWord cX2_takeNextWord 5 (none) 1 ad [.ref (b + 11), .int (nI A), .int (s 2)] (SB m b B) (fun v m9 => v = none ∧ ∃ B9, m9 = SB m b B9 ∧ RpW B9 (getF s w) w ∧ FrW B B9) := by
  refine Cm.of (own := RX2) (nm := "takeNextWord") (by decide +kernel) rfl rfl rfl rfl ?_
  refine J_iconst (v := 0) dX2_takeNextWord_0 (by decide) ?_
  refine J_istore_n dX2_takeNextWord_1 rfl rfl rfl ?_
  exact takeLoop hb hW hO h10 hn hG hf hK (wl s w).length 0 (Nat.zero_add _) (fun r hr => absurd hr (by omega))

