theorem lostF_hi {s : Rw} {k v x : Nat} (hk : k < 200) (hx : 302 ≤ x) : lostF s k v x = s x := by
  unfold lostF
  rw [upd_at, if_neg (by omega), upd_at, if_neg (by omega), upd_at, if_neg (by omega)]
theorem fgL_hi {s : Rw} {b x : Nat} (hx : 302 ≤ x) : ∀ k, k ≤ 200 → fgL s b k x = s x := by
  intro k
  induction k with
  | zero => intro _; rfl
  | succ k ih =>
    intro hk
    unfold fgL
    split
    · exact ih (by omega)
    · split
      · exact ih (by omega)
      · rw [lostF_hi (by omega) hx]; exact ih (by omega)
theorem fgF_hi {s : Rw} {w i x : Nat} (hw : w ≤ 200) (hi : i < 8) (hx : 302 ≤ x) : fgF s w i x = s x := by
  unfold fgF
  rw [upd_fbx hi (by decide) (by omega), upd_fbx hi (by decide) (by omega), upd_fbx hi (by decide) (by omega), fgL_hi hx w hw]
theorem grF_hi {s : Rw} {w i x : Nat} (hw : w ≤ 200) (hi : i < 8) (hx : 302 ≤ x) : grF s w i x = s x := by
  have e (t : Rw) (k : Nat) (hk : k < 11) (v : Int32) : upd t (fb i k) v x = t x := upd_fbx hi hk (by omega)
  unfold grF
  (repeat' split) <;> first | rfl | (rw [fgF_hi hw hi hx, e _ _ (by decide)]) | (rw [e _ _ (by decide), e _ _ (by decide)]) | (rw [e _ _ (by decide)])
theorem grL_hi {s : Rw} {w x : Nat} (hw : w ≤ 200) (hx : 302 ≤ x) : ∀ k, k ≤ 8 → grL s w k x = s x := by
  intro k
  induction k with
  | zero => intro _; rfl
  | succ k ih => intro hk; exact (grF_hi hw (by omega) hx).trans (ih (by omega))
theorem srF_hi {s : Rw} {p : Int32} {k x : Nat} (hk : k < 200) (hx : 302 ≤ x) : srF s p k x = s x := by
  have c : ∀ t : Rw, ∀ v, upd t (fb (wv s k % 8) 9) v x = t x := fun t v => upd_fbx (by omega) (by decide) (by omega)
  unfold srF
  split
  · split
    · rw [upd_at, if_neg (by omega), c, upd_at, if_neg (by omega), upd_at, if_neg (by omega), upd_at, if_neg (by omega)]
    · rw [upd_at, if_neg (by omega)]
  · split
    · rw [lostF_hi hk hx, upd_at, if_neg (by omega), upd_at, if_neg (by omega), upd_at, if_neg (by omega)]
    · rw [upd_at, if_neg (by omega), upd_at, if_neg (by omega), upd_at, if_neg (by omega)]
theorem getF_hi {s : Rw} {w x : Nat} (hw : w ≤ 200) (hx : 302 ≤ x) : getF s w x = s x := by
  rcases fRd_or (s := s) (n := w) w (Nat.le_refl _) with e | ⟨k, hk, e⟩
  · unfold getF; rw [if_pos e]
  · unfold getF
    rw [e, if_neg (nI_m6 (by omega)), nI_cl (by omega), upd_at, if_neg (by omega), upd_at, if_neg (by omega), upd_at, if_neg (by omega)]
theorem tkF_hi {s : Rw} {n w x : Nat} (h : OkS s w) (hn8 : n ≤ 8) (hx : 302 ≤ x) : tkF s n w x = s x := by
  have hw := h.1.1
  have h1 : OkS (mvL s n 5) w := OkS_out h (fun x hx hx2 => mvL_out (by omega) hn8 5)
  have h2 := tkD_ok (p := pgL s n 5) (n := n) h1 hn8
  have e2 : tkD (mvL s n 5) (pgL s n 5) n w x = s x := by
    unfold tkD
    rw [grL_hi hw hx n hn8, pwL_out (by omega) hn8, tkB_out (by omega), mvL_out (by omega) hn8]
  have e3 : tkE (tkD (mvL s n 5) (pgL s n 5) n w) (pgL s n 5) x = s x := by
    unfold tkE
    split
    · exact e2
    · next hb =>
      rcases h2.1.2.2 with q | ⟨k, hk, h4, h5⟩
      · exact absurd q hb
      · rw [h4, nI_cl (by omega), srF_hi (by omega) hx]; exact e2
  unfold tkF tkH
  rw [upd_at, if_neg (by omega)]
  unfold tkG
  split
  · split
    · rw [getF_hi hw hx]; exact e3
    · exact e3
  · exact e3
theorem tks_hi {s : Rw} {n w x : Nat} (h : OkS s w) (hn8 : n ≤ 8) (hx : 302 ≤ x) : ∀ k, tks s n w k x = s x := by
  intro k
  induction k with
  | zero => rfl
  | succ k ih => exact (tkF_hi (tks_ok h hn8 k).1 hn8 hx).trans ih
theorem back_eq {m : Mem} {s t : Rw} (h : ∀ x, 302 ≤ x → t x = s x) : mrg 302 (asd m s 197) t = s := by
  funext k
  unfold mrg
  by_cases hk : k < 302
  · rw [if_pos hk, asd_at hk]
  · rw [if_neg hk, h k (by omega)]
theorem asd_asd {m : Mem} {s : Rw} : asd (asd m s) s = asd m s := by
  funext c
  by_cases h : c = 197
  · subst h
    funext k
    by_cases hk : k < 302
    · rw [asd_at hk, asd_at hk]
    · unfold asd; rw [upC_at, upC_at, mrg_ge hk]
  · rw [asd_ne h]
/-- the first place from i on, j at most ahead, where P is not 0 -/
def lk1 (P : Nat → Int32) : Nat → Nat → Nat
  | 0, i => i
  | j + 1, i => if P i = 0 then lk1 P j (i + 1) else i
theorem lk1_le {P : Nat → Int32} : ∀ j i, i ≤ lk1 P j i ∧ lk1 P j i ≤ i + j := by
  intro j
  induction j with
  | zero => intro i; exact ⟨Nat.le_refl _, Nat.le_refl _⟩
  | succ j ih =>
    intro i
    unfold lk1
    split
    · have := ih (i + 1); omega
    · omega
def farA (r : Nat) : Int32 := if r ≤ 200 then nI r else -6
def kiA (s : Rw) (n w : Nat) (x : Int32) : Int32 := if jin x 0 (nI n - 1) = 0 then -1 else if s (fb x.toNatClampNeg 2) = -6 then -5 else farA (lk1 (fun i => tks s n w i (fb x.toNatClampNeg 6)) 201 0)
def quA (s : Rw) (n w : Nat) : Int32 := farA (lk1 (fun i => if goN (tks s n w i) w ≤ 0 then 1 else 0) 201 0)
def hbR (t : Rw) (n w q : Nat) : Nat := lk1 (fun i => if tks t n w i (fb q 4) = 0 then 1 else 0) 24 0
def hbA (s : Rw) (n w : Nat) (x z y : Int32) : Int32 := if (plF s n x z y).1 < 0 then (plF s n x z y).1 else tks (plF s n x z y).2 n w (hbR (plF s n x z y).2 n w x.toNatClampNeg) 299 - (plF s n x z y).2 299
def ssF (s : Rw) (n w : Nat) (x z : Int32) : Nat → Int32
  | 0 => -6
  | k + 1 => if hbA s n w x z (nI (k + 1)) = 0 then nI (k + 1) else ssF s n w x z k
def ssA (s : Rw) (n w : Nat) (x z : Int32) : Int32 := if hbA s n w x z 1 < 0 then hbA s n w x z 1 else ssF s n w x z 24
theorem v124 : ∀ v, v < 25 → ¬ jin (nI v) 1 24 = 0 → 1 ≤ v := by decide +kernel
theorem nI_lt0 {k : Nat} (h : k < 2147483648) : ¬ nI k < 0 := by
  rw [Int32.not_lt, Int32.le_iff_toInt_le, nI_toInt (by omega)]
  exact Int.natCast_nonneg k
/-- what a plug that is refused leaves, and one that is not -/
theorem plF_cases {s : Rw} {n : Nat} {x z y : Int32} (hn8 : n ≤ 8) (hM : OkM s n) : ((plF s n x z y).1 < 0 ∧ (plF s n x z y).2 = s) ∨ ∃ q k v d, q < n ∧ k < 5 ∧ 1 ≤ v ∧ v ≤ 24 ∧ d < 24 ∧ x = nI q ∧ z = nI k ∧ y = nI v ∧ plF s n x z y = (nI d, upd (upd (upd s (fb q 2) (nI k)) (fb q 4) (nI v)) (fb q 7) 0) ∧ s (fb q 3) = nI d ∧ (∀ j, j < n → j ≠ q → ¬ s (fb j 2) = nI k) := by
  by_cases h1 : jin x 0 (nI n - 1) = 0
  · left; simp only [plF, h1, reduceIte]; exact ⟨by decide, trivial⟩
  by_cases h2 : jin z 0 4 = 0
  · left; simp only [plF, h1, h2, reduceIte]; exact ⟨by decide, trivial⟩
  by_cases h3 : jin y 1 24 = 0
  · left; simp only [plF, h1, h2, h3, reduceIte]; exact ⟨by decide, trivial⟩
  obtain ⟨q, hq, rfl⟩ := jinB hn8 h1
  obtain ⟨k, hk, rfl⟩ := jin_nat (n := 4) (by decide) rfl h2
  obtain ⟨v, hv, rfl⟩ := jin_nat (n := 24) (by decide) rfl h3
  have e9 := cl8 hq hn8
  by_cases h4 : plK s n q (nI k) = 0
  · left; simp only [plF, e9, h1, h2, h3, h4, reduceIte]; exact ⟨by decide, trivial⟩
  by_cases h5 : s (fb q 3) = 24
  · left; simp only [plF, e9, h1, h2, h3, h4, h5, reduceIte]; exact ⟨by decide, trivial⟩
  right
  obtain ⟨d, v', hd, -, h6, h7⟩ := hM.1 q hq
  have hd24 : d < 24 := by
    rcases Nat.lt_or_ge d 24 with g | g
    · exact g
    · exact absurd (h6.trans ((nI24 d (by omega)).2 (by omega))) h5
  refine ⟨q, k, v, d, hq, by omega, v124 v (by omega) h3, hv, hd24, rfl, rfl, rfl, ?_, h6, fun j hj hjq hs => ?_⟩
  · simp only [plF, e9, h1, h2, h3, h4, h5, h6, reduceIte]
    rw [if_neg (by rw [← h6]; exact h5)]
  · unfold plK at h4
    by_cases h8 : s (fb q 2) = nI k
    · have := hM.2 j q hj hq hjq (hs.trans h8.symm)
      rw [hs] at this
      exact nI_n6 k (by omega) this
    · rw [if_neg h8] at h4
      by_cases h9 : s (fb q 2) = -6
      · rw [if_pos h9] at h4
        by_cases h10 : bI s (nI k) n = -6
        · exact bI_no n hn8 h10 j hj hs
        · rw [if_neg h10] at h4; exact h4 rfl
      · rw [if_neg h9] at h4; exact h4 rfl
theorem OkM_pl {s : Rw} {n q k v d : Nat} (hM : OkM s n) (hv : v ≤ 24) (hd : d < 24) (hk : k < 5) (h3 : s (fb q 3) = nI d) (ho : ∀ j, j < n → j ≠ q → ¬ s (fb j 2) = nI k) : OkM (upd (upd (upd s (fb q 2) (nI k)) (fb q 4) (nI v)) (fb q 7) 0) n ∧ upd (upd (upd s (fb q 2) (nI k)) (fb q 4) (nI v)) (fb q 7) 0 (fb q 2) = nI k ∧ upd (upd (upd s (fb q 2) (nI k)) (fb q 4) (nI v)) (fb q 7) 0 (fb q 3) = nI d ∧ upd (upd (upd s (fb q 2) (nI k)) (fb q 4) (nI v)) (fb q 7) 0 (fb q 4) = nI v := by
  have e2 : upd (upd (upd s (fb q 2) (nI k)) (fb q 4) (nI v)) (fb q 7) 0 (fb q 2) = nI k := by rw [upd_fbn (by decide), upd_fbn (by decide), upd_same]
  have e3 : upd (upd (upd s (fb q 2) (nI k)) (fb q 4) (nI v)) (fb q 7) 0 (fb q 3) = nI d := by rw [upd_fbn (by decide), upd_fbn (by decide), upd_fbn (by decide)]; exact h3
  have e4 : upd (upd (upd s (fb q 2) (nI k)) (fb q 4) (nI v)) (fb q 7) 0 (fb q 4) = nI v := by rw [upd_fbn (by decide), upd_same]
  have ej : ∀ j l, l < 11 → j ≠ q → upd (upd (upd s (fb q 2) (nI k)) (fb q 4) (nI v)) (fb q 7) 0 (fb j l) = s (fb j l) := fun j l hl hj => by rw [upd_fbj (by decide) hl hj, upd_fbj (by decide) hl hj, upd_fbj (by decide) hl hj]
  refine ⟨⟨fun i hi => ?_, fun a b ha hb hab heq => ?_⟩, e2, e3, e4⟩
  · by_cases hiq : i = q
    · subst hiq
      exact ⟨d, v, by omega, hv, e3, Or.inr ⟨k, hk, e2, Or.inl e4⟩⟩
    · unfold Bd
      rw [ej i 2 (by decide) hiq, ej i 3 (by decide) hiq, ej i 4 (by decide) hiq]
      exact hM.1 i hi
  · by_cases haq : a = q
    · subst haq
      rw [e2, ej b 2 (by decide) (fun h => hab h.symm)] at heq
      exact absurd heq.symm (ho b hb (fun h => hab h.symm))
    · rw [ej a 2 (by decide) haq] at heq ⊢
      by_cases hbq : b = q
      · subst hbq
        rw [e2] at heq
        exact absurd heq (ho a ha haq)
      · rw [ej b 2 (by decide) hbq] at heq
        exact hM.2 a b ha hb hab heq
theorem OkM_tks {s : Rw} {n w : Nat} (h : OkM s n) (hn : n ≤ 8) : ∀ k, OkM (tks s n w k) n := by
  intro k
  induction k with
  | zero => exact h
  | succ k ih => exact OkM_tk ih hn
theorem gt200 : ∀ r, r < 202 → (200 < nI r ↔ 200 < r) := by decide +kernel
theorem le200 : ∀ r, r < 202 → (nI r ≤ 200 ↔ r ≤ 200) := by decide +kernel
set_option maxRecDepth 100000 in
set_option maxHeartbeats 4000000 in
theorem knownInLoop {X : jX} {ad : Nat → Nat} {m : Mem} {s : Rw} {n w q r : Nat} (hn : s 5 = nI n) (hn8 : n ≤ 8) (hS : OkS s w) (hq : q < n) (hr : r ≤ 201) : ∀ (j i : Nat), i + j = 201 → r = lk1 (fun i => tks s n w i (fb q 6)) j i → Jg X RX6 cX6_knownIn 3 (some .int) "knownIn" 6 0 0 (QF X ad (fun v m9 => v = some (.int (farA r)) ∧ m9 = SM (asd m s) s)) ad 0 0 34 [(0, .ref 195), (1, .int (nI q)), (2, .int (nI i))] [] (WS X ad (SM (asd m s) (tks s n w i))) := by
  intro j
  induction j with
  | zero =>
    intro i hi hR
    obtain rfl : i = 201 := by omega
    have hR : r = 201 := hR
    rw [hR]
    refine J_iload_n dX6_knownIn_34 rfl rfl ?_
    refine J_sipush (v := 200) dX6_knownIn_35 (by decide) ?_
    refine J_icmp_gt (tgt := 65) dX6_knownIn_38 (by decide) (fun h38 => ?_) (fun h38 => absurd ((gt200 201 (by decide)).2 (by decide)) h38)
    refine J_aload_n dX6_knownIn_65 rfl rfl ?_
    refine cVv wv_X6_155 (c_X6_putBack) dX6_knownIn_66 ob6 rfl rfl (kk := ?_)
    refine J_ws (ws' := WS X ad (SM (asd m s) s)) (by rw [back_eq (fun x hx => tks_hi hS hn8 hx _)]) ?_
    refine J_iload_n dX6_knownIn_69 rfl rfl ?_
    refine J_sipush (v := 200) dX6_knownIn_70 (by decide) ?_
    refine J_icmp_le (tgt := 81) dX6_knownIn_73 (by decide) (fun h73 => ?_) (fun h73 => ?_)
    · refine J_iload_n dX6_knownIn_81 rfl rfl ?_
      refine r_int dX6_knownIn_82 ?_
      exact ⟨by first | (rw [farA, if_pos ((le200 _ (by omega)).1 h73)]; done) | (rw [farA, if_neg (fun g => h73 ((le200 _ (by omega)).2 g))]; done), rfl⟩
    · refine J_bipush (v := -6) dX6_knownIn_76 (by decide) ?_
      refine J_goto (tgt := 82) dX6_knownIn_78 (by decide) ?_
      refine r_int dX6_knownIn_82 ?_
      exact ⟨by first | (rw [farA, if_pos ((le200 _ (by omega)).1 h73)]; done) | (rw [farA, if_neg (fun g => h73 ((le200 _ (by omega)).2 g))]; done), rfl⟩
  | succ j ih =>
    intro i hi hR
    have hk9 := tks_ok (n := n) hS hn8 i
    have hR2 : r = if tks s n w i (fb q 6) = 0 then lk1 (fun i => tks s n w i (fb q 6)) j (i + 1) else i := hR
    refine J_iload_n dX6_knownIn_34 rfl rfl ?_
    refine J_sipush (v := 200) dX6_knownIn_35 (by decide) ?_
    refine J_icmp_gt (tgt := 65) dX6_knownIn_38 (by decide) (fun h38 => absurd ((gt200 i (by omega)).1 h38) (by omega)) (fun h38 => ?_)
    refine J_aload_n dX6_knownIn_41 rfl rfl ?_
    refine gX6_s wf_X6_7 dX6_knownIn_42 ?_
    refine J_iload_n dX6_knownIn_45 rfl rfl ?_
    refine J_bipush (v := 6) dX6_knownIn_46 (by decide) ?_
    refine cSi ws_X6_58 (c_X6_ofBoard (i := q) (c := 6) 6 (by decide)) dX6_knownIn_48 (kk := ?_)
    refine rd_s (fb q 6) (fb_302 (by omega) (by decide)) rfl dX6_knownIn_51 ?_
    refine J_if_ne (tgt := 65) dX6_knownIn_52 (by decide) (fun h52 => ?_) (fun h52 => ?_)
    · rw [if_neg h52] at hR2
      subst hR2
      refine J_aload_n dX6_knownIn_65 rfl rfl ?_
      refine cVv wv_X6_155 (c_X6_putBack) dX6_knownIn_66 ob6 rfl rfl (kk := ?_)
      refine J_ws (ws' := WS X ad (SM (asd m s) s)) (by rw [back_eq (fun x hx => tks_hi hS hn8 hx _)]) ?_
      refine J_iload_n dX6_knownIn_69 rfl rfl ?_
      refine J_sipush (v := 200) dX6_knownIn_70 (by decide) ?_
      refine J_icmp_le (tgt := 81) dX6_knownIn_73 (by decide) (fun h73 => ?_) (fun h73 => ?_)
      · refine J_iload_n dX6_knownIn_81 rfl rfl ?_
        refine r_int dX6_knownIn_82 ?_
        exact ⟨by first | (rw [farA, if_pos ((le200 _ (by omega)).1 h73)]; done) | (rw [farA, if_neg (fun g => h73 ((le200 _ (by omega)).2 g))]; done), rfl⟩
      · refine J_bipush (v := -6) dX6_knownIn_76 (by decide) ?_
        refine J_goto (tgt := 82) dX6_knownIn_78 (by decide) ?_
        refine r_int dX6_knownIn_82 ?_
        exact ⟨by first | (rw [farA, if_pos ((le200 _ (by omega)).1 h73)]; done) | (rw [farA, if_neg (fun g => h73 ((le200 _ (by omega)).2 g))]; done), rfl⟩
    · refine J_aload_n dX6_knownIn_55 rfl rfl ?_
      refine cVv wv_X6_99 (c_X6_tick (n := n) (w := w) ((hk9.2 5 (by decide)).trans hn) hn8 hk9.1) dX6_knownIn_56 ob6 rfl rfl (kk := ?_)
      refine J_iinc (v := _ + 1) dX6_knownIn_59 rfl rfl rfl rfl ?_
      refine J_goto (tgt := 34) dX6_knownIn_62 (by decide) ?_
      rw [show nI i + 1 = nI (i + 1) from (nI_succ i).symm]
      rw [if_pos h52] at hR2
      exact ih (i + 1) (by omega) hR2

set_option maxRecDepth 100000 in
set_option maxHeartbeats 4000000 in
theorem c_X6_knownIn {X : jX} {ad : Nat → Nat} {m : Mem} {s : Rw} {n w : Nat} {x : Int32} (hn : s 5 = nI n) (hn8 : n ≤ 8) (hS : OkS s w) : Cm X yX6_knownIn cX6_knownIn 3 (some .int) 6 ad [.ref 195, .int x] (SM m s) (fun v m9 => v = some (.int (kiA s n w x)) ∧ (m9 = SM m s ∨ m9 = SM (asd m s) s)) := by
  refine Cm.of (own := RX6) (nm := "knownIn") (by decide +kernel) rfl rfl rfl rfl ?_
  refine J_aload_n dX6_knownIn_0 rfl rfl ?_
  refine J_iload_n dX6_knownIn_1 rfl rfl ?_
  refine cVi wv_X6_117 (c_X6_isBoard (n := n) hn) dX6_knownIn_2 ob6 rfl rfl (kk := ?_)
  refine J_if_ne (tgt := 10) dX6_knownIn_5 (by decide) (fun h5 => ?_) (fun h5 => ?_)
  · obtain ⟨q, hq, rfl⟩ := jinB hn8 h5
    have e9 := cl8 hq hn8
    refine J_aload_n dX6_knownIn_10 rfl rfl ?_
    refine gX6_s wf_X6_7 dX6_knownIn_11 ?_
    refine J_iload_n dX6_knownIn_14 rfl rfl ?_
    refine J_iconst (v := 2) dX6_knownIn_15 (by decide) ?_
    refine cSi ws_X6_58 (c_X6_ofBoard (i := q) (c := 2) 2 (by decide)) dX6_knownIn_16 (kk := ?_)
    refine rd_s (fb q 2) (fb_302 (by omega) (by decide)) rfl dX6_knownIn_19 ?_
    refine J_bipush (v := -6) dX6_knownIn_20 (by decide) ?_
    refine J_icmp_ne (tgt := 28) dX6_knownIn_22 (by decide) (fun h22 => ?_) (fun h22 => ?_)
    · refine J_aload_n dX6_knownIn_28 rfl rfl ?_
      refine cVv wv_X6_102 c_X6_putAside dX6_knownIn_29 ob6 rfl rfl (kk := ?_)
      refine J_iconst (v := 0) dX6_knownIn_32 (by decide) ?_
      refine J_istore_n dX6_knownIn_33 rfl rfl rfl ?_
      have e8 : kiA s n w (nI q) = farA (lk1 (fun i => tks s n w i (fb q 6)) 201 0) := by simp only [kiA, e9, h5, h22, reduceIte]
      rw [e8]
      exact Jg_fin (fun v m9 h => ⟨h.1, Or.inr h.2⟩) (knownInLoop hn hn8 hS hq (lk1_le 201 0).2 201 0 rfl rfl)
    · refine J_bipush (v := -5) dX6_knownIn_25 (by decide) ?_
      refine r_int dX6_knownIn_27 ?_
      exact ⟨by first | (simp only [kiA, h5, reduceIte]; done) | (simp only [kiA, e9, h5, h22, reduceIte]; done), Or.inl rfl⟩
  · refine J_iconst (v := -1) dX6_knownIn_8 (by decide) ?_
    refine r_int dX6_knownIn_9 ?_
    exact ⟨by first | (simp only [kiA, h5, reduceIte]; done) | (simp only [kiA, e9, h5, h22, reduceIte]; done), Or.inl rfl⟩

set_option maxRecDepth 100000 in
set_option maxHeartbeats 4000000 in
theorem quietLoop {X : jX} {ad : Nat → Nat} {m : Mem} {s : Rw} {n w r : Nat} (hn : s 5 = nI n) (hn8 : n ≤ 8) (hS : OkS s w) (hr : r ≤ 201) : ∀ (j i : Nat), i + j = 201 → r = lk1 (fun i => if goN (tks s n w i) w ≤ 0 then 1 else 0) j i → Jg X RX6 cX6_quietIn 2 (some .int) "quietIn" 6 0 0 (QF X ad (fun v m9 => v = some (.int (farA r)) ∧ m9 = SM (asd m s) s)) ad 0 0 6 [(0, .ref 195), (1, .int (nI i))] [] (WS X ad (SM (asd m s) (tks s n w i))) := by
  intro j
  induction j with
  | zero =>
    intro i hi hR
    obtain rfl : i = 201 := by omega
    have hR : r = 201 := hR
    rw [hR]
    refine J_iload_n dX6_quietIn_6 rfl rfl ?_
    refine J_sipush (v := 200) dX6_quietIn_7 (by decide) ?_
    refine J_icmp_gt (tgt := 32) dX6_quietIn_10 (by decide) (fun h10 => ?_) (fun h10 => absurd ((gt200 201 (by decide)).2 (by decide)) h10)
    refine J_aload_n dX6_quietIn_32 rfl rfl ?_
    refine cVv wv_X6_155 (c_X6_putBack) dX6_quietIn_33 ob6 rfl rfl (kk := ?_)
    refine J_ws (ws' := WS X ad (SM (asd m s) s)) (by rw [back_eq (fun x hx => tks_hi hS hn8 hx _)]) ?_
    refine J_iload_n dX6_quietIn_36 rfl rfl ?_
    refine J_sipush (v := 200) dX6_quietIn_37 (by decide) ?_
    refine J_icmp_le (tgt := 48) dX6_quietIn_40 (by decide) (fun h40 => ?_) (fun h40 => ?_)
    · refine J_iload_n dX6_quietIn_48 rfl rfl ?_
      refine r_int dX6_quietIn_49 ?_
      exact ⟨by first | (rw [farA, if_pos ((le200 _ (by omega)).1 h40)]; done) | (rw [farA, if_neg (fun g => h40 ((le200 _ (by omega)).2 g))]; done), rfl⟩
    · refine J_bipush (v := -6) dX6_quietIn_43 (by decide) ?_
      refine J_goto (tgt := 49) dX6_quietIn_45 (by decide) ?_
      refine r_int dX6_quietIn_49 ?_
      exact ⟨by first | (rw [farA, if_pos ((le200 _ (by omega)).1 h40)]; done) | (rw [farA, if_neg (fun g => h40 ((le200 _ (by omega)).2 g))]; done), rfl⟩
  | succ j ih =>
    intro i hi hR
    have hk9 := tks_ok (n := n) hS hn8 i
    have hR2 : r = if (if goN (tks s n w i) w ≤ 0 then (1 : Int32) else 0) = 0 then lk1 (fun i => if goN (tks s n w i) w ≤ 0 then 1 else 0) j (i + 1) else i := hR
    refine J_iload_n dX6_quietIn_6 rfl rfl ?_
    refine J_sipush (v := 200) dX6_quietIn_7 (by decide) ?_
    refine J_icmp_gt (tgt := 32) dX6_quietIn_10 (by decide) (fun h10 => absurd ((gt200 i (by omega)).1 h10) (by omega)) (fun h10 => ?_)
    refine J_aload_n dX6_quietIn_13 rfl rfl ?_
    refine J_bipush (v := -6) dX6_quietIn_14 (by decide) ?_
    refine cVi wv_X6_130 (c_goingN (n := w) hk9.1.1) dX6_quietIn_16 ob6 rfl rfl (kk := ?_)
    refine J_if_le (tgt := 32) dX6_quietIn_19 (by decide) (fun h19 => ?_) (fun h19 => ?_)
    · rw [if_pos h19, if_neg n10] at hR2
      subst hR2
      refine J_aload_n dX6_quietIn_32 rfl rfl ?_
      refine cVv wv_X6_155 (c_X6_putBack) dX6_quietIn_33 ob6 rfl rfl (kk := ?_)
      refine J_ws (ws' := WS X ad (SM (asd m s) s)) (by rw [back_eq (fun x hx => tks_hi hS hn8 hx _)]) ?_
      refine J_iload_n dX6_quietIn_36 rfl rfl ?_
      refine J_sipush (v := 200) dX6_quietIn_37 (by decide) ?_
      refine J_icmp_le (tgt := 48) dX6_quietIn_40 (by decide) (fun h40 => ?_) (fun h40 => ?_)
      · refine J_iload_n dX6_quietIn_48 rfl rfl ?_
        refine r_int dX6_quietIn_49 ?_
        exact ⟨by first | (rw [farA, if_pos ((le200 _ (by omega)).1 h40)]; done) | (rw [farA, if_neg (fun g => h40 ((le200 _ (by omega)).2 g))]; done), rfl⟩
      · refine J_bipush (v := -6) dX6_quietIn_43 (by decide) ?_
        refine J_goto (tgt := 49) dX6_quietIn_45 (by decide) ?_
        refine r_int dX6_quietIn_49 ?_
        exact ⟨by first | (rw [farA, if_pos ((le200 _ (by omega)).1 h40)]; done) | (rw [farA, if_neg (fun g => h40 ((le200 _ (by omega)).2 g))]; done), rfl⟩
    · refine J_aload_n dX6_quietIn_22 rfl rfl ?_
      refine cVv wv_X6_99 (c_X6_tick (n := n) (w := w) ((hk9.2 5 (by decide)).trans hn) hn8 hk9.1) dX6_quietIn_23 ob6 rfl rfl (kk := ?_)
      refine J_iinc (v := _ + 1) dX6_quietIn_26 rfl rfl rfl rfl ?_
      refine J_goto (tgt := 6) dX6_quietIn_29 (by decide) ?_
      rw [show nI i + 1 = nI (i + 1) from (nI_succ i).symm]
      rw [if_neg h19, if_pos rfl] at hR2
      exact ih (i + 1) (by omega) hR2

set_option maxRecDepth 100000 in
set_option maxHeartbeats 4000000 in
theorem c_X6_quietIn {X : jX} {ad : Nat → Nat} {m : Mem} {s : Rw} {n w : Nat} (hn : s 5 = nI n) (hn8 : n ≤ 8) (hS : OkS s w) : Cm X yX6_quietIn cX6_quietIn 2 (some .int) 6 ad [.ref 195] (SM m s) (fun v m9 => v = some (.int (quA s n w)) ∧ m9 = SM (asd m s) s) := by
  refine Cm.of (own := RX6) (nm := "quietIn") (by decide +kernel) rfl rfl rfl rfl ?_
  refine J_aload_n dX6_quietIn_0 rfl rfl ?_
  refine cVv wv_X6_102 c_X6_putAside dX6_quietIn_1 ob6 rfl rfl (kk := ?_)
  refine J_iconst (v := 0) dX6_quietIn_4 (by decide) ?_
  refine J_istore_n dX6_quietIn_5 rfl rfl rfl ?_
  exact quietLoop hn hn8 hS (lk1_le 201 0).2 201 0 rfl rfl

set_option maxRecDepth 100000 in
set_option maxHeartbeats 4000000 in
theorem hurtsLoop {X : jX} {ad : Nat → Nat} {m : Mem} {s t : Rw} {n w q r d0 k v : Nat} {x y D : Int32} (hn : t 5 = nI n) (hn8 : n ≤ 8) (hS : OkS t w) (hM : OkM t n) (hT : ∀ x, 302 ≤ x → t x = s x) (hq : q < n) (hd0 : d0 ≤ 24) (hk : k < 5) (hv : v ≤ 24) (hv0 : 0 < v) : ∀ (j i : Nat), (tks t n w i (fb q 4) = 0 ∨ ∃ d, d < 24 ∧ 24 ≤ d + j ∧ tks t n w i (fb q 2) = nI k ∧ tks t n w i (fb q 3) = nI d ∧ tks t n w i (fb q 4) = nI v) → r = lk1 (fun i => if tks t n w i (fb q 4) = 0 then 1 else 0) j i → Jg X RX6 cX6_hurtsBy 7 (some .int) "hurtsBy" 6 0 0 (QF X ad (fun v m9 => v = some (.int (tks t n w r 299 - D)) ∧ m9 = SM (asd m s) s)) ad 0 0 23 [(0, .ref 195), (1, .int (nI q)), (2, .int x), (3, .int y), (4, .int (nI d0)), (5, .int D)] [] (WS X ad (SM (asd m s) (tks t n w i))) := by
  intro j
  induction j with
  | zero =>
    intro i hi hR
    have h4 : tks t n w i (fb q 4) = 0 := by
      rcases hi with hi | ⟨d, h1, h2, -⟩
      · exact hi
      · omega
    have hR : r = i := hR
    subst hR
    refine J_iload dX6_hurtsBy_23 rfl ?_
    refine J_if_lt (tgt := 48) dX6_hurtsBy_25 (by decide) (fun h25 => absurd h25 (nI_lt0 (by omega))) (fun h25 => ?_)
    refine J_aload_n dX6_hurtsBy_28 rfl rfl ?_
    refine gX6_s wf_X6_7 dX6_hurtsBy_29 ?_
    refine J_iload_n dX6_hurtsBy_32 rfl rfl ?_
    refine J_iconst (v := 4) dX6_hurtsBy_33 (by decide) ?_
    refine cSi ws_X6_58 (c_X6_ofBoard (i := q) (c := 4) 4 (by decide)) dX6_hurtsBy_34 (kk := ?_)
    refine rd_s (fb q 4) (fb_302 (by omega) (by decide)) rfl dX6_hurtsBy_37 ?_
    refine J_topi (fun z9 hz9 => ?_)
    obtain rfl : z9 = 0 := hz9.trans (by exact h4)
    clear hz9
    refine J_if_eq (tgt := 48) dX6_hurtsBy_38 (by decide) (fun h38 => ?_) (fun h38 => absurd (by decide) h38)
    refine J_aload_n dX6_hurtsBy_48 rfl rfl ?_
    refine gX6_s wf_X6_7 dX6_hurtsBy_49 ?_
    refine J_sipush (v := 299) dX6_hurtsBy_52 (by decide) ?_
    refine rd_s 299 (by decide) (by decide) dX6_hurtsBy_55 ?_
    refine J_iload dX6_hurtsBy_56 rfl ?_
    refine J_isub dX6_hurtsBy_58 ?_
    refine J_istore dX6_hurtsBy_59 rfl rfl ?_
    refine J_aload_n dX6_hurtsBy_61 rfl rfl ?_
    refine cVv wv_X6_155 (c_X6_putBack) dX6_hurtsBy_62 ob6 rfl rfl (kk := ?_)
    refine J_ws (ws' := WS X ad (SM (asd m s) s)) (by rw [back_eq (fun x hx => (tks_hi hS hn8 hx _).trans (hT x hx))]) ?_
    refine J_iload dX6_hurtsBy_65 rfl ?_
    refine J_if_ge (tgt := 75) dX6_hurtsBy_67 (by decide) (fun h67 => ?_) (fun h67 => absurd (Int32.not_lt.mp (nI_lt0 (by omega))) h67)
    refine J_iload dX6_hurtsBy_75 rfl ?_
    refine r_int dX6_hurtsBy_77 ?_
    exact ⟨rfl, rfl⟩
  | succ j ih =>
    intro i hi hR
    have hk9 := tks_ok (n := n) hS hn8 i
    have hR2 : r = if (if tks t n w i (fb q 4) = 0 then (1 : Int32) else 0) = 0 then lk1 (fun i => if tks t n w i (fb q 4) = 0 then 1 else 0) j (i + 1) else i := hR
    refine J_iload dX6_hurtsBy_23 rfl ?_
    refine J_if_lt (tgt := 48) dX6_hurtsBy_25 (by decide) (fun h25 => absurd h25 (nI_lt0 (by omega))) (fun h25 => ?_)
    refine J_aload_n dX6_hurtsBy_28 rfl rfl ?_
    refine gX6_s wf_X6_7 dX6_hurtsBy_29 ?_
    refine J_iload_n dX6_hurtsBy_32 rfl rfl ?_
    refine J_iconst (v := 4) dX6_hurtsBy_33 (by decide) ?_
    refine cSi ws_X6_58 (c_X6_ofBoard (i := q) (c := 4) 4 (by decide)) dX6_hurtsBy_34 (kk := ?_)
    refine rd_s (fb q 4) (fb_302 (by omega) (by decide)) rfl dX6_hurtsBy_37 ?_
    refine J_if_eq (tgt := 48) dX6_hurtsBy_38 (by decide) (fun h38 => ?_) (fun h38 => ?_)
    · rw [if_pos h38, if_neg n10] at hR2
      subst hR2
      refine J_aload_n dX6_hurtsBy_48 rfl rfl ?_
      refine gX6_s wf_X6_7 dX6_hurtsBy_49 ?_
      refine J_sipush (v := 299) dX6_hurtsBy_52 (by decide) ?_
      refine rd_s 299 (by decide) (by decide) dX6_hurtsBy_55 ?_
      refine J_iload dX6_hurtsBy_56 rfl ?_
      refine J_isub dX6_hurtsBy_58 ?_
      refine J_istore dX6_hurtsBy_59 rfl rfl ?_
      refine J_aload_n dX6_hurtsBy_61 rfl rfl ?_
      refine cVv wv_X6_155 (c_X6_putBack) dX6_hurtsBy_62 ob6 rfl rfl (kk := ?_)
      refine J_ws (ws' := WS X ad (SM (asd m s) s)) (by rw [back_eq (fun x hx => (tks_hi hS hn8 hx _).trans (hT x hx))]) ?_
      refine J_iload dX6_hurtsBy_65 rfl ?_
      refine J_if_ge (tgt := 75) dX6_hurtsBy_67 (by decide) (fun h67 => ?_) (fun h67 => absurd (Int32.not_lt.mp (nI_lt0 (by omega))) h67)
      refine J_iload dX6_hurtsBy_75 rfl ?_
      refine r_int dX6_hurtsBy_77 ?_
      exact ⟨rfl, rfl⟩
    · refine J_aload_n dX6_hurtsBy_41 rfl rfl ?_
      refine cVv wv_X6_99 (c_X6_tick (n := n) (w := w) ((hk9.2 5 (by decide)).trans hn) hn8 hk9.1) dX6_hurtsBy_42 ob6 rfl rfl (kk := ?_)
      refine J_goto (tgt := 23) dX6_hurtsBy_45 (by decide) ?_
      rw [if_neg h38, if_pos rfl] at hR2
      refine ih (i + 1) ?_ hR2
      rcases hi with hi | ⟨d, h1, h2, h3, h4, h5⟩
      · exact absurd hi h38
      · obtain ⟨k1, k2, k3⟩ := tk_in (w := w) (OkM_tks hM hn8 i) hn8 hq hk (by omega) hv hv0 h3 h4 h5
        by_cases hl : d + v < 24
        · exact Or.inr ⟨d + v, hl, by omega, k1, k2.trans (by rw [if_pos (by omega)]), k3.trans (by rw [if_pos hl])⟩
        · exact Or.inl (k3.trans (by rw [if_neg hl]))

set_option maxRecDepth 100000 in
set_option maxHeartbeats 4000000 in
theorem hurtsErr {X : jX} {ad : Nat → Nat} {m : Mem} {s : Rw} {a x z y D : Int32} (ha : a < 0) : Jg X RX6 cX6_hurtsBy 7 (some .int) "hurtsBy" 6 0 0 (QF X ad (fun v m9 => v = some (.int (a)) ∧ m9 = SM (asd m s) s)) ad 0 0 23 [(0, .ref 195), (1, .int x), (2, .int z), (3, .int y), (4, .int a), (5, .int D)] [] (WS X ad (SM (asd m s) s)) := by
  refine J_iload dX6_hurtsBy_23 rfl ?_
  refine J_if_lt (tgt := 48) dX6_hurtsBy_25 (by decide) (fun h25 => ?_) (fun h25 => absurd ha h25)
  refine J_aload_n dX6_hurtsBy_48 rfl rfl ?_
  refine gX6_s wf_X6_7 dX6_hurtsBy_49 ?_
  refine J_sipush (v := 299) dX6_hurtsBy_52 (by decide) ?_
  refine rd_s 299 (by decide) (by decide) dX6_hurtsBy_55 ?_
  refine J_iload dX6_hurtsBy_56 rfl ?_
  refine J_isub dX6_hurtsBy_58 ?_
  refine J_istore dX6_hurtsBy_59 rfl rfl ?_
  refine J_aload_n dX6_hurtsBy_61 rfl rfl ?_
  refine cVv wv_X6_155 (c_X6_putBack) dX6_hurtsBy_62 ob6 rfl rfl (kk := ?_)
  refine J_ws (ws' := WS X ad (SM (asd m s) s)) (by rw [back_eq (fun x hx => rfl)]) ?_
  refine J_iload dX6_hurtsBy_65 rfl ?_
  refine J_if_ge (tgt := 75) dX6_hurtsBy_67 (by decide) (fun h67 => absurd ha (Int32.not_lt.mpr h67)) (fun h67 => ?_)
  refine J_iload dX6_hurtsBy_70 rfl ?_
  refine J_goto (tgt := 77) dX6_hurtsBy_72 (by decide) ?_
  refine r_int dX6_hurtsBy_77 ?_
  exact ⟨rfl, rfl⟩

set_option maxRecDepth 100000 in
set_option maxHeartbeats 4000000 in
theorem c_X6_hurtsBy {X : jX} {ad : Nat → Nat} {m : Mem} {s : Rw} {n w : Nat} {x z y : Int32} (hn : s 5 = nI n) (hn8 : n ≤ 8) (hS : OkS s w) (hM : OkM s n) : Cm X yX6_hurtsBy cX6_hurtsBy 7 (some .int) 6 ad [.ref 195, .int x, .int z, .int y] (SM m s) (fun v m9 => v = some (.int (hbA s n w x z y)) ∧ m9 = SM (asd m s) s) := by
  refine Cm.of (own := RX6) (nm := "hurtsBy") (by decide +kernel) rfl rfl rfl rfl ?_
  refine J_aload_n dX6_hurtsBy_0 rfl rfl ?_
  refine cVv wv_X6_102 c_X6_putAside dX6_hurtsBy_1 ob6 rfl rfl (kk := ?_)
  refine J_aload_n dX6_hurtsBy_4 rfl rfl ?_
  refine J_iload_n dX6_hurtsBy_5 rfl rfl ?_
  refine J_iload_n dX6_hurtsBy_6 rfl rfl ?_
  refine J_iload_n dX6_hurtsBy_7 rfl rfl ?_
  refine cVg wv_X6_123 (c_X6_plugs (n := n) hn hn8) dX6_hurtsBy_8 ob6 rfl rfl (kk := (fun v m1 hf => ?_))
  obtain ⟨rfl, rfl⟩ := hf
  refine J_istore dX6_hurtsBy_11 rfl rfl ?_
  refine J_aload_n dX6_hurtsBy_13 rfl rfl ?_
  refine gX6_s wf_X6_7 dX6_hurtsBy_14 ?_
  refine J_sipush (v := 299) dX6_hurtsBy_17 (by decide) ?_
  refine rd_s 299 (by decide) (by decide) dX6_hurtsBy_20 ?_
  refine J_istore dX6_hurtsBy_21 rfl rfl ?_
  rcases plF_cases (x := x) (z := z) (y := y) hn8 hM with ⟨h1, h2⟩ | ⟨q, k, v, d, hq, hk, hv0, hv, hd, rfl, rfl, rfl, h2, h3, ho⟩
  · rw [show hbA s n w x z y = (plF s n x z y).1 by unfold hbA; rw [if_pos h1]]
    rw [h2]
    exact hurtsErr h1
  · have e9 := cl8 hq hn8
    have hd0 : ¬ nI d < 0 := nI_lt0 (by omega)
    have e8 : hbA s n w (nI q) (nI k) (nI v) = tks (plF s n (nI q) (nI k) (nI v)).2 n w (hbR (plF s n (nI q) (nI k) (nI v)).2 n w q) 299 - (plF s n (nI q) (nI k) (nI v)).2 299 := by unfold hbA; rw [if_neg (by rw [h2]; exact hd0), e9]
    rw [e8, h2]
    obtain ⟨g1, g2, g3, g4⟩ := OkM_pl (s := s) hM hv hd hk h3 ho
    refine hurtsLoop (t := upd (upd (upd s (fb q 2) (nI k)) (fb q 4) (nI v)) (fb q 7) 0) (k := k) (v := v) ?_ hn8 (OkS_fb (OkS_fb (OkS_fb hS (by omega) (by decide)) (by omega) (by decide)) (by omega) (by decide)) g1 ?_ hq (by omega) hk hv (by omega) 24 0 (Or.inr ⟨d, hd, by omega, g2, g3, g4⟩) rfl
    · rw [upd_fbx (by omega) (by decide) (by omega), upd_fbx (by omega) (by decide) (by omega), upd_fbx (by omega) (by decide) (by omega)]; exact hn
    · intro x hx; rw [upd_fbx (by omega) (by decide) (by omega), upd_fbx (by omega) (by decide) (by omega), upd_fbx (by omega) (by decide) (by omega)]

set_option maxRecDepth 100000 in
set_option maxHeartbeats 4000000 in
theorem c_X6_wouldHurt {X : jX} {ad : Nat → Nat} {m : Mem} {s : Rw} {n w : Nat} {x z y : Int32} (hn : s 5 = nI n) (hn8 : n ≤ 8) (hS : OkS s w) (hM : OkM s n) : Cd X yX6_wouldHurt cX6_wouldHurt 4 (some .int) 7 ad [.ref 195, .int x, .int z, .int y] (SM m s) (some (.int (hbA s n w x z y))) (SM (asd m s) s) := by
  refine Cm.of (own := RX6) (nm := "wouldHurt") (by decide +kernel) rfl rfl rfl rfl ?_
  refine J_aload_n dX6_wouldHurt_0 rfl rfl ?_
  refine J_iload_n dX6_wouldHurt_1 rfl rfl ?_
  refine J_iload_n dX6_wouldHurt_2 rfl rfl ?_
  refine J_iload_n dX6_wouldHurt_3 rfl rfl ?_
  refine cVi wv_X6_158 (c_X6_hurtsBy (n := n) (w := w) hn hn8 hS hM) dX6_wouldHurt_4 ob6 rfl rfl (kk := ?_)
  refine r_int dX6_wouldHurt_7 ?_
  exact ⟨rfl, rfl⟩

theorem gt24 : ∀ r, r < 26 → (24 < nI r ↔ 24 < r) := by decide +kernel
theorem le24 : ∀ r, r < 26 → (nI r ≤ 24 ↔ r ≤ 24) := by decide +kernel
set_option maxRecDepth 100000 in
set_option maxHeartbeats 4000000 in
theorem safeLoop {X : jX} {ad : Nat → Nat} {m : Mem} {s : Rw} {n w : Nat} {x z : Int32} (hn : s 5 = nI n) (hn8 : n ≤ 8) (hS : OkS s w) (hM : OkM s n) (he : ¬ hbA s n w x z 1 < 0) : ∀ (j i : Nat) (a : Int32), i + j = 24 → a = ssF s n w x z i → Jg X RX6 cX6_safeSpeed 6 (some .int) "safeSpeed" 7 0 0 (QF X ad (fun v m9 => v = some (.int (ssA s n w x z)) ∧ m9 = SM (asd m s) s)) ad 0 0 15 [(0, .ref 195), (1, .int x), (2, .int z), (3, .int a), (4, .int (hbA s n w x z 1)), (5, .int (nI (i + 1)))] [] (WS X ad (SM (asd m s) s)) := by
  intro j
  induction j with
  | zero =>
    intro i a hi ha
    obtain rfl : i = 24 := by omega
    refine J_iload dX6_safeSpeed_15 rfl ?_
    refine J_bipush (v := 24) dX6_safeSpeed_17 (by decide) ?_
    refine J_icmp_gt (tgt := 51) dX6_safeSpeed_19 (by decide) (fun h19 => ?_) (fun h19 => absurd ((gt24 25 (by decide)).2 (by decide)) h19)
    refine J_iload dX6_safeSpeed_51 rfl ?_
    refine J_if_ge (tgt := 61) dX6_safeSpeed_53 (by decide) (fun h53 => ?_) (fun h53 => absurd (Int32.not_lt.mp he) h53)
    refine J_iload_n dX6_safeSpeed_61 rfl rfl ?_
    refine r_int dX6_safeSpeed_62 ?_
    exact ⟨by rw [ssA, if_neg he, ha], rfl⟩
  | succ j ih =>
    intro i a hi ha
    refine J_iload dX6_safeSpeed_15 rfl ?_
    refine J_bipush (v := 24) dX6_safeSpeed_17 (by decide) ?_
    refine J_icmp_gt (tgt := 51) dX6_safeSpeed_19 (by decide) (fun h19 => absurd ((gt24 (i + 1) (by omega)).1 h19) (by omega)) (fun h19 => ?_)
    refine J_iload dX6_safeSpeed_22 rfl ?_
    refine J_if_lt (tgt := 51) dX6_safeSpeed_24 (by decide) (fun h24 => absurd h24 he) (fun h24 => ?_)
    refine J_aload_n dX6_safeSpeed_27 rfl rfl ?_
    refine J_iload_n dX6_safeSpeed_28 rfl rfl ?_
    refine J_iload_n dX6_safeSpeed_29 rfl rfl ?_
    refine J_iload dX6_safeSpeed_30 rfl ?_
    refine cVi wv_X6_158 (c_X6_hurtsBy (n := n) (w := w) (y := nI (i + 1)) hn hn8 hS hM) dX6_safeSpeed_32 ob6 rfl rfl (kk := ?_)
    refine J_ws (ws' := WS X ad (SM (asd m s) s)) (by rw [asd_asd]) ?_
    refine J_if_ne (tgt := 43) dX6_safeSpeed_35 (by decide) (fun h35 => ?_) (fun h35 => ?_)
    · refine J_iload_n dX6_safeSpeed_43 rfl rfl ?_
      refine J_istore_n dX6_safeSpeed_44 rfl rfl rfl ?_
      refine J_iinc (v := _ + 1) dX6_safeSpeed_45 rfl rfl rfl rfl ?_
      refine J_goto (tgt := 15) dX6_safeSpeed_48 (by decide) ?_
      rw [show nI (i + 1) + 1 = nI (i + 1 + 1) from (nI_succ (i + 1)).symm]
      exact ih (i + 1) _ (by omega) (by first | (simp only [ssF, h35, reduceIte]; done) | (simp only [ssF, h35, reduceIte]; exact ha))
    · refine J_iload dX6_safeSpeed_38 rfl ?_
      refine J_goto (tgt := 44) dX6_safeSpeed_40 (by decide) ?_
      refine J_istore_n dX6_safeSpeed_44 rfl rfl rfl ?_
      refine J_iinc (v := _ + 1) dX6_safeSpeed_45 rfl rfl rfl rfl ?_
      refine J_goto (tgt := 15) dX6_safeSpeed_48 (by decide) ?_
      rw [show nI (i + 1) + 1 = nI (i + 1 + 1) from (nI_succ (i + 1)).symm]
      exact ih (i + 1) _ (by omega) (by first | (simp only [ssF, h35, reduceIte]; done) | (simp only [ssF, h35, reduceIte]; exact ha))

set_option maxRecDepth 100000 in
set_option maxHeartbeats 4000000 in
theorem safeErr {X : jX} {ad : Nat → Nat} {m : Mem} {s : Rw} {n w : Nat} {x z : Int32} (he : hbA s n w x z 1 < 0) : Jg X RX6 cX6_safeSpeed 6 (some .int) "safeSpeed" 7 0 0 (QF X ad (fun v m9 => v = some (.int (ssA s n w x z)) ∧ m9 = SM (asd m s) s)) ad 0 0 15 [(0, .ref 195), (1, .int x), (2, .int z), (3, .int (-6)), (4, .int (hbA s n w x z 1)), (5, .int (nI (0 + 1)))] [] (WS X ad (SM (asd m s) s)) := by
  refine J_iload dX6_safeSpeed_15 rfl ?_
  refine J_bipush (v := 24) dX6_safeSpeed_17 (by decide) ?_
  refine J_icmp_gt (tgt := 51) dX6_safeSpeed_19 (by decide) (fun h19 => absurd h19 (by decide)) (fun h19 => ?_)
  refine J_iload dX6_safeSpeed_22 rfl ?_
  refine J_if_lt (tgt := 51) dX6_safeSpeed_24 (by decide) (fun h24 => ?_) (fun h24 => absurd he h24)
  refine J_iload dX6_safeSpeed_51 rfl ?_
  refine J_if_ge (tgt := 61) dX6_safeSpeed_53 (by decide) (fun h53 => absurd he (Int32.not_lt.mpr h53)) (fun h53 => ?_)
  refine J_iload dX6_safeSpeed_56 rfl ?_
  refine J_goto (tgt := 62) dX6_safeSpeed_58 (by decide) ?_
  refine r_int dX6_safeSpeed_62 ?_
  exact ⟨by rw [ssA, if_pos he], rfl⟩

set_option maxRecDepth 100000 in
set_option maxHeartbeats 4000000 in
theorem c_X6_safeSpeed {X : jX} {ad : Nat → Nat} {m : Mem} {s : Rw} {n w : Nat} {x z : Int32} (hn : s 5 = nI n) (hn8 : n ≤ 8) (hS : OkS s w) (hM : OkM s n) : Cm X yX6_safeSpeed cX6_safeSpeed 6 (some .int) 7 ad [.ref 195, .int x, .int z] (SM m s) (fun v m9 => v = some (.int (ssA s n w x z)) ∧ m9 = SM (asd m s) s) := by
  refine Cm.of (own := RX6) (nm := "safeSpeed") (by decide +kernel) rfl rfl rfl rfl ?_
  refine J_bipush (v := -6) dX6_safeSpeed_0 (by decide) ?_
  refine J_istore_n dX6_safeSpeed_2 rfl rfl rfl ?_
  refine J_aload_n dX6_safeSpeed_3 rfl rfl ?_
  refine J_iload_n dX6_safeSpeed_4 rfl rfl ?_
  refine J_iload_n dX6_safeSpeed_5 rfl rfl ?_
  refine J_iconst (v := 1) dX6_safeSpeed_6 (by decide) ?_
  refine cVi wv_X6_158 (c_X6_hurtsBy (n := n) (w := w) hn hn8 hS hM) dX6_safeSpeed_7 ob6 rfl rfl (kk := ?_)
  refine J_istore dX6_safeSpeed_10 rfl rfl ?_
  refine J_iconst (v := 1) dX6_safeSpeed_12 (by decide) ?_
  refine J_istore dX6_safeSpeed_13 rfl rfl ?_
  by_cases he : hbA s n w x z 1 < 0
  · exact safeErr he
  · exact safeLoop hn hn8 hS hM he 24 0 _ (by omega) rfl

