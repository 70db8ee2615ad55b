theorem upd_fbj {s : Rw} {i j k l : Nat} {v : Int32} (hk : k < 11) (hl : l < 11) (h : j ≠ i) : upd s (fb i k) v (fb j l) = s (fb j l) := by
  rw [upd_fb hk hl, if_neg (fun q => h q.1)]
theorem goB_j {s : Rw} {i j l : Nat} {c : Int32} (hl : l < 11) (h : j ≠ i) : goB s i c (fb j l) = s (fb j l) := by
  unfold goB
  rw [upd_fbj (by decide) hl h, upd_fbj (by decide) hl h]
theorem goF_j {s : Rw} {i j l : Nat} (hl : l < 11) (h : j ≠ i) : goF s i (fb j l) = s (fb j l) := by
  unfold goF goA
  split
  · exact goB_j hl h
  · split
    · rw [goB_j hl h, upd_fbj (by decide) hl h, upd_fbj (by decide) hl h]
    · exact goB_j hl h
theorem pwF_fld {s : Rw} {n i j l : Nat} (hl : l < 11) (h : l ≠ 5 ∨ j ≠ i) : pwF s n i (fb j l) = s (fb j l) := by
  have e (t : Rw) (v : Int32) : upd t (fb i 5) v (fb j l) = t (fb j l) := by rw [upd_fb (by decide) hl, if_neg (by omega)]
  unfold pwF
  split
  · split
    · rfl
    · rw [e, e]
  · rw [e]
theorem pwL_fld {s : Rw} {n j l : Nat} (hn : n ≤ 8) (hl : l < 11) (h : l ≠ 5) : ∀ k, pwL s n k (fb j l) = s (fb j l) := by
  intro k
  induction k with
  | zero => rfl
  | succ k ih =>
    rcases bI_or (s := pwL s n k) (x := nI k) n with hb | ⟨q, hq, hb⟩
    · rw [pwL_none hb]; exact ih
    · rw [pwL_some (by omega) hb, pwF_fld hl (Or.inl h)]; exact ih
theorem fgF_fld {s : Rw} {n i j l : Nat} (hj : j < 8) (hl : l < 11) (h : (l ≠ 6 ∧ l ≠ 7 ∧ l ≠ 10) ∨ j ≠ i) : fgF s n i (fb j l) = s (fb j l) := by
  have e (t : Rw) (k : Nat) (hk : k = 6 ∨ k = 7 ∨ k = 10) (v : Int32) : upd t (fb i k) v (fb j l) = t (fb j l) := by rw [upd_fb (by omega) hl, if_neg (by omega)]
  unfold fgF
  rw [e _ 6 (by decide), e _ 7 (by decide), e _ 10 (by decide), fgL_low (fb_lt hj hl)]
theorem grF_fld {s : Rw} {n i j l : Nat} (hj : j < 8) (hl : l < 11) (h : (l ≠ 6 ∧ l ≠ 7 ∧ l ≠ 8 ∧ l ≠ 10) ∨ j ≠ i) : grF s n i (fb j l) = s (fb j l) := by
  have e (t : Rw) (k : Nat) (hk : k = 6 ∨ k = 8) (v : Int32) : upd t (fb i k) v (fb j l) = t (fb j l) := by rw [upd_fb (by omega) hl, if_neg (by omega)]
  have f (t : Rw) : fgF t n i (fb j l) = t (fb j l) := fgF_fld hj hl (by omega)
  unfold grF
  (repeat' split) <;> first | rfl | (rw [f, e _ 8 (by decide)]) | (rw [e _ 8 (by decide), e _ 6 (by decide)]) | (rw [e _ 8 (by decide)])
theorem grL_fld {s : Rw} {w j l : Nat} (hj : j < 8) (hl : l < 11) (h : l ≠ 6 ∧ l ≠ 7 ∧ l ≠ 8 ∧ l ≠ 10) : ∀ k, grL s w k (fb j l) = s (fb j l) := by
  intro k
  induction k with
  | zero => rfl
  | succ k ih => exact (grF_fld hj hl (Or.inl h)).trans ih
theorem srF_fld {s : Rw} {p : Int32} {k j l : Nat} (hj : j < 8) (hl : l < 11) (h : l ≠ 9) : srF s p k (fb j l) = s (fb j l) := by
  have hb := fb_lt hj hl
  have c : ∀ t : Rw, ∀ v, upd t (fb (wv s k % 8) 9) v (fb j l) = t (fb j l) := fun t v => by rw [upd_fb (by decide) hl, if_neg (by omega)]
  unfold srF
  split
  · split
    · rw [upd_at, if_neg (by omega), c, upd_at, if_neg (by omega), upd_at, if_neg (by omega), upd_at, if_neg (by omega)]
    · rw [upd_at, if_neg (by omega)]
  · split
    · rw [lostF_low hb, upd_at, if_neg (by omega), upd_at, if_neg (by omega), upd_at, if_neg (by omega)]
    · rw [upd_at, if_neg (by omega), upd_at, if_neg (by omega), upd_at, if_neg (by omega)]
theorem tkE_fld {s : Rw} {p : Int32} {j l : Nat} (hj : j < 8) (hl : l < 11) (h : l ≠ 9) : tkE s p (fb j l) = s (fb j l) := by
  unfold tkE
  split
  · rfl
  · exact srF_fld hj hl h
theorem tkG_fld {s : Rw} {n w j l : Nat} (hj : j < 8) (hl : l < 11) : tkG s n w (fb j l) = s (fb j l) := by
  unfold tkG
  split
  · split
    · exact getF_low (fb_lt hj hl)
    · rfl
  · rfl
/-- a tick moves boards in its first part alone -/
theorem tkF_fld {s : Rw} {n w j l : Nat} (hn : n ≤ 8) (hj : j < 8) (h : l < 5) : tkF s n w (fb j l) = mvL s n 5 (fb j l) := by
  have hb := fb_lt hj (show l < 11 by omega)
  unfold tkF tkH
  rw [upd_at, if_neg (by omega), tkG_fld hj (by omega), tkE_fld hj (by omega) (by omega)]
  unfold tkD
  rw [grL_fld hj (by omega) (by omega), pwL_fld hn (by omega) (by omega), tkB_out (by omega)]
/-- how a board stands -/
def Bd (s : Rw) (i : Nat) : Prop := ∃ d v : Nat, d ≤ 24 ∧ v ≤ 24 ∧ s (fb i 3) = nI d ∧ ((s (fb i 2) = -6 ∧ d = 0 ∧ s (fb i 4) = 0) ∨ ∃ q, q < 5 ∧ s (fb i 2) = nI q ∧ (s (fb i 4) = nI v ∨ s (fb i 4) = -(nI v)))
/-- no two boards in one slot -/
def Ds (s : Rw) (n : Nat) : Prop := ∀ i j, i < n → j < n → i ≠ j → s (fb i 2) = s (fb j 2) → s (fb i 2) = -6
def OkM (s : Rw) (n : Nat) : Prop := (∀ i, i < n → Bd s i) ∧ Ds s n
theorem OkM_same {s t : Rw} {n : Nat} (h : OkM s n) (he : ∀ i l, i < n → l < 5 → t (fb i l) = s (fb i l)) : OkM t n := by
  obtain ⟨h1, h2⟩ := h
  refine ⟨fun i hi => ?_, fun i j hi hj hij => ?_⟩
  · unfold Bd
    rw [he i 3 hi (by decide), he i 2 hi (by decide), he i 4 hi (by decide)]
    exact h1 i hi
  · rw [he i 2 hi (by decide), he j 2 hj (by decide)]
    exact h2 i j hi hj hij
theorem bI_spec {s : Rw} {x : Int32} {j : Nat} (hj : j < 8) : ∀ n, n ≤ 8 → bI s x n = nI j → j < n ∧ s (fb j 2) = x := by
  intro n
  induction n with
  | zero => intro _ h; exact absurd h.symm (nI_n6 j hj)
  | succ k ih =>
    intro hk h
    unfold bI at h
    split at h
    · next h1 =>
      have e : k = j := nI_ij (by omega) (by omega) h
      subst e
      exact ⟨by omega, h1⟩
    · have := ih (by omega) h
      exact ⟨by omega, this.2⟩
theorem bI_no {s : Rw} {x : Int32} : ∀ n, n ≤ 8 → bI s x n = -6 → ∀ j, j < n → ¬ s (fb j 2) = x := by
  intro n
  induction n with
  | zero => intro _ _ j hj; exact absurd hj (by omega)
  | succ k ih =>
    intro hk h j hj
    unfold bI at h
    split at h
    · exact absurd h (nI_n6 k (by omega))
    · next h1 =>
      by_cases hjk : j = k
      · subst hjk; exact h1
      · exact ih (by omega) h j (by omega)
theorem bI_of {s : Rw} {n j q : Nat} (hn : n ≤ 8) (hd : Ds s n) (hj : j < n) (hq : q < 5) (h : s (fb j 2) = nI q) : bI s (nI q) n = nI j := by
  rcases bI_or (s := s) (x := nI q) n with hb | ⟨i, hi, hb⟩
  · exact absurd h (bI_no n hn hb j hj)
  · have := bI_spec (by omega) n hn hb
    by_cases hij : i = j
    · rw [hb, hij]
    · have := hd i j hi hj hij (this.2.trans h.symm)
      rw [(bI_spec (by omega) n hn hb).2] at this
      exact absurd this (nI_n6 q (by omega))
theorem cl_up : ∀ d, d < 25 → ∀ v, v < 25 → cl24 (nI d + nI v) = nI (if d + v ≤ 24 then d + v else 24) := by decide +kernel
theorem cl_dn : ∀ d, d < 25 → ∀ v, v < 25 → cl24 (nI d + -(nI v)) = nI (d - v) := by decide +kernel
theorem neg_v : ∀ v, v < 25 → (0 ≤ nI v) ∧ (0 ≤ -(nI v) → v = 0) := by decide +kernel
theorem nI24 : ∀ d, d < 25 → (nI d = 24 ↔ d = 24) := by decide +kernel
theorem nI00 : ∀ d, d < 25 → (nI d = 0 ↔ d = 0) := by decide +kernel
theorem nIn0 : ∀ d, d < 25 → (-(nI d) = 0 ↔ d = 0) := by decide +kernel
theorem goB_2 {s : Rw} {i : Nat} {c : Int32} : goB s i c (fb i 2) = s (fb i 2) := by unfold goB; rw [upd_fbn (by decide), upd_fbn (by decide)]
theorem goB_3 {s : Rw} {i : Nat} {c : Int32} : goB s i c (fb i 3) = c := by unfold goB; rw [upd_fbn (by decide), upd_same]
theorem goB_4 {s : Rw} {i : Nat} {c : Int32} : goB s i c (fb i 4) = if c = 24 then 0 else if s (fb i 2) = -6 then 0 else s (fb i 4) := by unfold goB; rw [upd_same]
/-- a move inward -/
theorem goF_in {s : Rw} {i d v q : Nat} (hd : d ≤ 24) (hv : v ≤ 24) (hq : q < 5) (h2 : s (fb i 2) = nI q) (h3 : s (fb i 3) = nI d) (h4 : s (fb i 4) = nI v) : goF s i (fb i 2) = nI q ∧ goF s i (fb i 3) = nI (if d + v ≤ 24 then d + v else 24) ∧ goF s i (fb i 4) = if d + v < 24 then nI v else 0 := by
  have e : goF s i = goB s i (nI (if d + v ≤ 24 then d + v else 24)) := by
    unfold goF goA
    rw [h3, h4, if_pos (neg_v v (by omega)).1, cl_up d (by omega) v (by omega)]
  rw [e, goB_2, goB_3, goB_4, h2, h4, if_neg (nI_n6 q (by omega))]
  refine ⟨rfl, rfl, ?_⟩
  by_cases hl : d + v < 24
  · rw [if_pos hl, if_pos (show d + v ≤ 24 by omega), if_neg (fun h => by have := (nI24 _ (by omega)).1 h; omega)]
  · rw [if_neg hl, if_pos]
    split
    · exact (nI24 _ (by omega)).2 (by omega)
    · rfl
/-- a move outward -/
theorem goF_ex {s : Rw} {i d v q : Nat} (hd : d ≤ 24) (hv : v ≤ 24) (hv0 : 0 < v) (hq : q < 5) (h2 : s (fb i 2) = nI q) (h3 : s (fb i 3) = nI d) (h4 : s (fb i 4) = -(nI v)) : goF s i (fb i 3) = nI (d - v) ∧ (if d ≤ v then goF s i (fb i 2) = -6 ∧ goF s i (fb i 4) = 0 else goF s i (fb i 2) = nI q ∧ goF s i (fb i 4) = -(nI v)) := by
  have hc := cl_dn d (by omega) v (by omega)
  have hn : ¬ 0 ≤ -(nI v) := fun h => by have := (neg_v v (by omega)).2 h; omega
  by_cases hl : d ≤ v
  · have e : goF s i = goB (upd (upd s (fb i 2) (-6)) (fb i 5) 0) i (nI (d - v)) := by
      unfold goF goA
      rw [h3, h4, hc, if_neg hn, if_pos ((nI00 _ (by omega)).2 (by omega))]
    rw [if_pos hl, e, goB_3, goB_2, goB_4, upd_fbn (by decide), upd_same, if_pos rfl]
    refine ⟨rfl, rfl, ?_⟩
    split <;> rfl
  · have e : goF s i = goB s i (nI (d - v)) := by
      unfold goF goA
      rw [h3, h4, hc, if_neg hn, if_neg (fun h => by have := (nI00 _ (by omega)).1 h; omega)]
    rw [if_neg hl, e, goB_3, goB_2, goB_4, h2, h4, if_neg (fun h => by have := (nI24 _ (by omega)).1 h; omega), if_neg (nI_n6 q (by omega))]
    exact ⟨rfl, rfl, rfl⟩
theorem goF_bd {s : Rw} {i q : Nat} (h : Bd s i) (hq : q < 5) (h2 : s (fb i 2) = nI q) (h4 : ¬ s (fb i 4) = 0) : Bd (goF s i) i ∧ (goF s i (fb i 2) = nI q ∨ goF s i (fb i 2) = -6) := by
  obtain ⟨d, v, hd, hv, h3, ⟨h5, -, -⟩ | ⟨q', hq', h5, h6 | h6⟩⟩ := h
  · exact absurd (h2.symm.trans h5) (nI_n6 q (by omega))
  · obtain ⟨k1, k2, k3⟩ := goF_in hd hv hq h2 h3 h6
    refine ⟨⟨_, if d + v < 24 then v else 0, ?_, ?_, k2, Or.inr ⟨q, hq, k1, Or.inl ?_⟩⟩, Or.inl k1⟩
    · split <;> omega
    · split <;> omega
    · rw [k3]; split <;> rfl
  · have hv0 : 0 < v := by
      rcases Nat.eq_zero_or_pos v with q9 | q9
      · exact absurd (h6.trans ((nIn0 v (by omega)).2 q9)) h4
      · exact q9
    obtain ⟨k1, k2⟩ := goF_ex hd hv hv0 hq h2 h3 h6
    by_cases hl : d ≤ v
    · rw [if_pos hl] at k2
      exact ⟨⟨d - v, 0, by omega, by omega, k1, Or.inl ⟨k2.1, by omega, k2.2⟩⟩, Or.inr k2.1⟩
    · rw [if_neg hl] at k2
      exact ⟨⟨d - v, v, by omega, hv, k1, Or.inr ⟨q, hq, k2.1, Or.inr k2.2⟩⟩, Or.inl k2.1⟩
theorem OkM_go {s : Rw} {n i q : Nat} (h : OkM s n) (hi : i < n) (hn : n ≤ 8) (hq : q < 5) (h2 : s (fb i 2) = nI q) (h4 : ¬ s (fb i 4) = 0) : OkM (goF s i) n := by
  obtain ⟨h1, hD⟩ := h
  obtain ⟨k1, k2⟩ := goF_bd (h1 i hi) hq h2 h4
  have e : ∀ j l, l < 11 → j ≠ i → goF s i (fb j l) = s (fb j l) := fun j l hl hj => goF_j hl hj
  refine ⟨fun j hj => ?_, fun a b ha hb hab heq => ?_⟩
  · by_cases hji : j = i
    · subst hji; exact k1
    · unfold Bd
      rw [e j 3 (by decide) hji, e j 2 (by decide) hji, e j 4 (by decide) hji]
      exact h1 j hj
  · by_cases hai : a = i
    · subst hai
      rcases k2 with k2 | k2
      · rw [e b 2 (by decide) (fun q => hab q.symm)] at heq
        rw [k2] at heq ⊢
        have := hD a b ha hb hab (h2.trans heq)
        rw [h2] at this
        exact this
      · exact k2
    · rw [e a 2 (by decide) hai] at heq ⊢
      by_cases hbi : b = i
      · subst hbi
        rcases k2 with k2 | k2
        · rw [k2] at heq
          exact hD a b ha hb hab (heq.trans h2.symm)
        · exact heq.trans k2
      · rw [e b 2 (by decide) hbi] at heq
        exact hD a b ha hb hab heq
theorem mvL_step {s : Rw} {n k q : Nat} (hn : n ≤ 8) (hq : q < 8) (hb : bI (mvL s n k) (nI k) n = nI q) : q < n ∧ mvL s n k (fb q 2) = nI k := bI_spec hq n hn hb
theorem OkM_mv {s : Rw} {n : Nat} (h : OkM s n) (hn : n ≤ 8) : ∀ k, k ≤ 5 → OkM (mvL s n k) n := by
  intro k
  induction k with
  | zero => intro _; exact h
  | succ k ih =>
    intro hk
    have h1 := ih (by omega)
    rcases bI_or (s := mvL s n k) (x := nI k) n with hb | ⟨q, hq, hb⟩
    · rw [(mvL_none hb).1]; exact h1
    · rw [(mvL_some (by omega) hb).1]
      split
      · exact h1
      · next h4 => exact OkM_go h1 hq hn (by omega) (mvL_step hn (by omega) hb).2 h4
theorem OkM_tk {s : Rw} {n w : Nat} (h : OkM s n) (hn : n ≤ 8) : OkM (tkF s n w) n := OkM_same (OkM_mv h hn 5 (Nat.le_refl _)) (fun i l hi hl => tkF_fld hn (by omega) hl)
/-- ahead of its slot's turn a board stands as before -/
theorem mvL_pre {s : Rw} {n i q : Nat} (hn : n ≤ 8) (h2 : s (fb i 2) = nI q) (hq : q < 5) : ∀ k, k ≤ q → ∀ l, l < 11 → mvL s n k (fb i l) = s (fb i l) := by
  intro k
  induction k with
  | zero => intro _ l _; rfl
  | succ k ih =>
    intro hk l hl
    have h1 := ih (by omega)
    rcases bI_or (s := mvL s n k) (x := nI k) n with hb | ⟨j, hj, hb⟩
    · rw [(mvL_none hb).1]; exact h1 l hl
    · rw [(mvL_some (by omega) hb).1]
      have hji : i ≠ j := by
        intro e
        subst e
        have := (mvL_step hn (by omega) hb).2
        rw [h1 2 (by decide), h2] at this
        have := nI_ij (by omega) (by omega) this
        omega
      split
      · exact h1 l hl
      · rw [goF_j hl hji]; exact h1 l hl
/-- behind its slot's turn too -/
theorem mvL_post {s : Rw} {n i q : Nat} (hn : n ≤ 8) (hq : q < 5) (h2 : mvL s n (q + 1) (fb i 2) = nI q ∨ mvL s n (q + 1) (fb i 2) = -6) : ∀ k, q + 1 + k ≤ 5 → ∀ l, l < 11 → mvL s n (q + 1 + k) (fb i l) = mvL s n (q + 1) (fb i l) := by
  intro k
  induction k with
  | zero => intro _ l _; rfl
  | succ k ih =>
    intro hk l hl
    have h1 := ih (by omega)
    rw [show q + 1 + (k + 1) = (q + 1 + k) + 1 by omega]
    rcases bI_or (s := mvL s n (q + 1 + k)) (x := nI (q + 1 + k)) n with hb | ⟨j, hj, hb⟩
    · rw [(mvL_none hb).1]; exact h1 l hl
    · rw [(mvL_some (by omega) hb).1]
      have hji : i ≠ j := by
        intro e
        subst e
        have := (mvL_step hn (by omega) hb).2
        rw [h1 2 (by decide)] at this
        rcases h2 with h2 | h2
        · rw [h2] at this
          have := nI_ij (by omega) (by omega) this
          omega
        · rw [h2] at this
          exact nI_n6 _ (by omega) this.symm
      split
      · exact h1 l hl
      · rw [goF_j hl hji]; exact h1 l hl
/-- a board that moves inward: it stands behind a tick, or is deeper -/
theorem tk_in {s : Rw} {n w i q d v : Nat} (h : OkM s n) (hn : n ≤ 8) (hi : i < n) (hq : q < 5) (hd : d ≤ 24) (hv : v ≤ 24) (hv0 : 0 < v) (h2 : s (fb i 2) = nI q) (h3 : s (fb i 3) = nI d) (h4 : s (fb i 4) = nI v) : tkF s n w (fb i 2) = nI q ∧ tkF s n w (fb i 3) = nI (if d + v ≤ 24 then d + v else 24) ∧ tkF s n w (fb i 4) = if d + v < 24 then nI v else 0 := by
  have e := mvL_pre (i := i) hn h2 hq q (Nat.le_refl _)
  have hb : bI (mvL s n q) (nI q) n = nI i := bI_of hn (OkM_mv h hn q (by omega)).2 hi hq ((e 2 (by decide)).trans h2)
  have h5 : mvL s n (q + 1) = goF (mvL s n q) i := by
    rw [(mvL_some (by omega) hb).1, if_neg]
    rw [e 4 (by decide), h4]
    intro h9
    have := (nI00 v (by omega)).1 h9
    omega
  obtain ⟨k1, k2, k3⟩ := goF_in hd hv hq ((e 2 (by decide)).trans h2) ((e 3 (by decide)).trans h3) ((e 4 (by decide)).trans h4)
  rw [← h5] at k1 k2 k3
  have p := mvL_post (i := i) hn hq (Or.inl k1) (4 - q) (by omega)
  rw [show q + 1 + (4 - q) = 5 by omega] at p
  rw [tkF_fld hn (by omega) (by decide), tkF_fld hn (by omega) (by decide), tkF_fld hn (by omega) (by decide), p 2 (by decide), p 3 (by decide), p 4 (by decide)]
  exact ⟨k1, k2, k3⟩
