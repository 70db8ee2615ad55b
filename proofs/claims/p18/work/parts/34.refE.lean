theorem bI_or {s : Rw} {x : Int32} : ∀ n, bI s x n = -6 ∨ ∃ j, j < n ∧ bI s x n = nI j := by
  intro n
  induction n with
  | zero => exact Or.inl rfl
  | succ k ih =>
    unfold bI
    split
    · exact Or.inr ⟨k, by omega, rfl⟩
    · rcases ih with h | ⟨j, hj, h⟩
      · exact Or.inl h
      · exact Or.inr ⟨j, by omega, h⟩
theorem nI_n6 : ∀ j, j < 8 → ¬ nI j = -6 := by decide
/-- what is not a board's place of a move stays -/
theorem goF_out {s : Rw} {i x : Nat} (h : x < 6 ∨ 94 ≤ x) (hi : i < 8) : goF s i x = s x := by
  have e (t : Rw) (k : Nat) (hk : k < 11) (v : Int32) : upd t (fb i k) v x = t x := upd_fbx hi hk (by omega)
  unfold goF goA
  split
  · unfold goB; rw [e _ _ (by decide), e _ _ (by decide)]
  · split
    · unfold goB; rw [e _ _ (by decide), e _ _ (by decide), e _ _ (by decide), e _ _ (by decide)]
    · unfold goB; rw [e _ _ (by decide), e _ _ (by decide)]
theorem pwF_out {s : Rw} {n i x : Nat} (h : x < 6 ∨ 94 ≤ x) (hi : i < 8) : pwF s n i x = s x := by
  have e (t : Rw) (k : Nat) (hk : k < 11) (v : Int32) : upd t (fb i k) v x = t x := upd_fbx hi hk (by omega)
  unfold pwF
  split
  · split
    · rfl
    · rw [e _ _ (by decide), e _ _ (by decide)]
  · rw [e _ _ (by decide)]
/-- the boards have moved in the first k slots -/
def mvL (s : Rw) (n : Nat) : Nat → Rw
  | 0 => s
  | k + 1 => if bI (mvL s n k) (nI k) n = -6 then mvL s n k else if mvL s n k (fb (bI (mvL s n k) (nI k) n).toNatClampNeg 4) = 0 then mvL s n k else goF (mvL s n k) (bI (mvL s n k) (nI k) n).toNatClampNeg
/-- whether there was a plug in the first k slots -/
def pgL (s : Rw) (n : Nat) : Nat → Int32
  | 0 => 0
  | k + 1 => if pgL s n k = 0 then (if bI (mvL s n k) (nI k) n = -6 then 0 else if mvL s n k (fb (bI (mvL s n k) (nI k) n).toNatClampNeg 4) = 0 then 0 else goP (mvL s n k) (bI (mvL s n k) (nI k) n).toNatClampNeg) else 1
def pwL (s : Rw) (n : Nat) : Nat → Rw
  | 0 => s
  | k + 1 => if bI (pwL s n k) (nI k) n = -6 then pwL s n k else pwF (pwL s n k) n (bI (pwL s n k) (nI k) n).toNatClampNeg
def grL (s : Rw) (w : Nat) : Nat → Rw
  | 0 => s
  | k + 1 => grF (grL s w k) w k
theorem mvL_out {s : Rw} {n x : Nat} (h : x < 6 ∨ 94 ≤ x) (hn : n ≤ 8) : ∀ k, mvL s n k x = s x := by
  intro k
  induction k with
  | zero => rfl
  | succ k ih =>
    rcases bI_or (s := mvL s n k) (x := nI k) n with hb | ⟨j, hj, hb⟩
    · unfold mvL; rw [if_pos hb]; exact ih
    · have e : (bI (mvL s n k) (nI k) n).toNatClampNeg = j := by rw [hb, nI_cl (by omega)]
      unfold mvL
      rw [if_neg (by rw [hb]; exact nI_n6 j (by omega)), e]
      split
      · exact ih
      · rw [goF_out h (by omega)]; exact ih
theorem pwL_out {s : Rw} {n x : Nat} (h : x < 6 ∨ 94 ≤ x) (hn : n ≤ 8) : ∀ k, pwL s n k x = s x := by
  intro k
  induction k with
  | zero => rfl
  | succ k ih =>
    rcases bI_or (s := pwL s n k) (x := nI k) n with hb | ⟨j, hj, hb⟩
    · unfold pwL; rw [if_pos hb]; exact ih
    · have e : (bI (pwL s n k) (nI k) n).toNatClampNeg = j := by rw [hb, nI_cl (by omega)]
      unfold pwL
      rw [if_neg (by rw [hb]; exact nI_n6 j (by omega)), e, pwF_out h (by omega)]
      exact ih
theorem plg_or {s : Rw} {n : Nat} : ∀ k, pgL s n k = 0 ∨ pgL s n k = 1 := by
  intro k
  induction k with
  | zero => exact Or.inl rfl
  | succ k ih =>
    unfold pgL
    split
    · split
      · exact Or.inl rfl
      · split
        · exact Or.inl rfl
        · exact plg01
    · exact Or.inr rfl
theorem OkW_out {s t : Rw} {w : Nat} (h : OkW s w) (ht : ∀ x, 94 ≤ x → t x = s x) : OkW t w := h.same (ht 94 (by decide)) (fun k _ => ht _ (by omega))
theorem OkW_upd {s : Rw} {w x : Nat} {v : Int32} (h : OkW s w) (hx : x < 94 ∨ 295 ≤ x) : OkW (upd s x v) w := by
  have hw := h.1
  exact h.same (by rw [upd_at, if_neg (by omega)]) (fun k hk => by rw [upd_at, if_neg (by omega)])
theorem lostF_low {s : Rw} {k v x : Nat} (hx : x < 94) : lostF s k v x = s x := by
  unfold lostF
  rw [upd_at, if_neg (by omega), upd_at, if_neg (by omega), upd_at, if_neg (by omega)]
theorem fgL_low {s : Rw} {b x : Nat} (hx : x < 94) : ∀ k, fgL s b k x = s x := by
  intro k
  induction k with
  | zero => rfl
  | succ k ih =>
    unfold fgL
    split
    · exact ih
    · split
      · exact ih
      · rw [lostF_low hx]; exact ih
theorem fgF_5 {s : Rw} {n i x : Nat} (hi : i < 8) (hx : x < 6) : fgF s n i x = s x := by
  unfold fgF
  rw [upd_fbx hi (by decide) (by omega), upd_fbx hi (by decide) (by omega), upd_fbx hi (by decide) (by omega), fgL_low (by omega)]
theorem OkW_fgF {s : Rw} {n i : Nat} (h : OkW s n) (hi : i < 8) : OkW (fgF s n i) n := by
  unfold fgF
  exact (((h.fg n (Nat.le_refl _)).fb hi (by decide)).fb hi (by decide)).fb hi (by decide)
theorem grF_5 {s : Rw} {n i x : Nat} (hi : i < 8) (hx : x < 6) : grF s n i x = s x := by
  have e (t : Rw) (k : Nat) (hk : k < 11) (v : Int32) : upd t (fb i k) v x = t x := upd_fbx hi hk (by omega)
  unfold grF
  (repeat' split) <;> first | rfl | (rw [fgF_5 hi hx, e _ _ (by decide)]) | (rw [e _ _ (by decide), e _ _ (by decide)]) | (rw [e _ _ (by decide)])
theorem OkW_grF {s : Rw} {n i : Nat} (h : OkW s n) (hi : i < 8) : OkW (grF s n i) n := by
  unfold grF
  (repeat' split) <;> first | exact h | exact OkW_fgF (h.fb hi (by decide)) hi | exact (h.fb hi (by decide)).fb hi (by decide) | exact h.fb hi (by decide)
theorem grL_ok {s : Rw} {w : Nat} (h : OkW s w) : ∀ k, k ≤ 8 → OkW (grL s w k) w ∧ ∀ x, x < 6 → grL s w k x = s x := by
  intro k
  induction k with
  | zero => intro _; exact ⟨h, fun _ _ => rfl⟩
  | succ k ih =>
    intro hk
    obtain ⟨h1, h2⟩ := ih (by omega)
    exact ⟨OkW_grF h1 (by omega), fun x hx => by show grF (grL s w k) w k x = _; rw [grF_5 (by omega) hx, h2 x hx]⟩
