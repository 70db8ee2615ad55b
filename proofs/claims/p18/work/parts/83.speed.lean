theorem sr_299 {s : Rw} {p : Int32} {k : Nat} (hk : k < 200) : srF s p k 299 = s 299 ∨ srF s p k 299 = s 299 + 1 := by
  have hf : ¬ 299 = fb (wv s k % 8) 9 := by unfold fb; omega
  have h5 : ¬ 299 = 95 + k := by omega
  have e : upd (upd (upd s (95 + k) (nI (wv s k + 256))) 299 (s 299 + 1)) 296 (s 2) 299 = s 299 + 1 := by
    rw [upd_at, if_neg (by decide), upd_at, if_pos rfl]
  by_cases hp : p = 0
  · subst hp
    left
    by_cases h : s 296 - 1 = 0
    · rw [srF_d h, upd_at, if_neg (by decide), upd_at, if_neg hf, upd_at, if_neg (by decide), upd_at, if_neg h5, upd_at, if_neg (by decide)]
    · rw [srF_t h, upd_at, if_neg (by decide)]
  · right
    by_cases h : nI (wv s k + 256) / 256 = 3
    · rw [srF_l hp h]
      unfold lostF
      rw [upd_at, if_neg (by decide), upd_at, if_neg h5, upd_at, if_neg (by decide), e]
    · rw [srF_h hp h, e]
theorem get_299 {s : Rw} {w : Nat} (hw : w ≤ 200) : getF s w 299 = s 299 := by
  rcases fRd_or (s := s) (n := w) w (Nat.le_refl _) with e | ⟨k, hk, e⟩
  · unfold getF; rw [if_pos e]
  · unfold getF
    rw [e, if_neg (nI_m6 (by omega)), nI_cl (by omega), upd_at, if_neg (by omega), upd_at, if_neg (by decide), upd_at, if_neg (by decide)]
theorem tk_299 {s : Rw} {n w : Nat} (h : OkS s w) (hn8 : n ≤ 8) : tkF s n w 299 = s 299 ∨ tkF s n w 299 = s 299 + 1 := by
  have hw := h.1.1
  show tkH (tkE (tkD (mvL s n 5) (pgL s n 5) n w) (pgL s n 5)) n w 299 = s 299 ∨ tkH (tkE (tkD (mvL s n 5) (pgL s n 5) n w) (pgL s n 5)) n w 299 = s 299 + 1
  have h1 : OkS (mvL s n 5) w := OkS_out h (fun x hx _ => mvL_out (Or.inr hx) hn8 5)
  have h2 := (tkD_ok (p := pgL s n 5) h1 hn8).1
  have e2 : tkD (mvL s n 5) (pgL s n 5) n w 299 = s 299 := by
    unfold tkD
    rw [grL_ge hw (by decide) (by decide) n hn8, pwL_out (Or.inr (by decide)) hn8, tkB_out (by decide), mvL_out (Or.inr (by decide)) hn8]
  generalize tkD (mvL s n 5) (pgL s n 5) n w = r at h2 e2 ⊢
  have e3 : tkE r (pgL s n 5) 299 = s 299 ∨ tkE r (pgL s n 5) 299 = s 299 + 1 := by
    unfold tkE
    by_cases g : r 295 = -6
    · rw [if_pos g]; exact Or.inl e2
    · rw [if_neg g]
      obtain ⟨k, hk, ek, -⟩ := h2.2.2.resolve_left g
      rw [ek, show (nI k).toNatClampNeg = k from nI_cl (by omega), ← e2]
      exact sr_299 (by omega)
  generalize tkE r (pgL s n 5) = r2 at e3 ⊢
  have e4 : tkH r2 n w 299 = r2 299 := by
    unfold tkH
    rw [upd_at, if_neg (by decide)]
    unfold tkG
    split
    · split
      · exact get_299 hw
      · rfl
    · rfl
  rw [e4]
  exact e3
theorem tks_299 {s : Rw} {n w : Nat} (h : OkS s w) (hn8 : n ≤ 8) : ∀ k, ∃ d, d ≤ k ∧ tks s n w k 299 = s 299 + nI d := by
  intro k
  induction k with
  | zero => exact ⟨0, Nat.le_refl _, (Int32.add_zero _).symm⟩
  | succ k ih =>
    obtain ⟨d, hd, e⟩ := ih
    have h1 := (tks_ok h hn8 k).1
    rcases tk_299 h1 hn8 with g | g
    · exact ⟨d, by omega, g.trans e⟩
    · refine ⟨d + 1, by omega, g.trans ?_⟩
      rw [e, nI_succ, Int32.add_assoc]
theorem hbA_nn {s : Rw} {n w : Nat} {x z y : Int32} (hV : Rv s n w) (h : ¬ (plF s n x z y).1 < 0) : ¬ hbA s n w x z y < 0 := by
  unfold hbA
  rw [if_neg h]
  have hV2 := Rv_pl (x := x) (z := z) (y := y) hV
  generalize (plF s n x z y).2 = t at hV2 ⊢
  obtain ⟨d, hd, e⟩ := tks_299 hV2.1.2.2.1 hV2.1.1 (hbR t n w x.toNatClampNeg)
  have hK := (lk1_le (P := fun i => if tks t n w i (fb x.toNatClampNeg 4) = 0 then 1 else 0) 24 0).2
  have hK2 : hbR t n w x.toNatClampNeg ≤ 24 := by unfold hbR; omega
  rw [e, Int32.add_comm, Int32.add_sub_cancel]
  exact nI_lt0 (by omega)
theorem ss_eq {s : Rw} {n w : Nat} {x z : Int32} (hV : Rv s n w) : ssC s n w x z = ssA s n w x z := by
  have e1 : ieA s n x z 1 = ieA s n x z 24 := ie_y (by decide)
  unfold ssC ssA
  by_cases h : ieA s n x z 24 < 0
  · have h1 : ieA s n x z 1 < 0 := by rw [e1]; exact h
    rw [if_pos h, hb_1 h1, if_pos h1, e1]
  · rw [if_neg h, if_neg]
    refine hbA_nn hV (fun g => h ?_)
    rw [← e1]
    unfold ieA
    rw [if_pos g]
    exact g
