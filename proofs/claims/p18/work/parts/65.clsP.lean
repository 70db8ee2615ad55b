section RV
variable {s : Rw} {n w : Nat}
theorem Rv_fb {q k : Nat} {v : Int32} (h : Rv s n w) (hA : Ra (upd s (fb q k) v) n w) (hq : q < 8) (hk : k < 11) (h5 : k ≠ 5) (h6 : k ≠ 6) (h7 : k ≠ 7) (h9 : k ≠ 9) : Rv (upd s (fb q k) v) n w := by
  obtain ⟨⟨hn8, hn, hS, hM, hZ⟩, hf, hg, hI⟩ := h
  have e : ∀ i l, l < 11 → l ≠ k → upd s (fb q k) v (fb i l) = s (fb i l) := fun i l hl hlk => by rw [upd_fb hk hl, if_neg (fun g => hlk g.2)]
  exact ⟨hA, fun i hi => Bf_same (hf i hi) (e i 5 (by decide) (fun g => h5 g.symm)) (e i 6 (by decide) (fun g => h6 g.symm)) (e i 7 (by decide) (fun g => h7 g.symm)), Sg_same hg (fun x hx => upd_fbx hq hk (by omega)), Iw_fb hI hS.1.1 hq hk h9⟩
theorem set_0 : ∀ v, v < 301 → ¬ jin (nI v) 0 1 = 0 → v < 2 := by decide +kernel
theorem set_1 : ∀ v, v < 301 → ¬ jin (nI v) 1 50 = 0 → 1 ≤ v ∧ v ≤ 50 := by decide +kernel
theorem set_2 : ∀ v, v < 301 → ¬ jin (nI v) 1 9 = 0 → 1 ≤ v ∧ v ≤ 9 := by decide +kernel
theorem set_nat {k v : Nat} (hv : v < 301) (h : ¬ jin (nI v) (lst (nI k)) (mst (nI k)) = 0) : (k = 0 → v < 2) ∧ (k = 1 → 1 ≤ v ∧ v ≤ 50) ∧ (k = 2 → 1 ≤ v ∧ v ≤ 9) ∧ (k = 3 → 1 ≤ v ∧ v ≤ 9) := by
  refine ⟨fun q => ?_, fun q => ?_, fun q => ?_, fun q => ?_⟩
  · subst q; exact set_0 v hv h
  · subst q; exact set_1 v hv h
  · subst q; exact set_2 v hv h
  · subst q; exact set_2 v hv h
theorem set_in {x : Int32} : ∀ k, k < 5 → ¬ jin x (lst (nI k)) (mst (nI k)) = 0 → ∃ v, v < 301 ∧ x = nI v := by
  intro k hk h
  match k, hk with
  | 0, _ => obtain ⟨v, hv, e⟩ := jin_nat (n := 1) (by decide) rfl h; exact ⟨v, by omega, e⟩
  | 1, _ => obtain ⟨v, hv, e⟩ := jin_nat (n := 50) (by decide) rfl h; exact ⟨v, by omega, e⟩
  | 2, _ => obtain ⟨v, hv, e⟩ := jin_nat (n := 9) (by decide) rfl h; exact ⟨v, by omega, e⟩
  | 3, _ => obtain ⟨v, hv, e⟩ := jin_nat (n := 9) (by decide) rfl h; exact ⟨v, by omega, e⟩
  | 4, _ => obtain ⟨v, hv, e⟩ := jin_nat (n := 300) (by decide) rfl h; exact ⟨v, by omega, e⟩
theorem Rv_st {x v : Int32} (h : Rv s n w) : Rv (stF s x v).2 n w := by
  have hA := Ra_st (x := x) (v := v) h.1
  obtain ⟨⟨hn8, hn, hS, hM, hZ⟩, hf, hg, hI⟩ := id h
  by_cases h1 : jin x 0 4 = 0
  · have e : stF s x v = (-2, s) := by unfold stF; rw [if_pos h1]
    rw [e]; exact h
  by_cases h2 : jin v (lst x) (mst x) = 0
  · have e : stF s x v = (-2, s) := by unfold stF; rw [if_neg h1, if_pos h2]
    rw [e]; exact h
  obtain ⟨k, hk, rfl⟩ := jin_nat (n := 4) (by decide) rfl h1
  have e : stF s (nI k) v = (s k, upd s k v) := by unfold stF; rw [if_neg h1, if_neg h2, show (nI k).toNatClampNeg = k from nI_cl (by omega)]
  rw [e] at hA ⊢
  obtain ⟨a, ha, rfl⟩ := set_in k (by omega) h2
  obtain ⟨b0, b1, b2, b3⟩ := set_nat ha h2
  dsimp only at hA ⊢
  have ef : ∀ i l, upd s k (nI a) (fb i l) = s (fb i l) := fun i l => by rw [upd_at, if_neg (by unfold fb; omega)]
  refine ⟨hA, fun i hi => Bf_same (hf i hi) (ef _ _) (ef _ _) (ef _ _), ?_, Iw_out hI hS.1.1 (fun y hy _ => by rw [upd_at, if_neg (by omega)]) (fun i _ => ef _ _)⟩
  obtain ⟨g0, g1, g2, g3⟩ := hg
  refine ⟨?_, ?_, ?_, ?_⟩ <;> show _ <;> rw [upd_at]
  · by_cases q : 0 = k
    · rw [if_pos q]
      have := b0 q.symm
      rcases Nat.lt_or_ge a 1 with g | g
      · left; rw [show a = 0 by omega]; rfl
      · right; rw [show a = 1 by omega]; rfl
    · rw [if_neg q]; exact g0
  · by_cases q : 1 = k
    · rw [if_pos q]; exact ⟨a, (b1 q.symm).1, (b1 q.symm).2, rfl⟩
    · rw [if_neg q]; exact g1
  · by_cases q : 2 = k
    · rw [if_pos q]; exact ⟨a, (b2 q.symm).1, (b2 q.symm).2, rfl⟩
    · rw [if_neg q]; exact g2
  · by_cases q : 3 = k
    · rw [if_pos q]; exact ⟨a, (b3 q.symm).1, (b3 q.symm).2, rfl⟩
    · rw [if_neg q]; exact g3
theorem Iw_mono {n' : Nat} (h : Iw s n w) (hn : n ≤ n') : Iw s n' w := ⟨fun k hk => ⟨by have := (h.1 k hk).1; omega, by have := (h.1 k hk).2.1; omega, (h.1 k hk).2.2⟩, h.2⟩
/-- a new board's row -/
def nwB (s : Rw) (n : Nat) (x y : Int32) : Rw := upd (upd (upd (upd s 5 (nI n + 1)) (fb n 0) x) (fb n 1) y) (fb n 2) (-6)
theorem nwB_at {x y : Int32} {z : Nat} (h5 : z ≠ 5) (h0 : z ≠ fb n 0) (h1 : z ≠ fb n 1) (h2 : z ≠ fb n 2) : nwB s n x y z = s z := by unfold nwB; rw [upd_at, if_neg h2, upd_at, if_neg h1, upd_at, if_neg h0, upd_at, if_neg h5]
theorem nwB_fb {x y : Int32} {j l : Nat} (h : j ≠ n ∨ 3 ≤ l) (hl : l < 11) : nwB s n x y (fb j l) = s (fb j l) := nwB_at (by unfold fb; omega) (by unfold fb; omega) (by unfold fb; omega) (by unfold fb; omega)
theorem Rv_co {x y : Int32} (h : Rv s n w) : ((coF s n x y).1 < 0 ∧ (coF s n x y).2 = s) ∨ (n < 8 ∧ ¬ jin x 0 99 = 0 ∧ ¬ jin y 1 60 = 0 ∧ coF s n x y = (nI n, nwB s n x y) ∧ Rv (nwB s n x y) (n + 1) w) := by
  obtain ⟨⟨hn8, hn, hS, hM, hZ⟩, hf, hg, hI⟩ := id h
  by_cases h1 : jin x 0 99 = 0
  · left; unfold coF; rw [if_pos h1]; exact ⟨show (-2 : Int32) < 0 by decide, rfl⟩
  by_cases h2 : jin y 1 60 = 0
  · left; unfold coF; rw [if_neg h1, if_pos h2]; exact ⟨show (-2 : Int32) < 0 by decide, rfl⟩
  by_cases h3 : nI n = 8
  · left; unfold coF; rw [if_neg h1, if_neg h2, if_pos h3]; exact ⟨show (-4 : Int32) < 0 by decide, rfl⟩
  right
  have hlt := nI8 hn8 h3
  have e : coF s n x y = (nI n, nwB s n x y) := by unfold coF; rw [if_neg h1, if_neg h2, if_neg h3]; rfl
  refine ⟨hlt, h1, h2, e, ?_, fun i hi => ?_, Sg_same hg (fun k hk => nwB_at (by omega) (by unfold fb; omega) (by unfold fb; omega) (by unfold fb; omega)), Iw_out (Iw_mono hI (Nat.le_succ n)) hS.1.1 (fun z hz _ => nwB_at (by omega) (by unfold fb; omega) (by unfold fb; omega) (by unfold fb; omega)) (fun i _ => nwB_fb (Or.inr (by decide)) (by decide))⟩
  · rcases Ra_co (x := x) (y := y) h.1 with q | ⟨-, q, -⟩
    · rw [e] at q
      have := congrFun q 5
      have e5 : nwB s n x y 5 = nI (n + 1) := by
        unfold nwB
        rw [upd_fbx hlt (by decide) (by omega), upd_fbx hlt (by decide) (by omega), upd_fbx hlt (by decide) (by omega), upd_same, nI_succ]
      have h9 : nI (n + 1) = nI n := e5.symm.trans (this.trans hn)
      exact absurd (nI_ij (by omega) (by omega) h9) (by omega)
    · rw [e] at q; exact q
  · by_cases hin : i = n
    · subst hin
      exact ⟨⟨0, by decide, (nwB_fb (Or.inr (by decide)) (by decide)).trans (hZ i 5 (Nat.le_refl _) hlt (by decide) (by decide) (by decide))⟩, Or.inl ((nwB_fb (Or.inr (by decide)) (by decide)).trans (hZ i 6 (Nat.le_refl _) hlt (by decide) (by decide) (by decide))), Or.inl ((nwB_fb (Or.inr (by decide)) (by decide)).trans (hZ i 7 (Nat.le_refl _) hlt (by decide) (by decide) (by decide)))⟩
    · exact Bf_same (hf i (by omega)) (nwB_fb (Or.inl hin) (by decide)) (nwB_fb (Or.inl hin) (by decide)) (nwB_fb (Or.inl hin) (by decide))
/-- a board's row that moves in -/
def nwP (s : Rw) (q k v : Nat) : Rw := upd (upd (upd s (fb q 2) (nI k)) (fb q 4) (nI v)) (fb q 7) 0
theorem Rv_pl {x z y : Int32} (h : Rv s n w) : Rv (plF s n x z y).2 n w := by
  have hA := Ra_pl (x := x) (z := z) (y := y) h.1
  obtain ⟨⟨hn8, hn, hS, hM, hZ⟩, hf, hg, hI⟩ := id h
  rcases plF_cases (x := x) (z := z) (y := y) hn8 hM with ⟨-, e⟩ | ⟨q, k, v, d, hq, hk, hv0, hv, hd, rfl, rfl, rfl, e, h3, ho⟩
  · rw [e]; exact h
  · rw [e] at hA ⊢
    dsimp only at hA ⊢
    have q8 : q < 8 := by omega
    have ef : ∀ i l, l < 11 → l ≠ 2 → l ≠ 4 → l ≠ 7 → upd (upd (upd s (fb q 2) (nI k)) (fb q 4) (nI v)) (fb q 7) 0 (fb i l) = s (fb i l) := fun i l hl a b c => by rw [upd_fb (by decide) hl, if_neg (fun g => c g.2), upd_fb (by decide) hl, if_neg (fun g => b g.2), upd_fb (by decide) hl, if_neg (fun g => a g.2)]
    have ex : ∀ z, 94 ≤ z ∨ z < 6 → upd (upd (upd s (fb q 2) (nI k)) (fb q 4) (nI v)) (fb q 7) 0 z = s z := fun z hz => by rw [upd_fbx q8 (by decide) hz, upd_fbx q8 (by decide) hz, upd_fbx q8 (by decide) hz]
    refine ⟨hA, fun i hi => ?_, Sg_same hg (fun z hz => ex z (by omega)), Iw_out hI hS.1.1 (fun z hz _ => ex z (by omega)) (fun i _ => ef i 9 (by decide) (by decide) (by decide) (by decide))⟩
    by_cases e7 : i = q
    · subst e7
      obtain ⟨g5, g6, -⟩ := hf i hi
      exact ⟨by rw [ef i 5 (by decide) (by decide) (by decide) (by decide)]; exact g5, by rw [ef i 6 (by decide) (by decide) (by decide) (by decide)]; exact g6, Or.inl upd_same⟩
    · exact Bf_same (hf i hi) (ef i 5 (by decide) (by decide) (by decide) (by decide)) (ef i 6 (by decide) (by decide) (by decide) (by decide)) (by rw [upd_fbj (by decide) (by decide) e7, upd_fbj (by decide) (by decide) e7, upd_fbj (by decide) (by decide) e7])
theorem Rv_pu {x y : Int32} (h : Rv s n w) : Rv (puF s n x y).2 n w := by
  have hA := Ra_pu (x := x) (y := y) h.1
  rcases puF_cases (x := x) (y := y) h.1.1 h.1.2.2.2.1 with ⟨-, e⟩ | ⟨q, v, d, k, hq, hv0, hv, hd, hk, rfl, rfl, e, h3', h2'⟩
  · rw [e]; exact h
  · rw [e] at hA ⊢
    exact Rv_fb h hA (by have := h.1.1; omega) (by decide) (by decide) (by decide) (by decide) (by decide)
theorem asF_cases {x : Int32} (hn8 : n ≤ 8) : ((asF s n w x).1 < 0 ∧ (asF s n w x).2 = s) ∨ ∃ q, q < n ∧ x = nI q ∧ ¬ s (fb q 6) = 0 ∧ ¬ s (fb q 7) = 1 ∧ asF s n w x = (goO (upd s (fb q 7) 1) q w, upd s (fb q 7) 1) := by
  by_cases h1 : jin x 0 (nI n - 1) = 0
  · left; unfold asF; rw [if_pos h1]; exact ⟨show (-1 : Int32) < 0 by decide, rfl⟩
  obtain ⟨q, hq, rfl⟩ := jinB hn8 h1
  have e9 := cl8 hq hn8
  by_cases h2 : s (fb q 6) = 0
  · left; unfold asF; rw [if_neg h1, e9, if_pos h2]; exact ⟨show (-5 : Int32) < 0 by decide, rfl⟩
  by_cases h3 : s (fb q 7) = 1
  · left; unfold asF; rw [if_neg h1, e9, if_neg h2, if_pos h3]; exact ⟨show (-5 : Int32) < 0 by decide, rfl⟩
  right
  exact ⟨q, hq, rfl, h2, h3, by unfold asF; rw [if_neg h1, e9, if_neg h2, if_neg h3]⟩
theorem Rv_as {x : Int32} (h : Rv s n w) : Rv (asF s n w x).2 n w := by
  have hA := Ra_as (x := x) h.1
  obtain ⟨⟨hn8, hn, hS, hM, hZ⟩, hf, hg, hI⟩ := id h
  rcases asF_cases (s := s) (w := w) (x := x) hn8 with ⟨-, e⟩ | ⟨q, hq, rfl, h2, h3, e⟩
  · rw [e]; exact h
  · rw [e] at hA ⊢
    dsimp only at hA ⊢
    have q8 : q < 8 := by omega
    refine ⟨hA, fun i hi => ?_, Sg_same hg (fun z hz => upd_fbx q8 (by decide) (by omega)), Iw_fb hI hS.1.1 q8 (by decide) (by decide)⟩
    by_cases e7 : i = q
    · subst e7
      obtain ⟨g5, g6, -⟩ := hf i hi
      exact ⟨by rw [upd_fbn (by decide)]; exact g5, by rw [upd_fbn (by decide)]; exact g6, Or.inr ⟨upd_same, by rw [upd_fbn (by decide)]; exact g6.resolve_left h2⟩⟩
    · exact Bf_same (hf i hi) (upd_fbj (by decide) (by decide) e7) (upd_fbj (by decide) (by decide) e7) (upd_fbj (by decide) (by decide) e7)
def nwW (s : Rw) (w p q : Nat) : Rw := upd (upd s 94 (nI (w + 1))) (95 + w) (nI (p + 8 * q))
theorem Rv_new {p q : Nat} (h : Rv s n w) (hw : w < 200) (hp : p < n) (hq : q < n) (h10 : opA s w < 10) : Rv (nwW s w p q) n (w + 1) := by
  obtain ⟨⟨hn8, hn, hS, hM, hZ⟩, hf, hg, hI⟩ := id h
  have e : ∀ x, x ≠ 94 → x ≠ 95 + w → nwW s w p q x = s x := fun x a b => by unfold nwW; rw [upd_at, if_neg b, upd_at, if_neg a]
  have ew : wv (nwW s w p q) w = p + 8 * q := wv_of (by omega) (by unfold nwW; exact upd_same)
  have ej : ∀ k, k < w → wv (nwW s w p q) k = wv s k := fun k hk => wv_eq (e _ (by omega) (by omega))
  have ef : ∀ i l, i < 8 → l < 11 → nwW s w p q (fb i l) = s (fb i l) := fun i l hi hl => e _ (by have := fb_lt hi hl; omega) (by have := fb_lt hi hl; omega)
  obtain ⟨i1, i2, i3, i4⟩ := hI
  have e295 : nwW s w p q 295 = s 295 := e 295 (by decide) (by omega)
  have e9 : (p + 8 * q) % 8 = p ∧ (p + 8 * q) / 8 % 8 = q ∧ (p + 8 * q) / 64 % 4 = 0 := by omega
  refine ⟨Ra_new h.1 hw (by omega), fun i hi => Bf_same (hf i hi) (ef i 5 (by omega) (by decide)) (ef i 6 (by omega) (by decide)) (ef i 7 (by omega) (by decide)), Sg_same hg (fun k hk => e k (by omega) (by omega)), fun k hk => ?_, ?_, by rw [e295, e 296 (by decide) (by omega)]; exact i3, fun i hi => ?_⟩
  · rw [e295]
    by_cases hkw : k = w
    · subst hkw
      rw [ew, e9.1, e9.2.1, e9.2.2]
      refine ⟨hp, hq, fun g => absurd g (by decide), fun g => ?_⟩
      rcases hS.2.2 with q1 | ⟨j, hj, q1, -⟩
      · rw [q1] at g; exact absurd g.symm (nI_m6 (by omega))
      · rw [q1] at g; exact absurd (nI_ij (by omega) (by omega) g) (by omega)
    · rw [ej k (by omega)]; exact i1 k (by omega)
  · unfold opA at h10 ⊢
    rw [e295, wl_succ, ew, if_pos e9.2.2, List.length_append, wl_same (s := s) (fun k hk => e _ (by omega) (by omega))]
    show (wl s w).length + 1 + _ ≤ 10
    omega
  · rw [ef i 9 hi (by decide), i4 i hi]
    have e1 : dlC (nwW s w p q) i (w + 1) = if isDl (nwW s w p q) i w = 0 then dlC (nwW s w p q) i w else dlC (nwW s w p q) i w + 1 := rfl
    have z : isDl (nwW s w p q) i w = 0 := by unfold isDl; rw [ew]; split; rw [if_neg (by omega)]; rfl
    rw [e1, if_pos z]
    exact congrArg nI (dlC_congr (fun k hk => by rw [ej k hk])).symm
theorem Rv_se {x y : Int32} (h : Rv s n w) : ((seF s n w x y).1 < 0 ∧ (seF s n w x y).2 = s) ∨ ∃ p q, p < n ∧ q < n ∧ p ≠ q ∧ w < 200 ∧ x = nI p ∧ y = nI q ∧ hiF s p q = 0 ∧ opA s w < 10 ∧ seF s n w x y = (nI w, nwW s w p q) ∧ Rv (nwW s w p q) n (w + 1) := by
  rcases seF_cases (x := x) (y := y) h.1 with q | ⟨p, q, hp, hq, hpq, hw, rfl, rfl, hh, hg, e⟩
  · exact Or.inl q
  · have h10 : opA s w < 10 := by
      have h2 := h.2.2.2.2.1
      rw [goN_opA h.1.2.2.1.1 h.1.2.2.1.2.2 h.2.2.2] at hg
      rcases Nat.lt_or_ge (opA s w) 10 with g | g
      · exact g
      · exact absurd (show nI (opA s w) = 10 by rw [show opA s w = 10 by omega]; rfl) hg
    exact Or.inr ⟨p, q, hp, hq, hpq, hw, rfl, rfl, hh, h10, e, Rv_new h hw hp hq h10⟩
theorem Rv_pa {t : Int32} (h : Rv s n w) : Rv (paF s n w t).2 n w := by
  unfold paF
  split
  · exact h
  · split
    · exact Rv_tks h _
    · exact h
end RV
