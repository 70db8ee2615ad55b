/-- boards that are not there have nothing -/
def Zr (s : Rw) (n : Nat) : Prop := ∀ i l, n ≤ i → i < 8 → 3 ≤ l → l < 11 → l ≠ 9 → s (fb i l) = 0
/-- a row with n boards and w words, as the reference's calls need it -/
def Ra (s : Rw) (n w : Nat) : Prop := n ≤ 8 ∧ s 5 = nI n ∧ OkS s w ∧ OkM s n ∧ Zr s n
theorem Zr_same {s t : Rw} {n : Nat} (h : Zr s n) (he : ∀ i l, n ≤ i → i < 8 → 3 ≤ l → l < 11 → l ≠ 9 → t (fb i l) = s (fb i l)) : Zr t n := fun i l h1 h2 h3 h4 h5 => (he i l h1 h2 h3 h4 h5).trans (h i l h1 h2 h3 h4 h5)
theorem Zr_fb {s : Rw} {n q k : Nat} {v : Int32} (h : Zr s n) (hq : q < n) (hk : k < 11) : Zr (upd s (fb q k) v) n := Zr_same h (fun i l h1 _ _ h4 _ => upd_fbj hk h4 (by omega))
theorem mvL_no {s : Rw} {n i : Nat} (hn : n ≤ 8) (hi : n ≤ i) : ∀ k l, l < 11 → mvL s n k (fb i l) = s (fb i l) := by
  intro k
  induction k with
  | zero => intro l _; rfl
  | succ k ih =>
    intro l hl
    rcases bI_or (s := mvL s n k) (x := nI k) n with hb | ⟨q, hq, hb⟩
    · rw [(mvL_none hb).1]; exact ih l hl
    · rw [(mvL_some (by omega) hb).1]
      split
      · exact ih l hl
      · rw [goF_j hl (by omega)]; exact ih l hl
theorem pwL_no {s : Rw} {n i : Nat} (hn : n ≤ 8) (hi : n ≤ i) : ∀ k l, l < 11 → pwL s n k (fb i l) = s (fb i l) := by
  intro k
  induction k with
  | zero => intro l _; rfl
  | succ k ih =>
    intro l hl
    rcases bI_or (s := pwL s n k) (x := nI k) n with hb | ⟨q, hq, hb⟩
    · rw [pwL_none hb]; exact ih l hl
    · rw [pwL_some (by omega) hb, pwF_fld hl (Or.inr (by omega))]; exact ih l hl
theorem grL_no {s : Rw} {w i : Nat} (hi : i < 8) : ∀ k, k ≤ i → ∀ l, l < 11 → grL s w k (fb i l) = s (fb i l) := by
  intro k
  induction k with
  | zero => intro _ l _; rfl
  | succ k ih =>
    intro hk l hl
    exact (grF_fld hi hl (Or.inr (by omega))).trans (ih (by omega) l hl)
/-- a tick leaves boards that are not there -/
theorem tkF_no {s : Rw} {n w i l : Nat} (hn : n ≤ 8) (hi : n ≤ i) (hi8 : i < 8) (hl : l < 11) (h9 : l ≠ 9) : tkF s n w (fb i l) = s (fb i l) := by
  have hb := fb_lt hi8 hl
  unfold tkF tkH
  rw [upd_at, if_neg (by omega), tkG_fld hi8 hl, tkE_fld hi8 hl h9]
  unfold tkD
  rw [grL_no hi8 n hi l hl, pwL_no hn hi 5 l hl, tkB_out (by omega), mvL_no hn hi 5 l hl]
theorem Ra_tk {s : Rw} {n w : Nat} (h : Ra s n w) : Ra (tkF s n w) n w := by
  obtain ⟨h1, h2, h3, h4, h5⟩ := h
  have hk := tkF_ok (n := n) h3 h1
  exact ⟨h1, (hk.2 5 (by decide)).trans h2, hk.1, OkM_tk h4 h1, Zr_same h5 (fun i l a b c d e => tkF_no h1 a b d e)⟩
theorem Ra_tks {s : Rw} {n w : Nat} (h : Ra s n w) : ∀ k, Ra (tks s n w k) n w := by
  intro k
  induction k with
  | zero => exact h
  | succ k ih => exact Ra_tk ih
theorem Ra_low {s : Rw} {n w x : Nat} {v : Int32} (h : Ra s n w) (hx : x < 5) : Ra (upd s x v) n w := by
  obtain ⟨h1, h2, h3, h4, h5⟩ := h
  have e : ∀ i l, upd s x v (fb i l) = s (fb i l) := fun i l => by rw [upd_at, if_neg (by unfold fb; omega)]
  exact ⟨h1, by rw [upd_at, if_neg (by omega)]; exact h2, OkS_out h3 (fun y hy _ => by rw [upd_at, if_neg (by omega)]), OkM_same h4 (fun i l _ _ => e i l), Zr_same h5 (fun i l _ _ _ _ _ => e i l)⟩
/-- the row of a change answers for its counts -/
def RaE (s : Rw) : Prop := ∃ n w, Ra s n w
theorem Ra_st {s : Rw} {n w : Nat} {x v : Int32} (h : Ra s n w) : Ra (stF s x v).2 n w := by
  unfold stF
  split
  · exact h
  · next h1 =>
    split
    · exact h
    · obtain ⟨k, hk, rfl⟩ := jin_nat (n := 4) (by decide) rfl h1
      rw [show (nI k).toNatClampNeg = k from nI_cl (by omega)]
      exact Ra_low h (by omega)
theorem Ra_co {s : Rw} {n w : Nat} {x y : Int32} (h : Ra s n w) : (coF s n x y).2 = s ∨ (n < 8 ∧ Ra (coF s n x y).2 (n + 1) w ∧ coF s n x y = (nI n, upd (upd (upd (upd s 5 (nI n + 1)) (fb n 0) x) (fb n 1) y) (fb n 2) (-6))) := by
  obtain ⟨h1, h2, h3, h4, h5⟩ := h
  unfold coF
  split
  · exact Or.inl rfl
  · split
    · exact Or.inl rfl
    · split
      · exact Or.inl rfl
      · next h8 =>
        have hn := nI8 h1 h8
        have e : ∀ k, k < 94 → ¬ (fb n 0 ≤ k ∧ k ≤ fb n 2) → k ≠ 5 → upd (upd (upd (upd s 5 (nI n + 1)) (fb n 0) x) (fb n 1) y) (fb n 2) (-6) k = s k := fun k _ hk2 hk5 => by
          unfold fb at hk2
          rw [upd_at, if_neg (by unfold fb; omega), upd_at, if_neg (by unfold fb; omega), upd_at, if_neg (by unfold fb; omega), upd_at, if_neg hk5]
        have ej : ∀ j l, j < 8 → l < 11 → (j ≠ n ∨ 3 ≤ l) → upd (upd (upd (upd s 5 (nI n + 1)) (fb n 0) x) (fb n 1) y) (fb n 2) (-6) (fb j l) = s (fb j l) := fun j l hj hl hd => e _ (fb_lt hj hl) (by unfold fb; omega) (by unfold fb; omega)
        have e2 : upd (upd (upd (upd s 5 (nI n + 1)) (fb n 0) x) (fb n 1) y) (fb n 2) (-6) (fb n 2) = -6 := upd_same
        refine Or.inr ⟨hn, ⟨by omega, ?_, OkS_out h3 (fun k hk _ => ?_), ⟨fun i hi => ?_, fun a b ha hb hab heq => ?_⟩, fun i l a b c d f => ?_⟩, rfl⟩
        · show upd (upd (upd (upd s 5 (nI n + 1)) (fb n 0) x) (fb n 1) y) (fb n 2) (-6) 5 = _
          rw [upd_fbx hn (by decide) (by omega), upd_fbx hn (by decide) (by omega), upd_fbx hn (by decide) (by omega), upd_same, nI_succ]
        · show upd (upd (upd (upd s 5 (nI n + 1)) (fb n 0) x) (fb n 1) y) (fb n 2) (-6) k = _
          rw [upd_fbx hn (by decide) (by omega), upd_fbx hn (by decide) (by omega), upd_fbx hn (by decide) (by omega), upd_at, if_neg (by omega)]
        · by_cases hin : i = n
          · subst hin
            refine ⟨0, 0, by decide, by decide, ?_, Or.inl ⟨e2, rfl, ?_⟩⟩
            · exact (ej i 3 hn (by decide) (Or.inr (by decide))).trans (h5 i 3 (Nat.le_refl _) hn (by decide) (by decide) (by decide))
            · exact (ej i 4 hn (by decide) (Or.inr (by decide))).trans (h5 i 4 (Nat.le_refl _) hn (by decide) (by decide) (by decide))
          · have := h4.1 i (by omega)
            unfold Bd at this ⊢
            dsimp only
            rw [ej i 2 (by omega) (by decide) (Or.inl hin), ej i 3 (by omega) (by decide) (Or.inl hin), ej i 4 (by omega) (by decide) (Or.inl hin)]
            exact this
        · dsimp only at heq ⊢
          by_cases han : a = n
          · rw [han]; exact e2
          · by_cases hbn : b = n
            · rw [heq, hbn]; exact e2
            · rw [ej a 2 (by omega) (by decide) (Or.inl han)] at heq ⊢
              rw [ej b 2 (by omega) (by decide) (Or.inl hbn)] at heq
              exact h4.2 a b (by omega) (by omega) hab heq
        · exact (ej i l b d (Or.inr c)).trans (h5 i l (by omega) b c d f)
theorem Ra_pl {s : Rw} {n w : Nat} {x z y : Int32} (h : Ra s n w) : Ra (plF s n x z y).2 n w := by
  obtain ⟨h1, h2, h3, h4, h5⟩ := id h
  rcases plF_cases (x := x) (z := z) (y := y) h1 h4 with ⟨-, e⟩ | ⟨q, k, v, d, hq, hk, hv0, hv, hd, rfl, rfl, rfl, e, h3', ho⟩
  · rw [e]; exact h
  · rw [e]
    refine ⟨h1, ?_, OkS_fb (OkS_fb (OkS_fb h3 (by omega) (by decide)) (by omega) (by decide)) (by omega) (by decide), (OkM_pl h4 hv hd hk h3' ho).1, Zr_fb (Zr_fb (Zr_fb h5 hq (by decide)) hq (by decide)) hq (by decide)⟩
    show upd (upd (upd s (fb q 2) (nI k)) (fb q 4) (nI v)) (fb q 7) 0 5 = nI n
    rw [upd_fbx (by omega) (by decide) (by omega), upd_fbx (by omega) (by decide) (by omega), upd_fbx (by omega) (by decide) (by omega)]; exact h2
/-- what a pull that is refused leaves, and one that is not -/
theorem puF_cases {s : Rw} {n : Nat} {x y : Int32} (hn8 : n ≤ 8) (hM : OkM s n) : ((puF s n x y).1 < 0 ∧ (puF s n x y).2 = s) ∨ ∃ q v d k, q < n ∧ 1 ≤ v ∧ v ≤ 24 ∧ d ≤ 24 ∧ k < 5 ∧ x = nI q ∧ y = nI v ∧ puF s n x y = (nI d, upd s (fb q 4) (-(nI v))) ∧ s (fb q 3) = nI d ∧ s (fb q 2) = nI k := by
  by_cases h1 : jin x 0 (nI n - 1) = 0
  · left; simp only [puF, h1, reduceIte]; exact ⟨by decide, trivial⟩
  by_cases h3 : jin y 1 24 = 0
  · left; simp only [puF, h1, h3, reduceIte]; exact ⟨by decide, trivial⟩
  obtain ⟨q, hq, rfl⟩ := jinB hn8 h1
  obtain ⟨v, hv, rfl⟩ := jin_nat (n := 24) (by decide) rfl h3
  have e9 := cl8 hq hn8
  by_cases h4 : s (fb q 2) = -6
  · left; simp only [puF, e9, h1, h3, h4, reduceIte]; exact ⟨by decide, trivial⟩
  right
  obtain ⟨d, v', hd, -, h6, ⟨h7, -⟩ | ⟨k, hk, h7, -⟩⟩ := hM.1 q hq
  · exact absurd h7 h4
  · refine ⟨q, v, d, k, hq, v124 v (by omega) h3, hv, hd, hk, rfl, rfl, ?_, h6, h7⟩
    simp only [puF, e9, h1, h3, h6, reduceIte]
    rw [if_neg h4]
theorem Ra_pu {s : Rw} {n w : Nat} {x y : Int32} (h : Ra s n w) : Ra (puF s n x y).2 n w := by
  obtain ⟨h1, h2, h3, h4, h5⟩ := id h
  rcases puF_cases (x := x) (y := y) h1 h4 with ⟨-, e⟩ | ⟨q, v, d, k, hq, hv0, hv, hd, hk, rfl, rfl, e, h3', h2'⟩
  · rw [e]; exact h
  · rw [e]
    refine ⟨h1, (upd_fbx (by omega) (by decide) (by omega)).trans h2, OkS_fb h3 (by omega) (by decide), ⟨fun i hi => ?_, fun a b ha hb hab heq => ?_⟩, Zr_fb h5 hq (by decide)⟩
    · by_cases hiq : i = q
      · subst hiq
        exact ⟨d, v, hd, hv, (upd_fbn (by decide)).trans h3', Or.inr ⟨k, hk, (upd_fbn (by decide)).trans h2', Or.inr upd_same⟩⟩
      · have := h4.1 i hi
        unfold Bd at this ⊢
        dsimp only
        rw [upd_fbj (by decide) (by decide) hiq, upd_fbj (by decide) (by decide) hiq, upd_fbj (by decide) (by decide) hiq]
        exact this
    · have e2 : ∀ j, upd s (fb q 4) (-(nI v)) (fb j 2) = s (fb j 2) := fun j => by rw [upd_fb (by decide) (by decide), if_neg (by omega)]
      dsimp only at heq ⊢
      rw [e2] at heq ⊢
      rw [e2] at heq
      exact h4.2 a b ha hb hab heq
theorem Ra_fb {s : Rw} {n w q k : Nat} {v : Int32} (h : Ra s n w) (hq : q < n) (hk : k < 11) (hk5 : 5 ≤ k) : Ra (upd s (fb q k) v) n w := by
  obtain ⟨h1, h2, h3, h4, h5⟩ := h
  exact ⟨h1, (upd_fbx (by omega) hk (by omega)).trans h2, OkS_fb h3 (by omega) hk, OkM_same h4 (fun i l hi hl => by rw [upd_fb hk (by omega), if_neg (by omega)]), Zr_fb h5 hq hk⟩
theorem Ra_as {s : Rw} {n w : Nat} {x : Int32} (h : Ra s n w) : Ra (asF s n w x).2 n w := by
  unfold asF
  split
  · exact h
  · next h1 =>
    split
    · exact h
    · split
      · exact h
      · obtain ⟨q, hq, rfl⟩ := jinB h.1 h1
        dsimp only
        rw [cl8 hq h.1]
        exact Ra_fb h hq (by decide) (by decide)
/-- what a word that is refused leaves, and one that is not -/
theorem seF_cases {s : Rw} {n w : Nat} {x y : Int32} (h : Ra s n w) : ((seF s n w x y).1 < 0 ∧ (seF s n w x y).2 = s) ∨ ∃ p q, p < n ∧ q < n ∧ p ≠ q ∧ w < 200 ∧ x = nI p ∧ y = nI q ∧ hiF s p q = 0 ∧ ¬ goN s w = 10 ∧ seF s n w x y = (nI w, upd (upd s 94 (nI (w + 1))) (95 + w) (nI (p + 8 * q))) := by
  by_cases h1 : jin x 0 (nI n - 1) = 0
  · left; simp only [seF, h1, reduceIte]; exact ⟨by decide, trivial⟩
  by_cases h2 : jin y 0 (nI n - 1) = 0
  · left; simp only [seF, h1, h2, reduceIte]; exact ⟨by decide, trivial⟩
  by_cases h3 : x = y
  · left
    have e : seF s n w x y = (-2, s) := by unfold seF; rw [if_neg h1, if_neg h2, if_pos h3]
    rw [e]; exact ⟨show (-2 : Int32) < 0 by decide, rfl⟩
  obtain ⟨p, hp, rfl⟩ := jinB h.1 h1
  obtain ⟨q, hq, rfl⟩ := jinB h.1 h2
  have e8 := cl8 hp h.1
  have e9 := cl8 hq h.1
  by_cases h4 : hiF s p q = 0
  · by_cases h5 : goN s w = 10
    · left; simp only [seF, e8, e9, h1, h2, h3, h4, h5, reduceIte]; exact ⟨by decide, trivial⟩
    by_cases h6 : nI w = 200
    · left; simp only [seF, e8, e9, h1, h2, h3, h4, h5, h6, reduceIte]; exact ⟨by decide, trivial⟩
    right
    refine ⟨p, q, hp, hq, fun e => h3 (by rw [e]), nI200 h.2.2.1.1.1 h6, rfl, rfl, h4, h5, ?_⟩
    have e1 : nI p + 8 * nI q = nI (p + 8 * q) := by simp [nI]
    simp only [seF, e8, e9, h1, h2, h3, h4, h5, h6, e1, nI_succ, reduceIte]
  · left
    have e : seF s n w (nI p) (nI q) = (-5, s) := by unfold seF; rw [if_neg h1, if_neg h2, if_neg h3, e8, e9, if_neg h4]
    rw [e]; exact ⟨show (-5 : Int32) < 0 by decide, rfl⟩
theorem Ra_new {s : Rw} {n w v : Nat} (h : Ra s n w) (hw : w < 200) (hv : v < 64) : Ra (upd (upd s 94 (nI (w + 1))) (95 + w) (nI v)) n (w + 1) := by
  obtain ⟨h1, h2, h3, h4, h5⟩ := h
  have e : ∀ x, x ≠ 94 → x ≠ 95 + w → upd (upd s 94 (nI (w + 1))) (95 + w) (nI v) x = s x := fun x a b => by rw [upd_at, if_neg b, upd_at, if_neg a]
  have ew : wv (upd (upd s 94 (nI (w + 1))) (95 + w) (nI v)) w = v := wv_of (by omega) upd_same
  have ej : ∀ k, k < w → wv (upd (upd s 94 (nI (w + 1))) (95 + w) (nI v)) k = wv s k := fun k hk => wv_eq (e _ (by omega) (by omega))
  refine ⟨h1, (e 5 (by decide) (by omega)).trans h2, ⟨⟨by omega, ?_, fun k hk => ?_⟩, fun k hk => ?_, ?_⟩, OkM_same h4 (fun i l hi hl => e _ (by unfold fb; omega) (by unfold fb; omega)), Zr_same h5 (fun i l _ _ _ _ _ => e _ (by unfold fb; omega) (by unfold fb; omega))⟩
  · rw [upd_at, if_neg (by omega), upd_same]
  · by_cases hkw : k = w
    · subst hkw; rw [ew]; exact ⟨upd_same, by omega⟩
    · rw [ej k (by omega), e _ (by omega) (by omega)]; exact h3.1.2.2 k (by omega)
  · by_cases hkw : k = w
    · subst hkw; rw [ew]; exact Or.inl (by omega)
    · rw [ej k (by omega)]; exact h3.2.1 k (by omega)
  · rcases h3.2.2 with q | ⟨k, hk, q1, q2⟩
    · exact Or.inl ((e 295 (by decide) (by omega)).trans q)
    · exact Or.inr ⟨k, by omega, (e 295 (by decide) (by omega)).trans q1, by rw [ej k hk]; exact q2⟩
theorem Ra_se {s : Rw} {n w : Nat} {x y : Int32} (h : Ra s n w) : Ra (seF s n w x y).2 n w ∨ Ra (seF s n w x y).2 n (w + 1) := by
  rcases seF_cases (x := x) (y := y) h with ⟨-, e⟩ | ⟨p, q, hp, hq, -, hw, -, -, -, -, e⟩
  · rw [e]; exact Or.inl h
  · rw [e]; exact Or.inr (Ra_new h hw (by have := h.1; omega))
theorem Ra_pa {s : Rw} {n w : Nat} {t : Int32} (h : Ra s n w) : Ra (paF s n w t).2 n w := by
  unfold paF
  split
  · exact h
  · split
    · exact Ra_tks h _
    · exact h
/-- the counts stand in the row -/
def nOf (s : Rw) : Nat := (s 5).toNatClampNeg
def wOf (s : Rw) : Nat := (s 94).toNatClampNeg
theorem Ra_n {s : Rw} {n w : Nat} (h : Ra s n w) : nOf s = n ∧ wOf s = w := by
  obtain ⟨h1, h2, h3, -⟩ := h
  have := h3.1.1
  exact ⟨by unfold nOf; rw [h2]; exact nI_cl (by omega), by unfold wOf; rw [h3.1.2.1]; exact nI_cl (by omega)⟩
/-- an order carried out -/
def dsF (s : Rw) (c x y z : Int32) : Int32 × Rw := if c = 98 then coF s (nOf s) x y else if c = 105 then plF s (nOf s) x y z else if c = 111 then puF s (nOf s) x y else if c = 97 then asF s (nOf s) (wOf s) x else if c = 119 then seF s (nOf s) (wOf s) x y else paF s (nOf s) (wOf s) x
theorem RaE_ds {s : Rw} {c x y z : Int32} (h : RaE s) : RaE (dsF s c x y z).2 := by
  obtain ⟨n, w, h⟩ := h
  obtain ⟨e1, e2⟩ := Ra_n h
  unfold dsF
  rw [e1, e2]
  split
  · rcases Ra_co (x := x) (y := y) h with q | ⟨-, q, -⟩
    · rw [q]; exact ⟨n, w, h⟩
    · exact ⟨_, _, q⟩
  · split
    · exact ⟨_, _, Ra_pl h⟩
    · split
      · exact ⟨_, _, Ra_pu h⟩
      · split
        · exact ⟨_, _, Ra_as h⟩
        · split
          · rcases Ra_se (x := x) (y := y) h with q | q
            · exact ⟨_, _, q⟩
            · exact ⟨_, _, q⟩
          · exact ⟨_, _, Ra_pa h⟩
