theorem dlC_congr {s t : Rw} {i w : Nat} (h : ∀ k, k < w → (wv t k % 8 = i ∧ wv t k / 64 % 4 = 2 ↔ wv s k % 8 = i ∧ wv s k / 64 % 4 = 2)) : dlC t i w = dlC s i w := by
  have e : ∀ k, k < w → isDl t i k = isDl s i k := by
    intro k hk
    have h := h k hk
    unfold isDl
    by_cases h1 : wv t k % 8 = i ∧ wv t k / 64 % 4 = 2
    · rw [if_pos h1.1, if_pos h1.2, if_pos (h.1 h1).1, if_pos (h.1 h1).2]
    · have h2 : ¬ (wv s k % 8 = i ∧ wv s k / 64 % 4 = 2) := fun g => h1 (h.2 g)
      have z : ∀ v : Nat, ¬ (v % 8 = i ∧ v / 64 % 4 = 2) → (if v % 8 = i then (if v / 64 % 4 = 2 then (1 : Int32) else 0) else 0) = 0 := by
        intro v hv
        by_cases a : v % 8 = i
        · rw [if_pos a, if_neg (fun g => hv ⟨a, g⟩)]
        · rw [if_neg a]
      rw [z _ h1, z _ h2]
  induction w with
  | zero => rfl
  | succ j ih =>
    have e1 : dlC t i (j + 1) = if isDl t i j = 0 then dlC t i j else dlC t i j + 1 := rfl
    have e2 : dlC s i (j + 1) = if isDl s i j = 0 then dlC s i j else dlC s i j + 1 := rfl
    rw [e1, e2, e j (by omega), ih (fun k hk => h k (by omega)) (fun k hk => e k (by omega))]
theorem Iw_out {s t : Rw} {n w : Nat} (h : Iw s n w) (hw : w ≤ 200) (ht : ∀ x, 94 ≤ x → x < 297 → t x = s x) (h9 : ∀ i, i < 8 → t (fb i 9) = s (fb i 9)) : Iw t n w := by
  obtain ⟨h1, h2, h3, h4⟩ := h
  have e : ∀ k, k < w → wv t k = wv s k := fun k hk => wv_eq (ht _ (by omega) (by omega))
  have e295 := ht 295 (by decide) (by decide)
  refine ⟨fun k hk => by rw [e k hk, e295]; exact h1 k hk, ?_, by rw [e295, ht 296 (by decide) (by decide)]; exact h3, fun i hi => ?_⟩
  · unfold opA
    rw [e295, wl_congr (s := s) (fun k hk => by rw [e k hk])]
    exact h2
  · rw [h9 i hi, dlC_congr (s := s) (fun k hk => by rw [e k hk])]
    exact h4 i hi
/-- a row with some words lost -/
theorem Iw_fgL {s : Rw} {n w d : Nat} (hO : OkW s w) (hB : OkB s w) (h : Iw s n w) : Iw (fgL s d w) n w := by
  have hw := hO.1
  obtain ⟨p1, p2, p3, p4⟩ := fgL_pt (d := d) hw hB w (Nat.le_refl _)
  obtain ⟨h1, h2, h3, h4⟩ := h
  have hc : ∀ k, k < w → fgL s d w (95 + k) = if lI s d k = 0 then s (95 + k) else nI (setSt (wv s k) 3) := fun k hk => by rw [p1 k (by omega), if_pos hk]
  have hv : ∀ k, k < w → wv (fgL s d w) k = if lI s d k = 0 then wv s k else setSt (wv s k) 3 := fun k hk => by
    by_cases e : lI s d k = 0
    · rw [if_pos e]; exact wv_eq (by rw [hc k hk, if_pos e])
    · rw [if_neg e]; exact wv_of (setSt_lt (hO.2.2 k hk).2 (by decide)) (by rw [hc k hk, if_neg e])
  have sp : ∀ v, setSt v 3 % 8 = v % 8 ∧ setSt v 3 / 8 % 8 = v / 8 % 8 ∧ setSt v 3 / 64 % 4 = 3 := fun v => by
    obtain ⟨d1, d2, d3, -⟩ := setSt_p (v := v) (show 3 < 4 by decide)
    exact ⟨d1, d2, d3⟩
  have hlg : ∀ k, ¬ lI s d k = 0 → wv s k / 64 % 4 < 2 := fun k hl => by
    unfold lI at hl
    split at hl
    · exact absurd rfl hl
    · next hg => rw [iG_0] at hg; omega
  have hbl : ∀ k, k < w → s 295 = nI k → bL s d w = lI s d k := fun k hk e => by
    unfold bL
    rw [if_neg (by rw [e]; exact nI_m6 (by omega)), e, nI_cl (by omega), if_pos hk]
  refine ⟨fun k hk => ?_, ?_, ?_, fun i hi => ?_⟩
  · obtain ⟨g1, g2, g3⟩ := h1 k hk
    rw [hv k hk, p2]
    by_cases e : lI s d k = 0
    · rw [if_pos e]
      refine ⟨g1, g2, ?_⟩
      constructor
      · intro g
        have g9 := g3.1 g
        rw [if_pos (by rw [hbl k hk g9]; exact e)]; exact g9
      · intro g
        by_cases eb : bL s d w = 0
        · rw [if_pos eb] at g; exact g3.2 g
        · rw [if_neg eb] at g; exact absurd g.symm (nI_m6 (by omega))
    · rw [if_neg e, (sp _).1, (sp _).2.1, (sp _).2.2]
      refine ⟨g1, g2, fun g => absurd g (by decide), fun g => ?_⟩
      by_cases eb : bL s d w = 0
      · rw [if_pos eb] at g
        rw [hbl k hk g] at eb
        exact absurd eb e
      · rw [if_neg eb] at g; exact absurd g.symm (nI_m6 (by omega))
  · unfold opA at h2 ⊢
    rw [wl_lose hv, p2]
    have hle := List.length_filter_le (nO s d) (wl s w)
    by_cases e6 : s 295 = -6
    · have : (if bL s d w = 0 then s 295 else -6) = -6 := by split; exact e6; rfl
      rw [this, if_pos rfl]; omega
    · rw [if_neg e6] at h2
      by_cases eb : bL s d w = 0
      · rw [if_pos eb, if_neg e6]; omega
      · rw [if_neg eb, if_pos rfl]; omega
  · rw [p2, p4 296 (by decide) (by decide) (by decide)]
    by_cases eb : bL s d w = 0
    · rw [if_pos eb]; exact h3
    · rw [if_neg eb]; exact Or.inl rfl
  · rw [fgL_low (fb_lt hi (by decide)), h4 i hi]
    refine congrArg nI (dlC_congr (fun k hk => ?_)).symm
    rw [hv k hk]
    by_cases e : lI s d k = 0
    · rw [if_pos e]
    · rw [if_neg e, (sp _).1, (sp _).2.2]
      have := hlg k e
      omega
theorem Iw_fb {s : Rw} {n w i k : Nat} {v : Int32} (h : Iw s n w) (hw : w ≤ 200) (hi : i < 8) (hk : k < 11) (h9 : k ≠ 9) : Iw (upd s (fb i k) v) n w := Iw_out h hw (fun x hx _ => upd_fbx hi hk (by omega)) (fun j _ => by rw [upd_fb hk (by decide), if_neg (by omega)])
theorem Iw_fgF {s : Rw} {n w i : Nat} (hO : OkW s w) (hB : OkB s w) (h : Iw s n w) (hi : i < 8) : Iw (fgF s w i) n w := by
  have hw := hO.1
  unfold fgF
  exact Iw_fb (Iw_fb (Iw_fb (Iw_fgL hO hB h) hw hi (by decide) (by decide)) hw hi (by decide) (by decide)) hw hi (by decide) (by decide)
theorem Iw_grF {s : Rw} {n w i : Nat} (hS : OkS s w) (h : Iw s n w) (hi : i < 8) : Iw (grF s w i) n w := by
  have hw := hS.1.1
  have h8 : OkS (upd s (fb i 8) 0) w := OkS_fb hS hi (by decide)
  have i8 : Iw (upd s (fb i 8) 0) n w := Iw_fb h hw hi (by decide) (by decide)
  have a1 := Iw_fgF h8.1 h8.2.2 i8 hi
  unfold grF
  split
  · split
    · exact a1
    · exact i8
  · split
    · split
      · exact a1
      · exact i8
    · split
      · exact h
      · split
        · split
          · exact Iw_fb (Iw_fb h hw hi (by decide) (by decide)) hw hi (by decide) (by decide)
          · exact Iw_fb (Iw_fb h hw hi (by decide) (by decide)) hw hi (by decide) (by decide)
        · exact h
theorem Iw_grL {s : Rw} {n w : Nat} (hS : OkS s w) (h : Iw s n w) : ∀ k, k ≤ 8 → Iw (grL s w k) n w := by
  intro k
  induction k with
  | zero => intro _; exact h
  | succ k ih => intro hk; exact Iw_grF (OkS_grL hS k (by omega)) (ih (by omega)) (by omega)
/-- flags behind a greeting -/
theorem Bf_grF {s : Rw} {w i j : Nat} (hw : w ≤ 200) (hi : i < 8) (hj : j < 8) (h : Bf s j) : Bf (grF s w i) j := by
  by_cases e : j = i
  · subst e
    obtain ⟨h5, h6, h7⟩ := h
    have f6 : fgF (upd s (fb j 8) 0) w j (fb j 6) = 0 := by unfold fgF; rw [upd_same]
    have f7 : fgF (upd s (fb j 8) 0) w j (fb j 7) = 0 := by unfold fgF; rw [upd_fbn (by decide), upd_same]
    have f5 : fgF (upd s (fb j 8) 0) w j (fb j 5) = s (fb j 5) := by rw [fgF_fld hj (by decide) (Or.inl (by decide)), upd_fbn (by decide)]
    have u5 : ∀ v x, upd (upd s (fb j 6) v) (fb j 8) x (fb j 5) = s (fb j 5) := fun v x => by rw [upd_fbn (by decide), upd_fbn (by decide)]
    have u6 : ∀ v x, upd (upd s (fb j 6) v) (fb j 8) x (fb j 6) = v := fun v x => by rw [upd_fbn (by decide), upd_same]
    have u7 : ∀ v x, upd (upd s (fb j 6) v) (fb j 8) x (fb j 7) = s (fb j 7) := fun v x => by rw [upd_fbn (by decide), upd_fbn (by decide)]
    have g5 : ∀ x, upd s (fb j 8) x (fb j 5) = s (fb j 5) := fun x => upd_fbn (by decide)
    have g6 : ∀ x, upd s (fb j 8) x (fb j 6) = s (fb j 6) := fun x => upd_fbn (by decide)
    have g7 : ∀ x, upd s (fb j 8) x (fb j 7) = s (fb j 7) := fun x => upd_fbn (by decide)
    have a1 : Bf (fgF (upd s (fb j 8) 0) w j) j := ⟨by rw [f5]; exact h5, Or.inl f6, Or.inl f7⟩
    have a2 : Bf (upd s (fb j 8) 0) j := ⟨by rw [g5]; exact h5, by rw [g6]; exact h6, by rw [g7, g6]; exact h7⟩
    unfold grF
    split
    · split
      · exact a1
      · exact a2
    · split
      · split
        · exact a1
        · exact a2
      · split
        · exact ⟨h5, h6, h7⟩
        · next hk =>
          have h0 := h6.resolve_right hk
          have h70 : s (fb j 7) = 0 := h7.resolve_right (fun g => hk g.2)
          split
          · split
            · exact ⟨by rw [u5]; exact h5, Or.inl (u6 _ _), Or.inl ((u7 _ _).trans h70)⟩
            · exact ⟨by rw [u5]; exact h5, Or.inr (u6 _ _), Or.inl ((u7 _ _).trans h70)⟩
          · exact ⟨h5, h6, h7⟩
  · unfold Bf
    rw [grF_fld (l := 5) hj (by decide) (Or.inr e), grF_fld (l := 6) hj (by decide) (Or.inr e), grF_fld (l := 7) hj (by decide) (Or.inr e)]
    exact h
theorem Bf_grL {s : Rw} {w j : Nat} (hw : w ≤ 200) (hj : j < 8) (h : Bf s j) : ∀ k, k ≤ 8 → Bf (grL s w k) j := by
  intro k
  induction k with
  | zero => intro _; exact h
  | succ k ih => intro hk; exact Bf_grF hw (by omega) hj (ih (by omega))
theorem Bf_same {s t : Rw} {i : Nat} (h : Bf s i) (h5 : t (fb i 5) = s (fb i 5)) (h6 : t (fb i 6) = s (fb i 6)) (h7 : t (fb i 7) = s (fb i 7)) : Bf t i := by
  unfold Bf
  rw [h5, h6, h7]
  exact h
theorem opA_le {s t : Rw} {w : Nat} (h : wl t w = wl s w) (hb : s 295 = -6 → t 295 = -6) : opA t w ≤ opA s w := by
  unfold opA
  rw [h]
  by_cases e : s 295 = -6
  · rw [if_pos e, if_pos (hb e)]; exact Nat.le_refl _
  · rw [if_neg e]; split <;> omega
/-- the serving keeps it -/
theorem Iw_srF {s : Rw} {n w k : Nat} {p : Int32} (hO : OkW s w) (h : Iw s n w) (hn : n ≤ 8) (hk : k < w) (hb : s 295 = nI k) (h768 : wv s k < 768) (hs2 : ∃ a, 1 ≤ a ∧ a ≤ 9 ∧ s 2 = nI a) : Iw (srF s p k) n w := by
  have hw := hO.1
  obtain ⟨h1, h2, h3, h4⟩ := id h
  have hst := (h1 k hk).2.2.2 hb
  have hun : ∀ j, j < w → j ≠ k → ¬ wv s j / 64 % 4 = 1 := fun j hj hjk g => hjk (nI_ij (by omega) (by omega) (((h1 j hj).2.2.1 g).symm.trans hb))
  by_cases hp : p = 0
  · subst hp
    obtain ⟨t0, ht1, ht2, ht3⟩ := h3.resolve_left (by rw [hb]; exact nI_m6 (by omega))
    by_cases h0 : s 296 - 1 = 0
    · rw [srF_d h0]
      generalize ht : upd (upd (upd (upd (upd s 296 (s 296 - 1)) (95 + k) (nI (setSt (wv s k) 2))) 300 (s 300 + 1)) (fb (wv s k % 8) 9) (s (fb (wv s k % 8) 9) + 1)) 295 (-6) = t
      have c : ∀ r : Rw, ∀ v x, 94 ≤ x → upd r (fb (wv s k % 8) 9) v x = r x := fun r v x hx => upd_fbx (by omega) (by decide) (by omega)
      have lk : t (95 + k) = nI (setSt (wv s k) 2) := by rw [← ht, upd_at, if_neg (by omega), c _ _ _ (by omega), upd_at, if_neg (by omega), upd_same]
      have lj : ∀ j, j < w → j ≠ k → t (95 + j) = s (95 + j) := fun j hj hjk => by rw [← ht, upd_at, if_neg (by omega), c _ _ _ (by omega), upd_at, if_neg (by omega), upd_at, if_neg (by omega), upd_at, if_neg (by omega)]
      have t295 : t 295 = -6 := by rw [← ht, upd_same]
      have t9 : ∀ i, i < 8 → t (fb i 9) = if i = wv s k % 8 then s (fb i 9) + 1 else s (fb i 9) := fun i hi => by
        have := fb_lt hi (show 9 < 11 by decide)
        rw [← ht, upd_at, if_neg (by omega), upd_fb (by decide) (by decide)]
        by_cases e : i = wv s k % 8
        · rw [if_pos ⟨e, rfl⟩, if_pos e, e]
        · rw [if_neg (fun g => e g.1), if_neg e, upd_at, if_neg (by omega), upd_at, if_neg (by omega), upd_at, if_neg (by omega)]
      obtain ⟨d1, d2, d3, d4⟩ := setSt_p (v := wv s k) (show 2 < 4 by decide)
      have ek := wv_of (setSt_lt (hO.2.2 k hk).2 (show 2 < 4 by decide)) lk
      have ew : wl t w = wl s w := wl_k (k := k) (by rw [ek, d3, hst]; decide) lj
      refine ⟨fun j hj => ?_, Nat.le_trans (opA_le ew (fun _ => t295)) h2, Or.inl t295, fun i hi => ?_⟩
      · rw [t295]
        by_cases hjk : j = k
        · subst hjk
          rw [ek, d1, d2, d3]
          exact ⟨(h1 j hj).1, (h1 j hj).2.1, fun g => absurd g (by decide), fun g => absurd g.symm (nI_m6 (by omega))⟩
        · rw [wv_eq (lj j hj hjk)]
          exact ⟨(h1 j hj).1, (h1 j hj).2.1, fun g => absurd g (hun j hj hjk), fun g => absurd g.symm (nI_m6 (by omega))⟩
      · rw [t9 i hi, h4 i hi]
        have step : ∀ m, m ≤ w → dlC t i m = dlC s i m + (if k < m ∧ i = wv s k % 8 then 1 else 0) := by
          intro m
          induction m with
          | zero => intro _; rw [if_neg (by omega)]; rfl
          | succ m ihm =>
            intro hm
            have e1 : dlC t i (m + 1) = if isDl t i m = 0 then dlC t i m else dlC t i m + 1 := rfl
            have e2 : dlC s i (m + 1) = if isDl s i m = 0 then dlC s i m else dlC s i m + 1 := rfl
            rw [e1, e2, ihm (by omega)]
            by_cases hmk : m = k
            · subst hmk
              have z1 : isDl s i m = 0 := by unfold isDl; split; rw [if_neg (by omega)]; rfl
              rw [if_pos z1, if_neg (by omega : ¬ (m < m ∧ i = wv s m % 8))]
              by_cases hi2 : i = wv s m % 8
              · have z2 : isDl t i m = 1 := by unfold isDl; rw [ek, d1, d3, if_pos hi2.symm, if_pos rfl]
                rw [if_neg (by rw [z2]; decide), if_pos ⟨by omega, hi2⟩]
              · have z2 : isDl t i m = 0 := by unfold isDl; rw [ek, d1, if_neg (fun g => hi2 g.symm)]
                rw [if_pos z2, if_neg (fun g => hi2 g.2)]
            · have z : isDl t i m = isDl s i m := by unfold isDl; rw [wv_eq (lj m (by omega) hmk)]
              rw [z]
              by_cases q : k < m ∧ i = wv s k % 8
              · rw [if_pos q, if_pos (show k < m + 1 ∧ i = wv s k % 8 from ⟨by omega, q.2⟩)]
                split <;> omega
              · rw [if_neg q, if_neg (show ¬ (k < m + 1 ∧ i = wv s k % 8) from fun g => q ⟨by omega, g.2⟩)]
                split <;> rfl
        rw [step w (Nat.le_refl _)]
        by_cases e : i = wv s k % 8
        · rw [if_pos e, if_pos ⟨hk, e⟩, nI_succ]
        · rw [if_neg e, if_neg (fun g => e g.2), Nat.add_zero]
    · rw [srF_t h0]
      have lx : ∀ x, x ≠ 296 → upd s 296 (s 296 - 1) x = s x := fun x hx => by rw [upd_at, if_neg hx]
      have ej : ∀ j, j < w → wv (upd s 296 (s 296 - 1)) j = wv s j := fun j hj => wv_eq (lx _ (by omega))
      refine ⟨fun j hj => by rw [ej j hj, lx 295 (by decide)]; exact h1 j hj, Nat.le_trans (opA_le (wl_same (fun j hj => lx _ (by omega))) (fun g => (lx 295 (by decide)).trans g)) h2, Or.inr ?_, fun i hi => ?_⟩
      · rw [upd_same, ht3]
        have : t0 ≠ 1 := fun g => h0 (by rw [ht3, g]; rfl)
        exact ⟨t0 - 1, by omega, by omega, by rw [show t0 = (t0 - 1) + 1 by omega, nI_pred]; rfl⟩
      · rw [lx _ (by have := fb_lt hi (show 9 < 11 by decide); omega), h4 i hi]
        exact congrArg nI (dlC_congr (fun j hj => by rw [ej j hj])).symm
  · by_cases h3' : nI (wv s k + 256) / 256 = 3
    · rw [srF_l hp h3']
      generalize ht : upd (upd (upd s (95 + k) (nI (wv s k + 256))) 299 (s 299 + 1)) 296 (s 2) = t
      have t295 : t 295 = nI k := by rw [← ht, upd_at, if_neg (by decide), upd_at, if_neg (by decide), upd_at, if_neg (by omega)]; exact hb
      have lk : lostF t k (wv s k + 256) (95 + k) = nI (setSt (wv s k + 256) 3) := by rw [lostF_wd (by omega), if_pos rfl]
      have lj : ∀ j, j < w → j ≠ k → lostF t k (wv s k + 256) (95 + j) = s (95 + j) := fun j hj hjk => by rw [lostF_wd (by omega), if_neg hjk, ← ht, upd_at, if_neg (by omega), upd_at, if_neg (by omega), upd_at, if_neg (by omega)]
      obtain ⟨c1, c2, c3, c4⟩ := v256s (v := wv s k)
      obtain ⟨d1, d2, d3, d4⟩ := setSt_p (v := wv s k + 256) (show 3 < 4 by decide)
      have ek := wv_of (setSt_lt (show wv s k + 256 < 1024 by omega) (show 3 < 4 by decide)) lk
      have b6 : lostF t k (wv s k + 256) 295 = -6 := by rw [lostF_bus (by omega), if_pos t295]
      have ew : wl (lostF t k (wv s k + 256)) w = wl s w := wl_k (k := k) (by rw [ek, d3, hst]; decide) lj
      refine ⟨fun j hj => ?_, Nat.le_trans (opA_le ew (fun _ => b6)) h2, Or.inl b6, fun i hi => ?_⟩
      · rw [b6]
        by_cases hjk : j = k
        · subst hjk
          rw [ek, d1, d2, d3, c1, c2]
          exact ⟨(h1 j hj).1, (h1 j hj).2.1, fun g => absurd g (by decide), fun g => absurd g.symm (nI_m6 (by omega))⟩
        · rw [wv_eq (lj j hj hjk)]
          exact ⟨(h1 j hj).1, (h1 j hj).2.1, fun g => absurd g (hun j hj hjk), fun g => absurd g.symm (nI_m6 (by omega))⟩
      · have hlt := fb_lt hi (show 9 < 11 by decide)
        rw [lostF_low hlt, ← ht, upd_at, if_neg (by omega), upd_at, if_neg (by omega), upd_at, if_neg (by omega), h4 i hi, ht]
        refine congrArg nI (dlC_congr (fun j hj => ?_)).symm
        by_cases hjk : j = k
        · subst hjk; rw [ek, d3, hst]; omega
        · rw [wv_eq (lj j hj hjk)]
    · rw [srF_h hp h3']
      have lk : upd (upd (upd s (95 + k) (nI (wv s k + 256))) 299 (s 299 + 1)) 296 (s 2) (95 + k) = nI (wv s k + 256) := by rw [upd_at, if_neg (by omega), upd_at, if_neg (by omega), upd_same]
      have lj : ∀ j, j < w → j ≠ k → upd (upd (upd s (95 + k) (nI (wv s k + 256))) 299 (s 299 + 1)) 296 (s 2) (95 + j) = s (95 + j) := fun j hj hjk => by rw [upd_at, if_neg (by omega), upd_at, if_neg (by omega), upd_at, if_neg (by omega)]
      have b5 : upd (upd (upd s (95 + k) (nI (wv s k + 256))) 299 (s 299 + 1)) 296 (s 2) 295 = s 295 := by rw [upd_at, if_neg (by decide), upd_at, if_neg (by decide), upd_at, if_neg (by omega)]
      obtain ⟨c1, c2, c3, c4⟩ := v256s (v := wv s k)
      have ek := wv_of (show wv s k + 256 < 1024 by omega) lk
      refine ⟨fun j hj => ?_, Nat.le_trans (opA_le (wl_k (k := k) (by rw [ek, c3]) lj) (fun g => b5.trans g)) h2, Or.inr ?_, fun i hi => ?_⟩
      · rw [b5]
        by_cases hjk : j = k
        · subst hjk; rw [ek, c1, c2, c3]; exact h1 j hj
        · rw [wv_eq (lj j hj hjk)]; exact h1 j hj
      · rw [upd_same]; exact hs2
      · have hlt := fb_lt hi (show 9 < 11 by decide)
        rw [upd_at, if_neg (by omega), upd_at, if_neg (by omega), upd_at, if_neg (by omega), h4 i hi]
        refine congrArg nI (dlC_congr (fun j hj => ?_)).symm
        by_cases hjk : j = k
        · subst hjk; rw [ek, c1, c3]
        · rw [wv_eq (lj j hj hjk)]
/-- getting on the bus keeps it -/
theorem Iw_getF {s : Rw} {n w : Nat} (hO : OkW s w) (h : Iw s n w) (h6 : s 295 = -6) (hs2 : ∃ a, 1 ≤ a ∧ a ≤ 9 ∧ s 2 = nI a) : Iw (getF s w) n w := by
  have hw := hO.1
  obtain ⟨h1, h2, h3, h4⟩ := id h
  rcases fRd_rdy (s := s) (n := w) w (Nat.le_refl _) with e | ⟨k, hk, e, hr⟩
  · unfold getF; rw [if_pos e]; exact h
  · have e0 : getF s w = upd (upd (upd s 295 (nI k)) 296 (s 2)) (95 + k) (nI (setSt (wv s k) 1)) := by
      unfold getF
      rw [e, if_neg (nI_m6 (by omega)), nI_cl (by omega)]
    rw [e0]
    have hst := rdy_st hr
    obtain ⟨i, hi1, hi2⟩ := mem_wl hk hst
    generalize ht : upd (upd (upd s 295 (nI k)) 296 (s 2)) (95 + k) (nI (setSt (wv s k) 1)) = t
    have lk : t (95 + k) = nI (setSt (wv s k) 1) := by rw [← ht, upd_same]
    have lj : ∀ j, j < w → j ≠ k → t (95 + j) = s (95 + j) := fun j hj hjk => by rw [← ht, upd_at, if_neg (by omega), upd_at, if_neg (by omega), upd_at, if_neg (by omega)]
    have t295 : t 295 = nI k := by rw [← ht, upd_at, if_neg (by omega), upd_at, if_neg (by decide), upd_same]
    have t296 : t 296 = s 2 := by rw [← ht, upd_at, if_neg (by omega), upd_same]
    obtain ⟨d1, d2, d3, d4⟩ := setSt_p (v := wv s k) (show 1 < 4 by decide)
    have ek := wv_of (setSt_lt (hO.2.2 k hk).2 (show 1 < 4 by decide)) lk
    have hun : ∀ j, j < w → ¬ wv s j / 64 % 4 = 1 := fun j hj g => nI_m6 (show j < 200 by omega) (((h1 j hj).2.2.1 g).symm.trans h6)
    refine ⟨fun j hj => ?_, ?_, Or.inr (by rw [t296]; exact hs2), fun i hi => ?_⟩
    · rw [t295]
      by_cases hjk : j = k
      · subst hjk; rw [ek, d1, d2, d3]; exact ⟨(h1 j hj).1, (h1 j hj).2.1, fun _ => rfl, fun _ => rfl⟩
      · rw [wv_eq (lj j hj hjk)]
        exact ⟨(h1 j hj).1, (h1 j hj).2.1, fun g => absurd g (hun j hj), fun g => absurd (nI_ij (by omega) (by omega) g).symm hjk⟩
    · have ew : wl t w = (wl s w).eraseIdx i := wl_erase hi1 (by rw [hi2, ek, d3]; decide) (by rw [hi2]; exact lj)
      unfold opA at h2 ⊢
      rw [ew, t295, if_neg (nI_m6 (by omega)), List.length_eraseIdx, if_pos hi1]
      rw [if_pos h6] at h2
      omega
    · have hlt := fb_lt hi (show 9 < 11 by decide)
      have e9 : t (fb i 9) = s (fb i 9) := by rw [← ht, upd_at, if_neg (by omega), upd_at, if_neg (by omega), upd_at, if_neg (by omega)]
      rw [e9, h4 i hi]
      refine congrArg nI (dlC_congr (fun j hj => ?_)).symm
      by_cases hjk : j = k
      · subst hjk; rw [ek, d3, hst]; omega
      · rw [wv_eq (lj j hj hjk)]
