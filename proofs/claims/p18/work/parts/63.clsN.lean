/-- a row as both systems need it -/
def Rv (s : Rw) (n w : Nat) : Prop := Ra s n w ∧ (∀ i, i < n → Bf s i) ∧ Sg s ∧ Iw s n w
/-- a block shows a row -/
def Rep (B : Mem) (s : Rw) (n w : Nat) : Prop := RpB B s n ∧ RpW B s w ∧ B 0 4 = s 297 ∧ B 0 5 = s 298
/-- the rows of a tick one behind the other, and what holds of each -/
def r1 (s : Rw) (n : Nat) : Rw := mvL s n 5
def r2 (s : Rw) (n : Nat) : Rw := pwL (tkB (r1 s n) (pgL s n 5)) n 5
def r3 (s : Rw) (n w : Nat) : Rw := grL (r2 s n) w n
def r4 (s : Rw) (n w : Nat) : Rw := tkE (r3 s n w) (pgL s n 5)
def r5 (s : Rw) (n w : Nat) : Rw := tkG (r4 s n w) n w
theorem tkF_r {s : Rw} {n w : Nat} : tkF s n w = upd (r5 s n w) 297 (r5 s n w 297 + 1) := rfl
section TK
variable {s : Rw} {n w : Nat}
theorem tk_1 (h : Rv s n w) : OkS (r1 s n) w ∧ Iw (r1 s n) n w ∧ (∀ i, i < n → Bf (r1 s n) i) ∧ Sg (r1 s n) ∧ OkM (r1 s n) n ∧ r1 s n 5 = nI n ∧ ∀ x, 94 ≤ x → r1 s n x = s x := by
  obtain ⟨⟨hn8, hn, hS, hM, hZ⟩, hf, hg, hI⟩ := h
  have o : ∀ x, x < 6 ∨ 94 ≤ x → r1 s n x = s x := fun x hx => mvL_out hx hn8 5
  have h9 : ∀ i, i < 8 → r1 s n (fb i 9) = s (fb i 9) := by
    intro i hi
    have : ∀ k, mvL s n k (fb i 9) = s (fb i 9) := by
      intro k
      induction k with
      | zero => rfl
      | succ k ih =>
        rcases bI_or (s := mvL s n k) (x := nI k) n with hb | ⟨q, hq, hb⟩
        · rw [(mvL_none hb).1]; exact ih
        · rw [(mvL_some (by omega) hb).1]
          split
          · exact ih
          · by_cases e : i = q
            · subst e; rw [goF_k (by decide) (by decide)]; exact ih
            · rw [goF_j (by decide) e]; exact ih
    exact this 5
  exact ⟨OkS_out hS (fun x hx _ => o x (Or.inr hx)), Iw_out hI hS.1.1 (fun x hx _ => o x (Or.inr hx)) h9, fun i hi => Bf_mv (hf i hi) 5, Sg_same hg (fun k hk => o k (Or.inl (by omega))), OkM_mv hM hn8 5 (Nat.le_refl _), (o 5 (Or.inl (by decide))).trans hn, fun x hx => o x (Or.inr hx)⟩
theorem tk_2 (h : Rv s n w) : OkS (r2 s n) w ∧ Iw (r2 s n) n w ∧ (∀ i, i < n → Bf (r2 s n) i) ∧ Sg (r2 s n) ∧ OkM (r2 s n) n ∧ r2 s n 5 = nI n ∧ ∀ x, 94 ≤ x → x ≠ 298 → r2 s n x = s x := by
  have hn8 := h.1.1
  obtain ⟨hS, hI, hf, hg, hM, hn, ho⟩ := tk_1 h
  have o : ∀ x, (x < 6 ∨ 94 ≤ x) → x ≠ 298 → r2 s n x = r1 s n x := fun x hx h2 => (pwL_out hx hn8 5).trans (tkB_out h2)
  have of : ∀ i l, i < 8 → l < 11 → l ≠ 5 → r2 s n (fb i l) = r1 s n (fb i l) := fun i l hi hl h5 => (pwL_fld hn8 hl h5 5).trans (tkB_out (by have := fb_lt hi hl; omega))
  have hfB : ∀ i, i < n → Bf (tkB (r1 s n) (pgL s n 5)) i := fun i hi => Bf_same (hf i hi) (tkB_out (by have := fb_lt (show i < 8 by omega) (show 5 < 11 by decide); omega)) (tkB_out (by have := fb_lt (show i < 8 by omega) (show 6 < 11 by decide); omega)) (tkB_out (by have := fb_lt (show i < 8 by omega) (show 7 < 11 by decide); omega))
  have hgB : Sg (tkB (r1 s n) (pgL s n 5)) := Sg_same hg (fun k hk => tkB_out (by omega))
  exact ⟨OkS_out hS (fun x hx h2 => o x (Or.inr hx) (by omega)), Iw_out hI hS.1.1 (fun x hx h2 => o x (Or.inr hx) (by omega)) (fun i hi => of i 9 hi (by decide) (by decide)), fun i hi => Bf_pw (hfB i hi) hgB hn8 5, Sg_same hg (fun k hk => o k (Or.inl (by omega)) (by omega)), OkM_same hM (fun i l hi hl => of i l (by omega) (by omega) (by omega)), (o 5 (Or.inl (by decide)) (by decide)).trans hn, fun x hx h2 => (o x (Or.inr hx) h2).trans (ho x hx)⟩
theorem tk_3 (h : Rv s n w) : OkS (r3 s n w) w ∧ Iw (r3 s n w) n w ∧ (∀ i, i < n → Bf (r3 s n w) i) ∧ Sg (r3 s n w) ∧ OkM (r3 s n w) n ∧ r3 s n w 5 = nI n := by
  have hn8 := h.1.1
  obtain ⟨hS, hI, hf, hg, hM, hn, ho⟩ := tk_2 h
  have o := (grL_ok hS.1 n hn8).2
  exact ⟨OkS_grL hS n hn8, Iw_grL hS hI n hn8, fun i hi => Bf_grL hS.1.1 (by omega) (hf i hi) n hn8, Sg_same hg (fun k hk => o k (by omega)), OkM_same hM (fun i l hi hl => grL_fld (by omega) (by omega) (by omega) n), (o 5 (by decide)).trans hn⟩
theorem tk_4 (h : Rv s n w) : OkS (r4 s n w) w ∧ Iw (r4 s n w) n w ∧ (∀ i, i < n → Bf (r4 s n w) i) ∧ Sg (r4 s n w) ∧ OkM (r4 s n w) n ∧ r4 s n w 5 = nI n := by
  have hn8 := h.1.1
  obtain ⟨hS, hI, hf, hg, hM, hn⟩ := tk_3 h
  have h1 := tkE_ok (p := pgL s n 5) hS
  have of : ∀ i l, i < 8 → l < 11 → l ≠ 9 → r4 s n w (fb i l) = r3 s n w (fb i l) := fun i l hi hl h9 => tkE_fld hi hl h9
  refine ⟨h1.1, ?_, fun i hi => Bf_same (hf i hi) (of i 5 (by omega) (by decide) (by decide)) (of i 6 (by omega) (by decide) (by decide)) (of i 7 (by omega) (by decide) (by decide)), Sg_same hg (fun k hk => h1.2 k (by omega)), OkM_same hM (fun i l hi hl => of i l (by omega) (by omega) (by omega)), (h1.2 5 (by decide)).trans hn⟩
  unfold r4 tkE
  split
  · exact hI
  · next hb =>
    rcases hS.2.2 with q | ⟨k, hk, h4, h5⟩
    · exact absurd q hb
    · have h200 := hS.1.1
      rw [h4, nI_cl (by omega)]
      exact Iw_srF hS.1 hI hn8 hk h4 h5 hg.2.2.1
theorem tk_5 (h : Rv s n w) : OkS (r5 s n w) w ∧ Iw (r5 s n w) n w ∧ (∀ i, i < n → Bf (r5 s n w) i) ∧ Sg (r5 s n w) ∧ OkM (r5 s n w) n ∧ r5 s n w 5 = nI n := by
  have hn8 := h.1.1
  obtain ⟨hS, hI, hf, hg, hM, hn⟩ := tk_4 h
  have h1 := tkG_ok (n := n) hS
  have of : ∀ i l, i < 8 → l < 11 → r5 s n w (fb i l) = r4 s n w (fb i l) := fun i l hi hl => tkG_fld hi hl
  refine ⟨h1.1, ?_, fun i hi => Bf_same (hf i hi) (of i 5 (by omega) (by decide)) (of i 6 (by omega) (by decide)) (of i 7 (by omega) (by decide)), Sg_same hg (fun k hk => h1.2 k (by omega)), OkM_same hM (fun i l hi hl => of i l (by omega) (by omega)), (h1.2 5 (by decide)).trans hn⟩
  unfold r5 tkG
  split
  · next h6 =>
    split
    · exact Iw_getF hS.1 hI h6 hg.2.2.1
    · exact hI
  · exact hI
/-- a tick keeps all -/
theorem Rv_tk (h : Rv s n w) : Rv (tkF s n w) n w := by
  obtain ⟨hS, hI, hf, hg, hM, hn⟩ := tk_5 h
  have hw := hS.1.1
  have o : ∀ x, x ≠ 297 → tkF s n w x = r5 s n w x := fun x hx => by rw [tkF_r, upd_at, if_neg hx]
  have ofb : ∀ i l, i < 8 → l < 11 → tkF s n w (fb i l) = r5 s n w (fb i l) := fun i l hi hl => o _ (by have := fb_lt hi hl; omega)
  have hn8 := h.1.1
  exact ⟨Ra_tk h.1, fun i hi => Bf_same (hf i hi) (ofb i 5 (by omega) (by decide)) (ofb i 6 (by omega) (by decide)) (ofb i 7 (by omega) (by decide)), Sg_same hg (fun k hk => o k (by omega)), Iw_out hI hw (fun x hx h2 => o x (by omega)) (fun i hi => ofb i 9 hi (by decide))⟩
theorem Rv_tks (h : Rv s n w) : ∀ k, Rv (tks s n w k) n w := by
  intro k
  induction k with
  | zero => exact h
  | succ k ih => exact Rv_tk ih
end TK
theorem RpB_fr {B C : Mem} {s : Rw} {n : Nat} (h : RpB B s n) (hn : n ≤ 8) (he : ∀ r, r < 11 → C r = B r) : RpB C s n := RpB_blk h hn (by rw [he 0 (by decide)]) (fun r _ hr => he r hr)
theorem srF_94 {s : Rw} {p : Int32} {k x : Nat} (hx : x < 94) (h9 : ∀ i, i < 8 → x ≠ fb i 9) : srF s p k x = s x := by
  have c : ∀ t : Rw, ∀ v, upd t (fb (wv s k % 8) 9) v x = t x := fun t v => by rw [upd_at, if_neg (h9 _ (by omega))]
  unfold srF
  split
  · split
    · rw [upd_at, if_neg (by omega), c, upd_at, if_neg (by omega), upd_at, if_neg (by omega), upd_at, if_neg (by omega)]
    · rw [upd_at, if_neg (by omega)]
  · split
    · rw [lostF_low (by omega), upd_at, if_neg (by omega), upd_at, if_neg (by omega), upd_at, if_neg (by omega)]
    · rw [upd_at, if_neg (by omega), upd_at, if_neg (by omega), upd_at, if_neg (by omega)]
theorem srF_297 {s : Rw} {p : Int32} {k x : Nat} (hk : k < 200) (hx : x = 297 ∨ x = 298) : srF s p k x = s x := by
  have c : ∀ t : Rw, ∀ v, upd t (fb (wv s k % 8) 9) v x = t x := fun t v => upd_fbx (by omega) (by decide) (by omega)
  unfold srF
  split
  · split
    · rw [upd_at, if_neg (by omega), c, upd_at, if_neg (by omega), upd_at, if_neg (by omega), upd_at, if_neg (by omega)]
    · rw [upd_at, if_neg (by omega)]
  · split
    · unfold lostF
      rw [upd_at, if_neg (by omega), upd_at, if_neg (by omega), upd_at, if_neg (by omega), upd_at, if_neg (by omega), upd_at, if_neg (by omega), upd_at, if_neg (by omega)]
    · rw [upd_at, if_neg (by omega), upd_at, if_neg (by omega), upd_at, if_neg (by omega)]
theorem getF_297 {s : Rw} {w x : Nat} (hw : w ≤ 200) (hx : x = 297 ∨ x = 298) : getF s w x = s x := by
  rcases fRd_or (s := s) (n := w) w (Nat.le_refl _) with e | ⟨k, hk, e⟩
  · unfold getF; rw [if_pos e]
  · unfold getF
    rw [e, if_neg (nI_m6 (by omega)), nI_cl (by omega), upd_at, if_neg (by omega), upd_at, if_neg (by omega), upd_at, if_neg (by omega)]
theorem fb_9 {i k j : Nat} (hk : k < 11) (h9 : k ≠ 9) : fb i k ≠ fb j 9 := by
  intro h
  rw [fb_inj hk (by decide)] at h
  exact h9 h.2
theorem fb_ge {i k : Nat} : 6 ≤ fb i k := by unfold fb; omega
/-- the block's bus part has served; its other part is as it was -/
theorem RpB_sr {B C : Mem} {s t : Rw} {n : Nat} (h : RpB B s n) (hn : n ≤ 8) (he : ∀ r, r < 11 → C r = B r) (ht : ∀ x, x < 94 → (∀ i, i < 8 → x ≠ fb i 9) → t x = s x) : RpB C t n :=
  RpB_row (RpB_fr h hn he) (fun k hk => ht k (by omega) (fun i _ => by have := fb_ge (i := i) (k := 9); omega)) (fun i k hi hk h9 => ht _ (fb_lt (by omega) hk) (fun j _ => fb_9 hk h9))
