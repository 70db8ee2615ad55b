theorem wv_eq {s t : Rw} {k : Nat} (h : t (95 + k) = s (95 + k)) : wv t k = wv s k := by unfold wv; rw [h]
theorem wv_new {s : Rw} {k v : Nat} (h : s (95 + k) = nI v) (hv : v < 1024) : wv s k = v := wv_of hv h
theorem OkW_wd {s t : Rw} {w k v : Nat} (h : OkW s w) (hv : v < 1024) (h94 : t 94 = s 94) (hk : t (95 + k) = nI v) (ho : ∀ j, j < w → j ≠ k → t (95 + j) = s (95 + j)) : OkW t w := by
  obtain ⟨h1, h2, h3⟩ := h
  refine ⟨h1, h94.trans h2, fun j hj => ?_⟩
  by_cases hjk : j = k
  · subst hjk
    have e := wv_of hv hk
    rw [e]
    exact ⟨hk, hv⟩
  · have e := wv_eq (ho j hj hjk)
    rw [e, ho j hj hjk]
    exact h3 j hj
/-- words that are not lost were hurt twice at most -/
def OkH (s : Rw) (w : Nat) : Prop := ∀ k, k < w → wv s k < 768 ∨ wv s k / 64 % 4 = 3
/-- the bus is free, or a word is on it -/
def OkB (s : Rw) (w : Nat) : Prop := s 295 = -6 ∨ ∃ k, k < w ∧ s 295 = nI k ∧ wv s k < 768
def OkS (s : Rw) (w : Nat) : Prop := OkW s w ∧ OkH s w ∧ OkB s w
theorem OkS_out {s t : Rw} {w : Nat} (h : OkS s w) (ht : ∀ x, 94 ≤ x → x < 296 → t x = s x) : OkS t w := by
  obtain ⟨h1, h2, h3⟩ := h
  have hw := h1.1
  have e : ∀ k, k < w → wv t k = wv s k := fun k hk => wv_eq (ht _ (by omega) (by omega))
  refine ⟨h1.same (ht 94 (by decide) (by decide)) (fun k hk => ht _ (by omega) (by omega)), fun k hk => ?_, ?_⟩
  · rw [e k hk]; exact h2 k hk
  · rcases h3 with h3 | ⟨k, hk, h4, h5⟩
    · exact Or.inl ((ht 295 (by decide) (by decide)).trans h3)
    · exact Or.inr ⟨k, hk, (ht 295 (by decide) (by decide)).trans h4, by rw [e k hk]; exact h5⟩
theorem OkS_fb {s : Rw} {w i k : Nat} {v : Int32} (h : OkS s w) (hi : i < 8) (hk : k < 11) : OkS (upd s (fb i k) v) w := OkS_out h (fun x hx _ => upd_fbx hi hk (by omega))
theorem lostF_wd {s : Rw} {k v j : Nat} (hj : j < 200) : lostF s k v (95 + j) = if j = k then nI (setSt v 3) else s (95 + j) := by
  unfold lostF
  rw [upd_at, if_neg (by omega), upd_at]
  by_cases hjk : j = k
  · subst hjk
    rw [if_pos rfl, if_pos rfl]
  · rw [if_neg (by omega), if_neg hjk, upd_at, if_neg (by omega)]
theorem lostF_bus {s : Rw} {k v : Nat} (hk : k < 200) : lostF s k v 295 = if s 295 = nI k then -6 else s 295 := by
  unfold lostF
  rw [upd_at, if_neg (by decide), upd_at, if_neg (by omega), upd_at, if_pos rfl]
theorem setSt_st {v t : Nat} (ht : t < 4) : setSt v t / 64 % 4 = t := by unfold setSt; omega
theorem OkS_lost {s : Rw} {w k : Nat} (h : OkS s w) (hk : k < w) : OkS (lostF s k (wv s k)) w := by
  obtain ⟨h1, h2, h3⟩ := h
  have h200 := h1.1
  have hlt := (h1.2.2 k hk).2
  have e : ∀ j, j < w → j ≠ k → wv (lostF s k (wv s k)) j = wv s j := fun j hj hjk => wv_eq (by rw [lostF_wd (by omega), if_neg hjk])
  have ek : wv (lostF s k (wv s k)) k = setSt (wv s k) 3 := wv_of (setSt_lt hlt (by decide)) (by rw [lostF_wd (by omega), if_pos rfl])
  refine ⟨h1.lost hk, fun j hj => ?_, ?_⟩
  · by_cases hjk : j = k
    · subst hjk; rw [ek]; exact Or.inr (setSt_st (by decide))
    · rw [e j hj hjk]; exact h2 j hj
  · unfold OkB
    rw [lostF_bus (by omega)]
    split
    · exact Or.inl rfl
    · next hne =>
      rcases h3 with h3 | ⟨j, hj, h4, h5⟩
      · exact Or.inl h3
      · have hjk : j ≠ k := fun q => hne (by rw [h4, q])
        exact Or.inr ⟨j, hj, h4, by rw [e j hj hjk]; exact h5⟩
theorem OkS_fgL {s : Rw} {w b : Nat} (h : OkS s w) : ∀ k, k ≤ w → OkS (fgL s b k) w := by
  intro k
  induction k with
  | zero => intro _; exact h
  | succ k ih =>
    intro hk
    have h1 := ih (by omega)
    unfold fgL
    split
    · exact h1
    · split
      · exact h1
      · exact OkS_lost h1 (by omega)
theorem OkS_fgF {s : Rw} {w i : Nat} (h : OkS s w) (hi : i < 8) : OkS (fgF s w i) w := by
  unfold fgF
  exact OkS_fb (OkS_fb (OkS_fb (OkS_fgL h w (Nat.le_refl _)) hi (by decide)) hi (by decide)) hi (by decide)
theorem OkS_grF {s : Rw} {w i : Nat} (h : OkS s w) (hi : i < 8) : OkS (grF s w i) w := by
  unfold grF
  (repeat' split) <;> first | exact h | exact OkS_fgF (OkS_fb h hi (by decide)) hi | exact OkS_fb (OkS_fb h hi (by decide)) hi (by decide) | exact OkS_fb h hi (by decide)
theorem OkS_grL {s : Rw} {w : Nat} (h : OkS s w) : ∀ k, k ≤ 8 → OkS (grL s w k) w := by
  intro k
  induction k with
  | zero => intro _; exact h
  | succ k ih =>
    intro hk
    exact OkS_grF (ih (by omega)) (by omega)
theorem dv768 : ∀ v, v < 768 → ¬ nI v + 256 = nI 0 ∧ (¬ nI (v + 256) / 256 = 3 → v + 256 < 768) := by decide +kernel
theorem OkS_srF {s : Rw} {w k : Nat} {p : Int32} (h : OkS s w) (hk : k < w) (hb : s 295 = nI k) (h768 : wv s k < 768) : OkS (srF s p k) w := by
  obtain ⟨h1, h2, h3⟩ := id h
  have h200 := h1.1
  have hv := (h1.2.2 k hk).1
  unfold srF
  split
  · split
    · have hx : wv s k % 8 < 8 := by omega
      have c : ∀ t : Rw, ∀ x v, 94 ≤ x → upd t (fb (wv s k % 8) 9) v x = t x := fun t x v hx2 => upd_fbx hx (by decide) (by omega)
      refine ⟨OkW_wd (k := k) (v := setSt (wv s k) 2) h1 (setSt_lt (by omega) (by decide)) ?_ ?_ (fun j hj hjk => ?_), fun j hj => ?_, Or.inl upd_same⟩
      · rw [upd_at, if_neg (by decide), c _ _ _ (by decide), upd_at, if_neg (by decide), upd_at, if_neg (by omega), upd_at, if_neg (by decide)]
      · rw [upd_at, if_neg (by omega), c _ _ _ (by omega), upd_at, if_neg (by omega), upd_same]
      · rw [upd_at, if_neg (by omega), c _ _ _ (by omega), upd_at, if_neg (by omega), upd_at, if_neg (by omega), upd_at, if_neg (by omega)]
      · by_cases hjk : j = k
        · subst hjk
          rw [wv_of (s := upd _ 295 _) (k := j) (v := setSt (wv s j) 2) (setSt_lt (by omega) (by decide)) (by rw [upd_at, if_neg (by omega), c _ _ _ (by omega), upd_at, if_neg (by omega), upd_same])]
          exact Or.inl (by unfold setSt; omega)
        · rw [wv_eq (s := s) (by rw [upd_at, if_neg (by omega), c _ _ _ (by omega), upd_at, if_neg (by omega), upd_at, if_neg (by omega), upd_at, if_neg (by omega)])]
          exact h2 j hj
    · exact OkS_out h (fun x hx hx2 => by rw [upd_at, if_neg (by omega)])
  · have c : OkW (upd (upd (upd s (95 + k) (nI (wv s k + 256))) 299 (s 299 + 1)) 296 (s 2)) w := OkW_wd (k := k) (v := wv s k + 256) h1 (by omega) (by rw [upd_at, if_neg (by decide), upd_at, if_neg (by decide), upd_at, if_neg (by omega)]) (by rw [upd_at, if_neg (by omega), upd_at, if_neg (by omega), upd_same]) (fun j hj hjk => by rw [upd_at, if_neg (by omega), upd_at, if_neg (by omega), upd_at, if_neg (by omega)])
    have ck : wv (upd (upd (upd s (95 + k) (nI (wv s k + 256))) 299 (s 299 + 1)) 296 (s 2)) k = wv s k + 256 := wv_of (by omega) (by rw [upd_at, if_neg (by omega), upd_at, if_neg (by omega), upd_same])
    have cj : ∀ j, j < w → j ≠ k → wv (upd (upd (upd s (95 + k) (nI (wv s k + 256))) 299 (s 299 + 1)) 296 (s 2)) j = wv s j := fun j hj hjk => wv_eq (by rw [upd_at, if_neg (by omega), upd_at, if_neg (by omega), upd_at, if_neg (by omega)])
    have cb : upd (upd (upd s (95 + k) (nI (wv s k + 256))) 299 (s 299 + 1)) 296 (s 2) 295 = nI k := by rw [upd_at, if_neg (by decide), upd_at, if_neg (by decide), upd_at, if_neg (by omega)]; exact hb
    split
    · generalize upd (upd (upd s (95 + k) (nI (wv s k + 256))) 299 (s 299 + 1)) 296 (s 2) = t at *
      rw [← ck]
      refine ⟨c.lost hk, fun j hj => ?_, Or.inl ?_⟩
      · by_cases hjk : j = k
        · subst hjk
          rw [wv_of (v := setSt (wv t j) 3) (setSt_lt (by omega) (show 3 < 4 by decide)) (by rw [lostF_wd (by omega), if_pos rfl])]
          exact Or.inr (setSt_st (by decide))
        · rw [wv_eq (s := t) (by rw [lostF_wd (by omega), if_neg hjk]), cj j hj hjk]
          exact h2 j hj
      · rw [lostF_bus (by omega), if_pos cb]
    · next h9 =>
      have h10 := (dv768 _ h768).2 h9
      refine ⟨c, fun j hj => ?_, Or.inr ⟨k, hk, cb, by rw [ck]; exact h10⟩⟩
      by_cases hjk : j = k
      · subst hjk; rw [ck]; exact Or.inl h10
      · rw [cj j hj hjk]; exact h2 j hj
theorem fRd_rdy {s : Rw} {n : Nat} : ∀ j, j ≤ n → fRd s n j = -6 ∨ ∃ k, k < n ∧ fRd s n j = nI k ∧ ¬ rdy s k = 0 := by
  intro j
  induction j with
  | zero => intro _; exact Or.inl rfl
  | succ j ih =>
    intro hj
    unfold fRd
    split
    · exact ih (by omega)
    · next h => exact Or.inr ⟨n - 1 - j, by omega, rfl, h⟩
theorem rdy_st {s : Rw} {k : Nat} (h : ¬ rdy s k = 0) : wv s k / 64 % 4 = 0 := by
  unfold rdy at h
  split at h
  · next h1 => exact (show ∀ x, x < 4 → nI x = 0 → x = 0 by decide) _ (by omega) h1
  · exact absurd rfl h
set_option maxRecDepth 100000 in
theorem nI_m6 {k : Nat} (h : k < 200) : ¬ nI k = -6 := (show ∀ k, k < 200 → ¬ nI k = -6 by decide) k h
theorem OkS_getF {s : Rw} {w : Nat} (h : OkS s w) : OkS (getF s w) w := by
  obtain ⟨h1, h2, h3⟩ := id h
  have h200 := h1.1
  rcases fRd_rdy (s := s) (n := w) w (Nat.le_refl _) with e | ⟨k, hk, e, hr⟩
  · unfold getF; rw [if_pos e]; exact h
  · unfold getF
    rw [e, if_neg (nI_m6 (by omega)), nI_cl (by omega)]
    have hst := rdy_st hr
    have hv : wv s k < 768 := by
      rcases h2 k hk with q | q
      · exact q
      · omega
    have hs : setSt (wv s k) 1 < 768 := by unfold setSt; omega
    have ck : wv (upd (upd (upd s 295 (nI k)) 296 (s 2)) (95 + k) (nI (setSt (wv s k) 1))) k = setSt (wv s k) 1 := wv_of (by omega) upd_same
    have cj : ∀ j, j < w → j ≠ k → upd (upd (upd s 295 (nI k)) 296 (s 2)) (95 + k) (nI (setSt (wv s k) 1)) (95 + j) = s (95 + j) := fun j hj hjk => by rw [upd_at, if_neg (by omega), upd_at, if_neg (by omega), upd_at, if_neg (by omega)]
    refine ⟨OkW_wd (k := k) (v := setSt (wv s k) 1) h1 (by omega) ?_ upd_same cj, fun j hj => ?_, Or.inr ⟨k, hk, ?_, by rw [ck]; exact hs⟩⟩
    · rw [upd_at, if_neg (by omega), upd_at, if_neg (by decide), upd_at, if_neg (by decide)]
    · by_cases hjk : j = k
      · subst hjk; rw [ck]; exact Or.inl hs
      · rw [wv_eq (cj j hj hjk)]; exact h2 j hj
    · rw [upd_at, if_neg (by omega), upd_at, if_neg (by decide), upd_same]
theorem srF_low {s : Rw} {p : Int32} {k x : Nat} (hx : x < 6) : srF s p k x = s x := by
  have c : ∀ t : Rw, ∀ v, upd t (fb (wv s k % 8) 9) v x = t x := fun t v => upd_fbx (by omega) (by decide) (by omega)
  unfold srF
  split
  · split
    · rw [upd_at, if_neg (by omega), c, upd_at, if_neg (by omega), upd_at, if_neg (by omega), upd_at, if_neg (by omega)]
    · rw [upd_at, if_neg (by omega)]
  · split
    · rw [lostF_low (by omega), upd_at, if_neg (by omega), upd_at, if_neg (by omega), upd_at, if_neg (by omega)]
    · rw [upd_at, if_neg (by omega), upd_at, if_neg (by omega), upd_at, if_neg (by omega)]
theorem getF_low {s : Rw} {w x : Nat} (hx : x < 94) : getF s w x = s x := by
  unfold getF
  split
  · rfl
  · rw [upd_at, if_neg (by omega), upd_at, if_neg (by omega), upd_at, if_neg (by omega)]
/-- a tick's rows one behind the other: t1 the plug counted, t3 the power, t4 the greeting, t5 the serving, t6 the bus taken, tkF the time -/
def tkB (t : Rw) (p : Int32) : Rw := upd t 298 (if p = 0 then t 298 + 0 else t 298 + 1)
def tkD (t : Rw) (p : Int32) (n w : Nat) : Rw := grL (pwL (tkB t p) n 5) w n
def tkE (r : Rw) (p : Int32) : Rw := if r 295 = -6 then r else srF r p (r 295).toNatClampNeg
def tkG (r : Rw) (n w : Nat) : Rw := if r 295 = -6 then (if isH r n = 0 then getF r w else r) else r
def tkH (r : Rw) (n w : Nat) : Rw := upd (tkG r n w) 297 (tkG r n w 297 + 1)
def tkF (s : Rw) (n w : Nat) : Rw := tkH (tkE (tkD (mvL s n 5) (pgL s n 5) n w) (pgL s n 5)) n w
theorem tkB_out {t : Rw} {p : Int32} {x : Nat} (h : x ≠ 298) : tkB t p x = t x := by unfold tkB; rw [upd_at, if_neg h]
theorem tkD_ok {t : Rw} {p : Int32} {n w : Nat} (h : OkS t w) (hn8 : n ≤ 8) : OkS (tkD t p n w) w ∧ ∀ x, x < 6 → tkD t p n w x = t x := by
  have h1 : OkS (pwL (tkB t p) n 5) w := OkS_out h (fun x hx hx2 => by rw [pwL_out (by omega) hn8, tkB_out (by omega)])
  refine ⟨OkS_grL h1 n hn8, fun x hx => ?_⟩
  unfold tkD
  rw [(grL_ok h1.1 n hn8).2 x hx, pwL_out (by omega) hn8, tkB_out (by omega)]
theorem tkE_ok {t : Rw} {p : Int32} {w : Nat} (h : OkS t w) : OkS (tkE t p) w ∧ ∀ x, x < 6 → tkE t p x = t x := by
  unfold tkE
  split
  · exact ⟨h, fun _ _ => rfl⟩
  · next hb =>
    rcases h.2.2 with q | ⟨k, hk, h4, h5⟩
    · exact absurd q hb
    · have h200 := h.1.1
      rw [h4, nI_cl (by omega)]
      exact ⟨OkS_srF h hk h4 h5, fun x hx => srF_low hx⟩
theorem tkG_ok {t : Rw} {n w : Nat} (h : OkS t w) : OkS (tkG t n w) w ∧ ∀ x, x < 94 → tkG t n w x = t x := by
  unfold tkG
  split
  · split
    · exact ⟨OkS_getF h, fun x hx => getF_low hx⟩
    · exact ⟨h, fun _ _ => rfl⟩
  · exact ⟨h, fun _ _ => rfl⟩
theorem tkF_ok {s : Rw} {n w : Nat} (h : OkS s w) (hn8 : n ≤ 8) : OkS (tkF s n w) w ∧ ∀ x, x < 6 → tkF s n w x = s x := by
  have h1 : OkS (mvL s n 5) w := OkS_out h (fun x hx hx2 => mvL_out (by omega) hn8 5)
  have h2 := tkD_ok (p := pgL s n 5) (n := n) h1 hn8
  have h3 := tkE_ok (p := pgL s n 5) h2.1
  have h4 := tkG_ok (n := n) h3.1
  unfold tkF tkH
  refine ⟨OkS_out h4.1 (fun x hx hx2 => by rw [upd_at, if_neg (by omega)]), fun x hx => ?_⟩
  rw [upd_at, if_neg (by omega), h4.2 x (by omega), h3.2 x hx, h2.2 x hx, mvL_out (by omega) hn8]
set_option maxRecDepth 100000 in
set_option maxHeartbeats 4000000 in
theorem tkEnd {X : jX} {ad : Nat → Nat} {m : Mem} {s : Rw} {n w : Nat} {a b : Int32} (hn : s 5 = nI n) (hn8 : n ≤ 8) (hW : OkW s w) : Jg X RX6 cX6_tick 5 (none) "tick" 5 0 0 (QF X ad (fun v m9 => v = none ∧ m9 = SM m (tkH s n w))) ad 0 0 150 [(0, .ref 195), (1, .int a), (2, .int (b))] [] (WS X ad (SM m (s))) := by
  refine J_aload_n dX6_tick_150 rfl rfl ?_
  refine gX6_s wf_X6_7 dX6_tick_151 ?_
  refine J_sipush (v := 295) dX6_tick_154 (by decide) ?_
  refine rd_s 295 (by decide) (by decide) dX6_tick_157 ?_
  refine J_bipush (v := -6) dX6_tick_158 (by decide) ?_
  refine J_icmp_ne (tgt := 174) dX6_tick_160 (by decide) (fun h160 => ?_) (fun h160 => ?_)
  · refine J_aload_n dX6_tick_174 rfl rfl ?_
    refine gX6_s wf_X6_7 dX6_tick_175 ?_
    refine J_sipush (v := 297) dX6_tick_178 (by decide) ?_
    refine J_dup2 dX6_tick_181 rfl rfl ?_
    refine rd_s 297 (by decide) (by decide) dX6_tick_182 ?_
    refine J_iconst (v := 1) dX6_tick_183 (by decide) ?_
    refine J_iadd dX6_tick_184 ?_
    refine wr_s 297 (by decide) (by decide) dX6_tick_185 ?_
    refine r_void dX6_tick_186 ?_
    exact ⟨rfl, by first | (simp only [tkH, tkG, h160, reduceIte]; done) | (simp only [tkH, tkG, h160, h167, reduceIte]; done)⟩
  · refine J_aload_n dX6_tick_163 rfl rfl ?_
    refine cVi wv_X6_92 (c_X6_isHeld (n := n) hn hn8) dX6_tick_164 ob6 rfl rfl (kk := ?_)
    refine J_if_ne (tgt := 174) dX6_tick_167 (by decide) (fun h167 => ?_) (fun h167 => ?_)
    · refine J_aload_n dX6_tick_174 rfl rfl ?_
      refine gX6_s wf_X6_7 dX6_tick_175 ?_
      refine J_sipush (v := 297) dX6_tick_178 (by decide) ?_
      refine J_dup2 dX6_tick_181 rfl rfl ?_
      refine rd_s 297 (by decide) (by decide) dX6_tick_182 ?_
      refine J_iconst (v := 1) dX6_tick_183 (by decide) ?_
      refine J_iadd dX6_tick_184 ?_
      refine wr_s 297 (by decide) (by decide) dX6_tick_185 ?_
      refine r_void dX6_tick_186 ?_
      exact ⟨rfl, by first | (simp only [tkH, tkG, h160, reduceIte]; done) | (simp only [tkH, tkG, h160, h167, reduceIte]; done)⟩
    · refine J_aload_n dX6_tick_170 rfl rfl ?_
      refine cVv wv_X6_96 (c_X6_getsOn (n := w) hW) dX6_tick_171 ob6 rfl rfl (kk := ?_)
      refine J_aload_n dX6_tick_174 rfl rfl ?_
      refine gX6_s wf_X6_7 dX6_tick_175 ?_
      refine J_sipush (v := 297) dX6_tick_178 (by decide) ?_
      refine J_dup2 dX6_tick_181 rfl rfl ?_
      refine rd_s 297 (by decide) (by decide) dX6_tick_182 ?_
      refine J_iconst (v := 1) dX6_tick_183 (by decide) ?_
      refine J_iadd dX6_tick_184 ?_
      refine wr_s 297 (by decide) (by decide) dX6_tick_185 ?_
      refine r_void dX6_tick_186 ?_
      exact ⟨rfl, by first | (simp only [tkH, tkG, h160, reduceIte]; done) | (simp only [tkH, tkG, h160, h167, reduceIte]; done)⟩

set_option maxRecDepth 100000 in
set_option maxHeartbeats 4000000 in
theorem tkServe0 {X : jX} {ad : Nat → Nat} {m : Mem} {s : Rw} {n w : Nat} {a b : Int32} (hn : s 5 = nI n) (hn8 : n ≤ 8) (hS : OkS s w) (hb : s 295 = -6) : Jg X RX6 cX6_tick 5 (none) "tick" 5 0 0 (QF X ad (fun v m9 => v = none ∧ m9 = SM m (tkH (tkE s a) n w))) ad 0 0 145 [(0, .ref 195), (1, .int a), (2, .int (b))] [] (WS X ad (SM m (s))) := by
  rw [show tkE s a = s by unfold tkE; rw [if_pos hb]]
  refine J_aload_n dX6_tick_145 rfl rfl ?_
  refine J_iload_n dX6_tick_146 rfl rfl ?_
  refine cVv wv_X6_88 (c_serves0 (p := a) hb) dX6_tick_147 ob6 rfl rfl (kk := ?_)
  exact tkEnd hn hn8 hS.1

set_option maxRecDepth 100000 in
set_option maxHeartbeats 4000000 in
theorem tkServe1 {X : jX} {ad : Nat → Nat} {m : Mem} {s : Rw} {n w k : Nat} {a b : Int32} (hn : s 5 = nI n) (hn8 : n ≤ 8) (hS : OkS s w) (hk : k < w) (hb : s 295 = nI k) (h768 : wv s k < 768) : Jg X RX6 cX6_tick 5 (none) "tick" 5 0 0 (QF X ad (fun v m9 => v = none ∧ m9 = SM m (tkH (tkE s a) n w))) ad 0 0 145 [(0, .ref 195), (1, .int a), (2, .int (b))] [] (WS X ad (SM m (s))) := by
  have h200 := hS.1.1
  rw [show tkE s a = srF s a k by unfold tkE; rw [hb, if_neg (nI_m6 (by omega)), nI_cl (by omega)]]
  refine J_aload_n dX6_tick_145 rfl rfl ?_
  refine J_iload_n dX6_tick_146 rfl rfl ?_
  refine cVv wv_X6_88 (c_serves1 (p := a) (n := w) (k := k) hS.1 hk hb h768) dX6_tick_147 ob6 rfl rfl (kk := ?_)
  exact tkEnd ((srF_low (by decide)).trans hn) hn8 (OkS_srF hS hk hb h768).1

set_option maxRecDepth 100000 in
set_option maxHeartbeats 4000000 in
theorem tkMid {X : jX} {ad : Nat → Nat} {m : Mem} {fin : Option Value → Mem → Prop} {s : Rw} {a b : Int32} (kk : Jg X RX6 cX6_tick 5 (none) "tick" 5 0 0 (QF X ad fin) ad 0 0 124 [(0, .ref 195), (1, .int a), (2, .int (nI 0))] [] (WS X ad (SM m (s)))) : Jg X RX6 cX6_tick 5 (none) "tick" 5 0 0 (QF X ad fin) ad 0 0 122 [(0, .ref 195), (1, .int a), (2, .int (b))] [] (WS X ad (SM m (s))) := by
  refine J_iconst (v := 0) dX6_tick_122 (by decide) ?_
  refine J_istore_n dX6_tick_123 rfl rfl rfl ?_
  exact kk

set_option maxRecDepth 100000 in
set_option maxHeartbeats 4000000 in
theorem tkPlug {X : jX} {ad : Nat → Nat} {m : Mem} {fin : Option Value → Mem → Prop} {s : Rw} {a b : Int32} (kk : Jg X RX6 cX6_tick 5 (none) "tick" 5 0 0 (QF X ad fin) ad 0 0 92 [(0, .ref 195), (1, .int a), (2, .int (nI 0))] [] (WS X ad (SM m (tkB s a)))) : Jg X RX6 cX6_tick 5 (none) "tick" 5 0 0 (QF X ad fin) ad 0 0 70 [(0, .ref 195), (1, .int a), (2, .int (b))] [] (WS X ad (SM m (s))) := by
  refine J_aload_n dX6_tick_70 rfl rfl ?_
  refine gX6_s wf_X6_7 dX6_tick_71 ?_
  refine J_sipush (v := 298) dX6_tick_74 (by decide) ?_
  refine J_dup2 dX6_tick_77 rfl rfl ?_
  refine rd_s 298 (by decide) (by decide) dX6_tick_78 ?_
  refine J_iload_n dX6_tick_79 rfl rfl ?_
  refine J_if_eq (tgt := 87) dX6_tick_80 (by decide) (fun h80 => ?_) (fun h80 => ?_)
  · refine J_iconst (v := 0) dX6_tick_87 (by decide) ?_
    refine J_iadd dX6_tick_88 ?_
    refine wr_s 298 (by decide) (by decide) dX6_tick_89 ?_
    refine J_iconst (v := 0) dX6_tick_90 (by decide) ?_
    refine J_istore_n dX6_tick_91 rfl rfl rfl ?_
    refine J_ws (ws' := WS X ad (SM m (tkB s a))) (by first | (simp only [tkB, h80, reduceIte]; done)) ?_
    exact kk
  · refine J_iconst (v := 1) dX6_tick_83 (by decide) ?_
    refine J_goto (tgt := 88) dX6_tick_84 (by decide) ?_
    refine J_iadd dX6_tick_88 ?_
    refine wr_s 298 (by decide) (by decide) dX6_tick_89 ?_
    refine J_iconst (v := 0) dX6_tick_90 (by decide) ?_
    refine J_istore_n dX6_tick_91 rfl rfl rfl ?_
    refine J_ws (ws' := WS X ad (SM m (tkB s a))) (by first | (simp only [tkB, h80, reduceIte]; done)) ?_
    exact kk

theorem tkAll {X : jX} {ad : Nat → Nat} {m : Mem} {s : Rw} {n w : Nat} {a b : Int32} (hn : s 5 = nI n) (hn8 : n ≤ 8) (hS : OkS s w) : Jg X RX6 cX6_tick 5 (none) "tick" 5 0 0 (QF X ad (fun v m9 => v = none ∧ m9 = SM m (tkH (tkE (tkD s a n w) a) n w))) ad 0 0 70 [(0, .ref 195), (1, .int a), (2, .int (b))] [] (WS X ad (SM m (s))) := by
  have hnB : tkB s a 5 = nI n := (tkB_out (by decide)).trans hn
  have hSC : OkS (pwL (tkB s a) n 5) w := OkS_out hS (fun x hx hx2 => by rw [pwL_out (by omega) hn8, tkB_out (by omega)])
  have hnC : pwL (tkB s a) n 5 5 = nI n := (pwL_out (by omega) hn8 5).trans hnB
  have hD := tkD_ok (p := a) (n := n) hS hn8
  refine tkPlug (tkPower hnB hn8 (tkMid (tkGreet hSC.1 hnC hn8 ?_ n 0 (by omega))) 5 0 (by omega))
  rcases hD.1.2.2 with hb | ⟨k, hk, hb, h7⟩
  · exact tkServe0 ((hD.2 5 (by decide)).trans hn) hn8 hD.1 hb
  · exact tkServe1 ((hD.2 5 (by decide)).trans hn) hn8 hD.1 hk hb h7
set_option maxRecDepth 100000 in
set_option maxHeartbeats 4000000 in
theorem c_X6_tick {X : jX} {ad : Nat → Nat} {m : Mem} {s : Rw} {n w : Nat} (hn : s 5 = nI n) (hn8 : n ≤ 8) (hS : OkS s w) : Cd X yX6_tick cX6_tick 5 (none) 5 ad [.ref 195] (SM m s) none (SM m (tkF s n w)) := by
  refine Cm.of (own := RX6) (nm := "tick") (by decide +kernel) rfl rfl rfl rfl ?_
  refine J_iconst (v := 0) dX6_tick_0 (by decide) ?_
  refine J_istore_n dX6_tick_1 rfl rfl rfl ?_
  refine J_iconst (v := 0) dX6_tick_2 (by decide) ?_
  refine J_istore_n dX6_tick_3 rfl rfl rfl ?_
  exact tkMove hn hn8 (tkAll ((mvL_out (by decide) hn8 5).trans hn) hn8 (OkS_out hS (fun x hx hx2 => mvL_out (by omega) hn8 5))) 5 0 (by omega)

