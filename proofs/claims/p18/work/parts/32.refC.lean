/-- a word's number -/
def wv (s : Rw) (k : Nat) : Nat := (s (95 + k)).toNatClampNeg
/-- the words of a row are numbers as they should be -/
def OkW (s : Rw) (n : Nat) : Prop := n ≤ 200 ∧ s 94 = nI n ∧ ∀ k, k < n → s (95 + k) = nI (wv s k) ∧ wv s k < 1024
theorem wv_of {s : Rw} {k v : Nat} (hv : v < 1024) (h : s (95 + k) = nI v) : wv s k = v := by
  unfold wv
  rw [h, nI_cl (by omega)]
theorem setSt_lt {v t : Nat} (hv : v < 1024) (ht : t < 4) : setSt v t < 1024 := by unfold setSt; omega
theorem OkW.lost {s : Rw} {n k : Nat} (h : OkW s n) (hk : k < n) : OkW (lostF s k (wv s k)) n := by
  obtain ⟨h1, h2, h3⟩ := h
  have hlt := setSt_lt (h3 k hk).2 (show 3 < 4 by decide)
  refine ⟨h1, ?_, fun j hj => ?_⟩
  · unfold lostF
    rw [upd_at, if_neg (by decide), upd_at, if_neg (by omega), upd_at, if_neg (by decide)]
    exact h2
  · have hc : lostF s k (wv s k) (95 + j) = if j = k then nI (setSt (wv s k) 3) else s (95 + j) := by
      unfold lostF
      rw [upd_at, if_neg (by omega), upd_at]
      by_cases hjk : j = k
      · subst hjk
        rw [if_pos rfl, if_pos rfl]
      · rw [if_neg (by omega), if_neg hjk, upd_at, if_neg (by omega)]
    by_cases hjk : j = k
    · rw [if_pos hjk] at hc
      have := wv_of hlt hc
      rw [this]
      exact ⟨hc, hlt⟩
    · rw [if_neg hjk] at hc
      have e := wv_of (h3 j hj).2 (hc.trans (h3 j hj).1)
      rw [e]
      exact ⟨hc.trans (h3 j hj).1, (h3 j hj).2⟩
/-- the row after a board's words are lost, from the first k words -/
def fgL (s : Rw) (b : Nat) : Nat → Rw
  | 0 => s
  | k + 1 => if iG (wv (fgL s b k) k) = 0 then fgL s b k else if iO (wv (fgL s b k) k) b = 0 then fgL s b k else lostF (fgL s b k) k (wv (fgL s b k) k)
theorem OkW.fg {s : Rw} {n b : Nat} (h : OkW s n) : ∀ k, k ≤ n → OkW (fgL s b k) n := by
  intro k
  induction k with
  | zero => intro _; exact h
  | succ k ih =>
    intro hk
    have h1 := ih (by omega)
    unfold fgL
    split
    · exact h1
    · split
      · exact h1
      · exact h1.lost (by omega)
def goN (s : Rw) : Nat → Int32
  | 0 => 0
  | k + 1 => if iG (wv s k) = 0 then goN s k + 0 else goN s k + 1
def goO (s : Rw) (b : Nat) : Nat → Int32
  | 0 => 0
  | k + 1 => if iG (wv s k) = 0 then goO s b k + 0 else if iO (wv s k) b = 0 then goO s b k + 0 else goO s b k + 1
set_option maxRecDepth 100000 in
set_option maxHeartbeats 4000000 in
theorem goingN {X : jX} {ad : Nat → Nat} {m : Mem} {s : Rw} {n : Nat} (hW : OkW s n) : ∀ (j i : Nat) (a : Int32), i + j = n → a = goN s i → Jg X RX6 cX6_going 4 (some .int) "going" 2 0 0 (QF X ad (fun v m9 => v = some (.int (goN s n)) ∧ m9 = (SM m s))) ad 0 0 4 [(0, .ref 195), (1, .int (-6)), (2, .int a), (3, .int (nI i))] [] (WS X ad (SM m s)) := by
  obtain ⟨h200, hn, hw⟩ := id hW
  intro j
  induction j with
  | zero =>
    intro i a hi ha
    obtain rfl : i = n := by omega
    refine J_iload_n dX6_going_4 rfl rfl ?_
    refine J_aload_n dX6_going_5 rfl rfl ?_
    refine gX6_s wf_X6_7 dX6_going_6 ?_
    refine J_bipush (v := 94) dX6_going_9 (by decide) ?_
    refine rd_s 94 (by decide) (by decide) dX6_going_11 ?_
    refine J_topi (fun z9 hz9 => ?_)
    obtain rfl : z9 = (nI i) := hz9.trans (by exact hn)
    clear hz9
    refine J_icmp_ge (tgt := 52) dX6_going_12 (by decide) (fun h12 => ?_) (fun h12 => absurd (nI_le1 (Nat.le_refl _) (by omega)) h12)
    refine J_iload_n dX6_going_52 rfl rfl ?_
    refine r_int dX6_going_53 ?_
    exact ⟨by rw [ha], rfl⟩
  | succ j ih =>
    intro i a hi ha
    have hk : i < 200 := by omega
    obtain ⟨hv, hv2⟩ := hw i (by omega)
    refine J_iload_n dX6_going_4 rfl rfl ?_
    refine J_aload_n dX6_going_5 rfl rfl ?_
    refine gX6_s wf_X6_7 dX6_going_6 ?_
    refine J_bipush (v := 94) dX6_going_9 (by decide) ?_
    refine rd_s 94 (by decide) (by decide) dX6_going_11 ?_
    refine J_topi (fun z9 hz9 => ?_)
    obtain rfl : z9 = (nI n) := hz9.trans (by exact hn)
    clear hz9
    refine J_icmp_ge (tgt := 52) dX6_going_12 (by decide) (fun h12 => absurd h12 (nI_nle1 (by omega) (by omega))) (fun h12 => ?_)
    refine J_iload_n dX6_going_15 rfl rfl ?_
    refine J_aload_n dX6_going_16 rfl rfl ?_
    refine J_iload_n dX6_going_17 rfl rfl ?_
    refine cVi wv_X6_43 (c_X6_isGoing hk hv hv2) dX6_going_18 ob6 rfl rfl (kk := ?_)
    refine J_if_eq (tgt := 43) dX6_going_21 (by decide) (fun h21 => ?_) (fun h21 => ?_)
    · refine J_iconst (v := 0) dX6_going_43 (by decide) ?_
      refine J_iadd dX6_going_44 ?_
      refine J_istore_n dX6_going_45 rfl rfl rfl ?_
      refine J_iinc (v := _ + 1) dX6_going_46 rfl rfl rfl rfl ?_
      rw [show nI i + 1 = nI (i + 1) from (nI_succ i).symm]
      refine J_goto (tgt := 4) dX6_going_49 (by decide) ?_
      exact ih (i + 1) _ (by omega) (by rw [ha]; simp only [goN, h21, reduceIte])
    · refine J_iload_n dX6_going_24 rfl rfl ?_
      refine J_bipush (v := -6) dX6_going_25 (by decide) ?_
      refine J_icmp_eq (tgt := 39) dX6_going_27 (by decide) (fun h27 => ?_) (fun h27 => absurd rfl h27)
      refine J_iconst (v := 1) dX6_going_39 (by decide) ?_
      refine J_goto (tgt := 44) dX6_going_40 (by decide) ?_
      refine J_iadd dX6_going_44 ?_
      refine J_istore_n dX6_going_45 rfl rfl rfl ?_
      refine J_iinc (v := _ + 1) dX6_going_46 rfl rfl rfl rfl ?_
      rw [show nI i + 1 = nI (i + 1) from (nI_succ i).symm]
      refine J_goto (tgt := 4) dX6_going_49 (by decide) ?_
      exact ih (i + 1) _ (by omega) (by rw [ha]; simp only [goN, h21, reduceIte])

set_option maxRecDepth 100000 in
set_option maxHeartbeats 4000000 in
theorem goingO {X : jX} {ad : Nat → Nat} {m : Mem} {s : Rw} {n b : Nat} (hW : OkW s n) (hb : b < 8) : ∀ (j i : Nat) (a : Int32), i + j = n → a = goO s b i → Jg X RX6 cX6_going 4 (some .int) "going" 2 0 0 (QF X ad (fun v m9 => v = some (.int (goO s b n)) ∧ m9 = (SM m s))) ad 0 0 4 [(0, .ref 195), (1, .int (nI b)), (2, .int a), (3, .int (nI i))] [] (WS X ad (SM m s)) := by
  obtain ⟨h200, hn, hw⟩ := id hW
  intro j
  induction j with
  | zero =>
    intro i a hi ha
    obtain rfl : i = n := by omega
    refine J_iload_n dX6_going_4 rfl rfl ?_
    refine J_aload_n dX6_going_5 rfl rfl ?_
    refine gX6_s wf_X6_7 dX6_going_6 ?_
    refine J_bipush (v := 94) dX6_going_9 (by decide) ?_
    refine rd_s 94 (by decide) (by decide) dX6_going_11 ?_
    refine J_topi (fun z9 hz9 => ?_)
    obtain rfl : z9 = (nI i) := hz9.trans (by exact hn)
    clear hz9
    refine J_icmp_ge (tgt := 52) dX6_going_12 (by decide) (fun h12 => ?_) (fun h12 => absurd (nI_le1 (Nat.le_refl _) (by omega)) h12)
    refine J_iload_n dX6_going_52 rfl rfl ?_
    refine r_int dX6_going_53 ?_
    exact ⟨by rw [ha], rfl⟩
  | succ j ih =>
    intro i a hi ha
    have hk : i < 200 := by omega
    obtain ⟨hv, hv2⟩ := hw i (by omega)
    refine J_iload_n dX6_going_4 rfl rfl ?_
    refine J_aload_n dX6_going_5 rfl rfl ?_
    refine gX6_s wf_X6_7 dX6_going_6 ?_
    refine J_bipush (v := 94) dX6_going_9 (by decide) ?_
    refine rd_s 94 (by decide) (by decide) dX6_going_11 ?_
    refine J_topi (fun z9 hz9 => ?_)
    obtain rfl : z9 = (nI n) := hz9.trans (by exact hn)
    clear hz9
    refine J_icmp_ge (tgt := 52) dX6_going_12 (by decide) (fun h12 => absurd h12 (nI_nle1 (by omega) (by omega))) (fun h12 => ?_)
    refine J_iload_n dX6_going_15 rfl rfl ?_
    refine J_aload_n dX6_going_16 rfl rfl ?_
    refine J_iload_n dX6_going_17 rfl rfl ?_
    refine cVi wv_X6_43 (c_X6_isGoing hk hv hv2) dX6_going_18 ob6 rfl rfl (kk := ?_)
    refine J_if_eq (tgt := 43) dX6_going_21 (by decide) (fun h21 => ?_) (fun h21 => ?_)
    · refine J_iconst (v := 0) dX6_going_43 (by decide) ?_
      refine J_iadd dX6_going_44 ?_
      refine J_istore_n dX6_going_45 rfl rfl rfl ?_
      refine J_iinc (v := _ + 1) dX6_going_46 rfl rfl rfl rfl ?_
      rw [show nI i + 1 = nI (i + 1) from (nI_succ i).symm]
      refine J_goto (tgt := 4) dX6_going_49 (by decide) ?_
      exact ih (i + 1) _ (by omega) (by rw [ha]; first | (simp only [goO, h21, reduceIte]; done) | (simp only [goO, h21, h36, reduceIte]; done))
    · refine J_iload_n dX6_going_24 rfl rfl ?_
      refine J_bipush (v := -6) dX6_going_25 (by decide) ?_
      refine J_icmp_eq (tgt := 39) dX6_going_27 (by decide) (fun h27 => absurd h27 ((show ∀ b, b < 8 → ¬ nI b = -6 by decide) b hb)) (fun h27 => ?_)
      refine J_aload_n dX6_going_30 rfl rfl ?_
      refine J_iload_n dX6_going_31 rfl rfl ?_
      refine J_iload_n dX6_going_32 rfl rfl ?_
      refine cVi wv_X6_47 (c_X6_isOf hk hv hv2 hb) dX6_going_33 ob6 rfl rfl (kk := ?_)
      refine J_if_eq (tgt := 43) dX6_going_36 (by decide) (fun h36 => ?_) (fun h36 => ?_)
      · refine J_iconst (v := 0) dX6_going_43 (by decide) ?_
        refine J_iadd dX6_going_44 ?_
        refine J_istore_n dX6_going_45 rfl rfl rfl ?_
        refine J_iinc (v := _ + 1) dX6_going_46 rfl rfl rfl rfl ?_
        rw [show nI i + 1 = nI (i + 1) from (nI_succ i).symm]
        refine J_goto (tgt := 4) dX6_going_49 (by decide) ?_
        exact ih (i + 1) _ (by omega) (by rw [ha]; first | (simp only [goO, h21, reduceIte]; done) | (simp only [goO, h21, h36, reduceIte]; done))
      · refine J_iconst (v := 1) dX6_going_39 (by decide) ?_
        refine J_goto (tgt := 44) dX6_going_40 (by decide) ?_
        refine J_iadd dX6_going_44 ?_
        refine J_istore_n dX6_going_45 rfl rfl rfl ?_
        refine J_iinc (v := _ + 1) dX6_going_46 rfl rfl rfl rfl ?_
        rw [show nI i + 1 = nI (i + 1) from (nI_succ i).symm]
        refine J_goto (tgt := 4) dX6_going_49 (by decide) ?_
        exact ih (i + 1) _ (by omega) (by rw [ha]; first | (simp only [goO, h21, reduceIte]; done) | (simp only [goO, h21, h36, reduceIte]; done))

set_option maxRecDepth 100000 in
set_option maxHeartbeats 4000000 in
theorem c_goingN {X : jX} {ad : Nat → Nat} {m : Mem} {s : Rw} {n : Nat} (hW : OkW s n) : Cd X yX6_going cX6_going 4 (some .int) 2 ad [.ref 195, .int (-6)] (SM m s) (some (.int (goN s n))) ((SM m s)) := by
  refine Cm.of (own := RX6) (nm := "going") (by decide +kernel) rfl rfl rfl rfl ?_
  refine J_iconst (v := 0) dX6_going_0 (by decide) ?_
  refine J_istore_n dX6_going_1 rfl rfl rfl ?_
  refine J_iconst (v := 0) dX6_going_2 (by decide) ?_
  refine J_istore_n dX6_going_3 rfl rfl rfl ?_
  exact goingN hW n 0 _ (by omega) rfl

set_option maxRecDepth 100000 in
set_option maxHeartbeats 4000000 in
theorem c_goingO {X : jX} {ad : Nat → Nat} {m : Mem} {s : Rw} {n b : Nat} (hW : OkW s n) (hb : b < 8) : Cd X yX6_going cX6_going 4 (some .int) 2 ad [.ref 195, .int (nI b)] (SM m s) (some (.int (goO s b n))) ((SM m s)) := by
  refine Cm.of (own := RX6) (nm := "going") (by decide +kernel) rfl rfl rfl rfl ?_
  refine J_iconst (v := 0) dX6_going_0 (by decide) ?_
  refine J_istore_n dX6_going_1 rfl rfl rfl ?_
  refine J_iconst (v := 0) dX6_going_2 (by decide) ?_
  refine J_istore_n dX6_going_3 rfl rfl rfl ?_
  exact goingO hW hb n 0 _ (by omega) rfl

def fgF (s : Rw) (n i : Nat) : Rw := upd (upd (upd (fgL s i n) (fb i 10) (if fgL s i n (fb i 7) = 0 then fgL s i n (fb i 10) + 1 else fgL s i n (fb i 10) + 0)) (fb i 7) 0) (fb i 6) 0
set_option maxRecDepth 100000 in
set_option maxHeartbeats 4000000 in
theorem forgetsLoop {X : jX} {ad : Nat → Nat} {m : Mem} {s : Rw} {n b : Nat} (hW : OkW s n) (hb : b < 8) : ∀ (j i : Nat), i + j = n → Jg X RX6 cX6_forgets 3 (none) "forgets" 3 0 0 (QF X ad (fun v m9 => v = none ∧ m9 = SM m (fgF s n b))) ad 0 0 2 [(0, .ref 195), (1, .int (nI b)), (2, .int (nI i))] [] (WS X ad (SM m (fgL s b i))) := by
  intro j
  induction j with
  | zero =>
    intro i hi
    obtain rfl : i = n := by omega
    have hn := (hW.fg (b := b) i (Nat.le_refl _)).2.1
    have h200 := hW.1
    refine J_iload_n dX6_forgets_2 rfl rfl ?_
    refine J_aload_n dX6_forgets_3 rfl rfl ?_
    refine gX6_s wf_X6_7 dX6_forgets_4 ?_
    refine J_bipush (v := 94) dX6_forgets_7 (by decide) ?_
    refine rd_s 94 (by decide) (by decide) dX6_forgets_9 ?_
    refine J_topi (fun z9 hz9 => ?_)
    obtain rfl : z9 = (nI i) := hz9.trans (by exact hn)
    clear hz9
    refine J_icmp_ge (tgt := 41) dX6_forgets_10 (by decide) (fun h10 => ?_) (fun h10 => absurd (nI_le1 (Nat.le_refl _) (by omega)) h10)
    refine J_aload_n dX6_forgets_41 rfl rfl ?_
    refine gX6_s wf_X6_7 dX6_forgets_42 ?_
    refine J_iload_n dX6_forgets_45 rfl rfl ?_
    refine J_bipush (v := 10) dX6_forgets_46 (by decide) ?_
    refine cSi ws_X6_58 (c_X6_ofBoard (i := b) (c := 10) 10 (by decide)) dX6_forgets_48 (kk := ?_)
    refine J_dup2 dX6_forgets_51 rfl rfl ?_
    refine rd_s (fb b 10) (fb_302 (by omega) (by decide)) rfl dX6_forgets_52 ?_
    refine J_aload_n dX6_forgets_53 rfl rfl ?_
    refine gX6_s wf_X6_7 dX6_forgets_54 ?_
    refine J_iload_n dX6_forgets_57 rfl rfl ?_
    refine J_bipush (v := 7) dX6_forgets_58 (by decide) ?_
    refine cSi ws_X6_58 (c_X6_ofBoard (i := b) (c := 7) 7 (by decide)) dX6_forgets_60 (kk := ?_)
    refine rd_s (fb b 7) (fb_302 (by omega) (by decide)) rfl dX6_forgets_63 ?_
    refine J_if_ne (tgt := 71) dX6_forgets_64 (by decide) (fun h64 => ?_) (fun h64 => ?_)
    · refine J_iconst (v := 0) dX6_forgets_71 (by decide) ?_
      refine J_iadd dX6_forgets_72 ?_
      refine wr_s (fb b 10) (fb_302 (by omega) (by decide)) rfl dX6_forgets_73 ?_
      refine J_aload_n dX6_forgets_74 rfl rfl ?_
      refine gX6_s wf_X6_7 dX6_forgets_75 ?_
      refine J_iload_n dX6_forgets_78 rfl rfl ?_
      refine J_bipush (v := 7) dX6_forgets_79 (by decide) ?_
      refine cSi ws_X6_58 (c_X6_ofBoard (i := b) (c := 7) 7 (by decide)) dX6_forgets_81 (kk := ?_)
      refine J_iconst (v := 0) dX6_forgets_84 (by decide) ?_
      refine wr_s (fb b 7) (fb_302 (by omega) (by decide)) rfl dX6_forgets_85 ?_
      refine J_aload_n dX6_forgets_86 rfl rfl ?_
      refine gX6_s wf_X6_7 dX6_forgets_87 ?_
      refine J_iload_n dX6_forgets_90 rfl rfl ?_
      refine J_bipush (v := 6) dX6_forgets_91 (by decide) ?_
      refine cSi ws_X6_58 (c_X6_ofBoard (i := b) (c := 6) 6 (by decide)) dX6_forgets_93 (kk := ?_)
      refine J_iconst (v := 0) dX6_forgets_96 (by decide) ?_
      refine wr_s (fb b 6) (fb_302 (by omega) (by decide)) rfl dX6_forgets_97 ?_
      refine r_void dX6_forgets_98 ?_
      exact ⟨rfl, by simp only [fgF, *, reduceIte]⟩
    · refine J_iconst (v := 1) dX6_forgets_67 (by decide) ?_
      refine J_goto (tgt := 72) dX6_forgets_68 (by decide) ?_
      refine J_iadd dX6_forgets_72 ?_
      refine wr_s (fb b 10) (fb_302 (by omega) (by decide)) rfl dX6_forgets_73 ?_
      refine J_aload_n dX6_forgets_74 rfl rfl ?_
      refine gX6_s wf_X6_7 dX6_forgets_75 ?_
      refine J_iload_n dX6_forgets_78 rfl rfl ?_
      refine J_bipush (v := 7) dX6_forgets_79 (by decide) ?_
      refine cSi ws_X6_58 (c_X6_ofBoard (i := b) (c := 7) 7 (by decide)) dX6_forgets_81 (kk := ?_)
      refine J_iconst (v := 0) dX6_forgets_84 (by decide) ?_
      refine wr_s (fb b 7) (fb_302 (by omega) (by decide)) rfl dX6_forgets_85 ?_
      refine J_aload_n dX6_forgets_86 rfl rfl ?_
      refine gX6_s wf_X6_7 dX6_forgets_87 ?_
      refine J_iload_n dX6_forgets_90 rfl rfl ?_
      refine J_bipush (v := 6) dX6_forgets_91 (by decide) ?_
      refine cSi ws_X6_58 (c_X6_ofBoard (i := b) (c := 6) 6 (by decide)) dX6_forgets_93 (kk := ?_)
      refine J_iconst (v := 0) dX6_forgets_96 (by decide) ?_
      refine wr_s (fb b 6) (fb_302 (by omega) (by decide)) rfl dX6_forgets_97 ?_
      refine r_void dX6_forgets_98 ?_
      exact ⟨rfl, by simp only [fgF, *, reduceIte]⟩
  | succ j ih =>
    intro i hi
    have hWi := hW.fg (b := b) i (by omega)
    obtain ⟨h200, hn, hw⟩ := id hWi
    have hk : i < 200 := by omega
    obtain ⟨hv, hv2⟩ := hw i (by omega)
    refine J_iload_n dX6_forgets_2 rfl rfl ?_
    refine J_aload_n dX6_forgets_3 rfl rfl ?_
    refine gX6_s wf_X6_7 dX6_forgets_4 ?_
    refine J_bipush (v := 94) dX6_forgets_7 (by decide) ?_
    refine rd_s 94 (by decide) (by decide) dX6_forgets_9 ?_
    refine J_topi (fun z9 hz9 => ?_)
    obtain rfl : z9 = (nI n) := hz9.trans (by exact hn)
    clear hz9
    refine J_icmp_ge (tgt := 41) dX6_forgets_10 (by decide) (fun h10 => absurd h10 (nI_nle1 (by omega) (by omega))) (fun h10 => ?_)
    refine J_aload_n dX6_forgets_13 rfl rfl ?_
    refine J_iload_n dX6_forgets_14 rfl rfl ?_
    refine cVi wv_X6_43 (c_X6_isGoing hk hv hv2) dX6_forgets_15 ob6 rfl rfl (kk := ?_)
    refine J_if_eq (tgt := 35) dX6_forgets_18 (by decide) (fun h18 => ?_) (fun h18 => ?_)
    · refine J_iinc (v := _ + 1) dX6_forgets_35 rfl rfl rfl rfl ?_
      rw [show nI i + 1 = nI (i + 1) from (nI_succ i).symm]
      refine J_goto (tgt := 2) dX6_forgets_38 (by decide) ?_
      refine J_ws (ws' := WS X ad (SM m (fgL s b (i + 1)))) ?_ (ih (i + 1) (by omega))
      first | (simp only [fgL, h18, h27, reduceIte]; done) | (simp only [fgL, h18, reduceIte]; done)
    · refine J_aload_n dX6_forgets_21 rfl rfl ?_
      refine J_iload_n dX6_forgets_22 rfl rfl ?_
      refine J_iload_n dX6_forgets_23 rfl rfl ?_
      refine cVi wv_X6_47 (c_X6_isOf hk hv hv2 hb) dX6_forgets_24 ob6 rfl rfl (kk := ?_)
      refine J_if_eq (tgt := 35) dX6_forgets_27 (by decide) (fun h27 => ?_) (fun h27 => ?_)
      · refine J_iinc (v := _ + 1) dX6_forgets_35 rfl rfl rfl rfl ?_
        rw [show nI i + 1 = nI (i + 1) from (nI_succ i).symm]
        refine J_goto (tgt := 2) dX6_forgets_38 (by decide) ?_
        refine J_ws (ws' := WS X ad (SM m (fgL s b (i + 1)))) ?_ (ih (i + 1) (by omega))
        first | (simp only [fgL, h18, h27, reduceIte]; done) | (simp only [fgL, h18, reduceIte]; done)
      · refine J_aload_n dX6_forgets_30 rfl rfl ?_
        refine J_iload_n dX6_forgets_31 rfl rfl ?_
        refine cVv wv_X6_66 (c_X6_isLost hk hv hv2) dX6_forgets_32 ob6 rfl rfl (kk := ?_)
        refine J_iinc (v := _ + 1) dX6_forgets_35 rfl rfl rfl rfl ?_
        rw [show nI i + 1 = nI (i + 1) from (nI_succ i).symm]
        refine J_goto (tgt := 2) dX6_forgets_38 (by decide) ?_
        refine J_ws (ws' := WS X ad (SM m (fgL s b (i + 1)))) ?_ (ih (i + 1) (by omega))
        first | (simp only [fgL, h18, h27, reduceIte]; done) | (simp only [fgL, h18, reduceIte]; done)

set_option maxRecDepth 100000 in
set_option maxHeartbeats 4000000 in
theorem c_X6_forgets {X : jX} {ad : Nat → Nat} {m : Mem} {s : Rw} {n b : Nat} (hW : OkW s n) (hb : b < 8) : Cd X yX6_forgets cX6_forgets 3 (none) 3 ad [.ref 195, .int (nI b)] (SM m s) none (SM m (fgF s n b)) := by
  refine Cm.of (own := RX6) (nm := "forgets") (by decide +kernel) rfl rfl rfl rfl ?_
  refine J_iconst (v := 0) dX6_forgets_0 (by decide) ?_
  refine J_istore_n dX6_forgets_1 rfl rfl rfl ?_
  exact forgetsLoop hW hb n 0 (by omega)

