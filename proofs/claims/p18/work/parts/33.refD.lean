/-- whether a word can get on the bus -/
def rdy (s : Rw) (k : Nat) : Int32 := if nI (wv s k / 64 % 4) = 0 then (if s (fb (wv s k % 8) 6) = 1 then (if s (fb (wv s k / 8 % 8) 6) = 1 then 1 else 0) else 0) else 0
def fRd (s : Rw) (n : Nat) : Nat → Int32
  | 0 => -6
  | j + 1 => if rdy s (n - 1 - j) = 0 then fRd s n j else nI (n - 1 - j)
theorem fRd_or {s : Rw} {n : Nat} : ∀ j, j ≤ n → fRd s n j = -6 ∨ ∃ k, k < n ∧ fRd s n j = nI k := by
  intro j
  induction j with
  | zero => intro _; exact Or.inl rfl
  | succ j ih =>
    intro hj
    unfold fRd
    split
    · exact ih (by omega)
    · exact Or.inr ⟨n - 1 - j, by omega, rfl⟩
def getF (s : Rw) (n : Nat) : Rw := if fRd s n n = -6 then s else upd (upd (upd s 295 (fRd s n n)) 296 (s 2)) (95 + (fRd s n n).toNatClampNeg) (nI (setSt (wv s (fRd s n n).toNatClampNeg) 1))
def srF (s : Rw) (p : Int32) (k : Nat) : Rw := if p = 0 then (if s 296 - 1 = 0 then upd (upd (upd (upd (upd s 296 (s 296 - 1)) (95 + k) (nI (setSt (wv s k) 2))) 300 (s 300 + 1)) (fb (wv s k % 8) 9) (s (fb (wv s k % 8) 9) + 1)) 295 (-6) else upd s 296 (s 296 - 1))
  else (if nI (wv s k + 256) / 256 = 3 then lostF (upd (upd (upd s (95 + k) (nI (wv s k + 256))) 299 (s 299 + 1)) 296 (s 2)) k (wv s k + 256) else upd (upd (upd s (95 + k) (nI (wv s k + 256))) 299 (s 299 + 1)) 296 (s 2))
def hdN (d z : Int32) : Int32 := if 0 ≤ z then 0 else if d < 14 then 0 else 1
def hd1 (s : Rw) (k : Nat) : Int32 := if s (fb k 4) ≤ 0 then hdN (s (fb k 3)) (s (fb k 4)) else if jin (s (fb k 3)) 8 13 = 0 then hdN (s (fb k 3)) (s (fb k 4)) else 1
def hd (s : Rw) : Nat → Int32
  | 0 => 0
  | k + 1 => if hd s k = 0 then hd1 s k else 1
def isH (s : Rw) (n : Nat) : Int32 := if hd s n = 0 then 0 else if s 0 = 1 then 1 else 0
def grF (s : Rw) (n i : Nat) : Rw := if s (fb i 2) = -6 then (if s (fb i 6) = 1 then fgF (upd s (fb i 8) 0) n i else upd s (fb i 8) 0)
  else if s (fb i 3) < 20 then (if s (fb i 6) = 1 then fgF (upd s (fb i 8) 0) n i else upd s (fb i 8) 0)
  else if s (fb i 6) = 1 then s else if s (fb i 5) = 100 then (if s (fb i 8) + 1 < s 3 then upd (upd s (fb i 6) 0) (fb i 8) (s (fb i 8) + 1) else upd (upd s (fb i 6) 1) (fb i 8) 0) else s
theorem OkW.same {s t : Rw} {n : Nat} (h : OkW s n) (h1 : t 94 = s 94) (h2 : ∀ k, k < n → t (95 + k) = s (95 + k)) : OkW t n := by
  obtain ⟨a, b, c⟩ := h
  refine ⟨a, h1.trans b, fun k hk => ?_⟩
  have e : wv t k = wv s k := by unfold wv; rw [h2 k hk]
  rw [e, h2 k hk]
  exact c k hk
theorem OkW.fb {s : Rw} {n i k : Nat} {v : Int32} (h : OkW s n) (hi : i < 8) (hk : k < 11) : OkW (upd s (fb i k) v) n :=
  h.same (upd_fbx hi hk (by omega)) (fun j _ => upd_fbx hi hk (by omega))
set_option maxRecDepth 100000 in
set_option maxHeartbeats 4000000 in
theorem c_X6_isReady {X : jX} {ad : Nat → Nat} {m : Mem} {s : Rw} {n k : Nat} (hW : OkW s n) (hkn : k < n) : Cd X yX6_isReady cX6_isReady 2 (some .boolean) 1 ad [.ref 195, .int (nI k)] (SM m s) (some (.int (rdy s k))) ((SM m s)) := by
  refine Cm.of (own := RX6) (nm := "isReady") (by decide +kernel) rfl rfl rfl rfl ?_
  obtain ⟨h200, hn, hw⟩ := hW
  have hk : k < 200 := by omega
  obtain ⟨hv, hv2⟩ := hw k hkn
  refine J_aload_n dX6_isReady_0 rfl rfl ?_
  refine J_iload_n dX6_isReady_1 rfl rfl ?_
  refine cVi wv_X6_29 (c_X6_stateOf hk hv hv2) dX6_isReady_2 ob6 rfl rfl (kk := ?_)
  refine J_if_ne (tgt := 50) dX6_isReady_5 (by decide) (fun h5 => ?_) (fun h5 => ?_)
  · refine J_iconst (v := 0) dX6_isReady_50 (by decide) ?_
    refine r_bool dX6_isReady_51 (by first | exact Or.inl rfl | exact Or.inr rfl | exact i01 | exact jin01) ?_
    exact ⟨by first | (simp only [rdy, h5, reduceIte]; done) | (simp only [rdy, h5, h24, reduceIte]; done) | (simp only [rdy, h5, h24, h43, reduceIte]; done), rfl⟩
  · refine J_aload_n dX6_isReady_8 rfl rfl ?_
    refine gX6_s wf_X6_7 dX6_isReady_9 ?_
    refine J_aload_n dX6_isReady_12 rfl rfl ?_
    refine J_iload_n dX6_isReady_13 rfl rfl ?_
    refine cVi wv_X6_33 (c_X6_fromOf hk hv hv2) dX6_isReady_14 ob6 rfl rfl (kk := ?_)
    refine J_bipush (v := 6) dX6_isReady_17 (by decide) ?_
    refine cSi ws_X6_58 (c_X6_ofBoard (i := wv s k % 8) (c := 6) 6 (by decide)) dX6_isReady_19 (kk := ?_)
    refine rd_s (fb (wv s k % 8) 6) (fb_302 (by omega) (by decide)) rfl dX6_isReady_22 ?_
    refine J_iconst (v := 1) dX6_isReady_23 (by decide) ?_
    refine J_icmp_ne (tgt := 50) dX6_isReady_24 (by decide) (fun h24 => ?_) (fun h24 => ?_)
    · refine J_iconst (v := 0) dX6_isReady_50 (by decide) ?_
      refine r_bool dX6_isReady_51 (by first | exact Or.inl rfl | exact Or.inr rfl | exact i01 | exact jin01) ?_
      exact ⟨by first | (simp only [rdy, h5, reduceIte]; done) | (simp only [rdy, h5, h24, reduceIte]; done) | (simp only [rdy, h5, h24, h43, reduceIte]; done), rfl⟩
    · refine J_aload_n dX6_isReady_27 rfl rfl ?_
      refine gX6_s wf_X6_7 dX6_isReady_28 ?_
      refine J_aload_n dX6_isReady_31 rfl rfl ?_
      refine J_iload_n dX6_isReady_32 rfl rfl ?_
      refine cVi wv_X6_36 (c_X6_toOf hk hv hv2) dX6_isReady_33 ob6 rfl rfl (kk := ?_)
      refine J_bipush (v := 6) dX6_isReady_36 (by decide) ?_
      refine cSi ws_X6_58 (c_X6_ofBoard (i := wv s k / 8 % 8) (c := 6) 6 (by decide)) dX6_isReady_38 (kk := ?_)
      refine rd_s (fb (wv s k / 8 % 8) 6) (fb_302 (by omega) (by decide)) rfl dX6_isReady_41 ?_
      refine J_iconst (v := 1) dX6_isReady_42 (by decide) ?_
      refine J_icmp_ne (tgt := 50) dX6_isReady_43 (by decide) (fun h43 => ?_) (fun h43 => ?_)
      · refine J_iconst (v := 0) dX6_isReady_50 (by decide) ?_
        refine r_bool dX6_isReady_51 (by first | exact Or.inl rfl | exact Or.inr rfl | exact i01 | exact jin01) ?_
        exact ⟨by first | (simp only [rdy, h5, reduceIte]; done) | (simp only [rdy, h5, h24, reduceIte]; done) | (simp only [rdy, h5, h24, h43, reduceIte]; done), rfl⟩
      · refine J_iconst (v := 1) dX6_isReady_46 (by decide) ?_
        refine J_goto (tgt := 51) dX6_isReady_47 (by decide) ?_
        refine r_bool dX6_isReady_51 (by first | exact Or.inl rfl | exact Or.inr rfl | exact i01 | exact jin01) ?_
        exact ⟨by first | (simp only [rdy, h5, reduceIte]; done) | (simp only [rdy, h5, h24, reduceIte]; done) | (simp only [rdy, h5, h24, h43, reduceIte]; done), rfl⟩

set_option maxRecDepth 100000 in
set_option maxHeartbeats 4000000 in
theorem getTail {X : jX} {ad : Nat → Nat} {m : Mem} {s : Rw} {n k : Nat} (hW : OkW s n) (hkn : k < n) (he : fRd s n n = nI k) : Jg X RX6 cX6_getsOn 3 (none) "getsOn" 2 0 0 (QF X ad (fun v m9 => v = none ∧ m9 = SM m (getF s n))) ad 0 0 37 [(0, .ref 195), (1, .int (nI k)), (2, .int (nI 0 - 1))] [] (WS X ad (SM m s)) := by
  obtain ⟨h200, hn, hw⟩ := hW
  have hk : k < 200 := by omega
  obtain ⟨hv, hv2⟩ := hw k hkn
  refine J_iload_n dX6_getsOn_37 rfl rfl ?_
  refine J_bipush (v := -6) dX6_getsOn_38 (by decide) ?_
  refine J_icmp_eq (tgt := 72) dX6_getsOn_40 (by decide) (fun h40 => absurd h40 ((show ∀ k, k < 200 → ¬ nI k = -6 by decide) k hk)) (fun h40 => ?_)
  refine J_aload_n dX6_getsOn_43 rfl rfl ?_
  refine gX6_s wf_X6_7 dX6_getsOn_44 ?_
  refine J_sipush (v := 295) dX6_getsOn_47 (by decide) ?_
  refine J_iload_n dX6_getsOn_50 rfl rfl ?_
  refine wr_s 295 (by decide) (by decide) dX6_getsOn_51 ?_
  refine J_aload_n dX6_getsOn_52 rfl rfl ?_
  refine gX6_s wf_X6_7 dX6_getsOn_53 ?_
  refine J_sipush (v := 296) dX6_getsOn_56 (by decide) ?_
  refine J_aload_n dX6_getsOn_59 rfl rfl ?_
  refine gX6_s wf_X6_7 dX6_getsOn_60 ?_
  refine J_iconst (v := 2) dX6_getsOn_63 (by decide) ?_
  refine rd_s 2 (by decide) (by decide) dX6_getsOn_64 ?_
  refine J_topi (fun z9 hz9 => ?_)
  obtain rfl : z9 = (s 2) := hz9.trans (by rw [upd_at, if_neg (by decide)])
  clear hz9
  refine wr_s 296 (by decide) (by decide) dX6_getsOn_65 ?_
  refine J_aload_n dX6_getsOn_66 rfl rfl ?_
  refine J_iload_n dX6_getsOn_67 rfl rfl ?_
  refine J_iconst (v := 1) dX6_getsOn_68 (by decide) ?_
  refine cVv wv_X6_39 (c_X6_becomes (t := 1) hk (by rw [upd_at, if_neg (by omega), upd_at, if_neg (by omega)]; exact hv) hv2 (by decide)) dX6_getsOn_69 ob6 rfl rfl (kk := ?_)
  refine r_void dX6_getsOn_72 ?_
  exact ⟨rfl, by rw [getF, he, if_neg ((show ∀ k, k < 200 → ¬ nI k = -6 by decide) k hk), nI_cl (by omega)]⟩

set_option maxRecDepth 100000 in
set_option maxHeartbeats 4000000 in
theorem getNone {X : jX} {ad : Nat → Nat} {m : Mem} {s : Rw} {n : Nat} {a : Int32} (ha : a = -6) (he : fRd s n n = -6) : Jg X RX6 cX6_getsOn 3 (none) "getsOn" 2 0 0 (QF X ad (fun v m9 => v = none ∧ m9 = SM m (getF s n))) ad 0 0 37 [(0, .ref 195), (1, .int a), (2, .int (nI 0 - 1))] [] (WS X ad (SM m s)) := by
  refine J_iload_n dX6_getsOn_37 rfl rfl ?_
  refine J_bipush (v := -6) dX6_getsOn_38 (by decide) ?_
  refine J_icmp_eq (tgt := 72) dX6_getsOn_40 (by decide) (fun h40 => ?_) (fun h40 => absurd ha h40)
  refine r_void dX6_getsOn_72 ?_
  exact ⟨rfl, by rw [getF, if_pos he]⟩

set_option maxRecDepth 100000 in
set_option maxHeartbeats 4000000 in
theorem getLoop {X : jX} {ad : Nat → Nat} {m : Mem} {s : Rw} {n : Nat} (hW : OkW s n) : ∀ (i : Nat) (a : Int32), i ≤ n → a = fRd s n (n - i) → Jg X RX6 cX6_getsOn 3 (none) "getsOn" 2 0 0 (QF X ad (fun v m9 => v = none ∧ m9 = SM m (getF s n))) ad 0 0 13 [(0, .ref 195), (1, .int a), (2, .int (nI i - 1))] [] (WS X ad (SM m s)) := by
  have h200 := hW.1
  intro i
  induction i with
  | zero =>
    intro a hi ha
    rw [Nat.sub_zero] at ha
    refine J_iload_n dX6_getsOn_13 rfl rfl ?_
    refine J_if_lt (tgt := 37) dX6_getsOn_14 (by decide) (fun h14 => ?_) (fun h14 => absurd (show nI 0 - 1 < 0 by decide) h14)
    rcases fRd_or (s := s) (n := n) n (Nat.le_refl _) with h | ⟨k, hk, h⟩
    · exact getNone (ha.trans h) h
    · rw [ha, h]
      exact getTail hW hk h
  | succ i ih =>
    intro a hi ha
    rw [nI_pred]
    have e : n - i = (n - (i + 1)) + 1 := by omega
    have e2 : n - 1 - (n - (i + 1)) = i := by omega
    refine J_iload_n dX6_getsOn_13 rfl rfl ?_
    refine J_if_lt (tgt := 37) dX6_getsOn_14 (by decide) (fun h14 => absurd h14 (by rw [Int32.not_lt, Int32.le_iff_toInt_le, nI_toInt (by omega)]; exact Int.natCast_nonneg i)) (fun h14 => ?_)
    refine J_aload_n dX6_getsOn_17 rfl rfl ?_
    refine J_iload_n dX6_getsOn_18 rfl rfl ?_
    refine cVi wv_X6_73 (c_X6_isReady (k := i) hW (by omega)) dX6_getsOn_19 ob6 rfl rfl (kk := ?_)
    refine J_if_eq (tgt := 29) dX6_getsOn_22 (by decide) (fun h22 => ?_) (fun h22 => ?_)
    · refine J_iload_n dX6_getsOn_29 rfl rfl ?_
      refine J_istore_n dX6_getsOn_30 rfl rfl rfl ?_
      refine J_iinc (v := _ + (-1)) dX6_getsOn_31 rfl rfl rfl rfl ?_
      rw [← Int32.sub_eq_add_neg]
      refine J_goto (tgt := 13) dX6_getsOn_34 (by decide) ?_
      exact ih _ (by omega) (by rw [e]; simp only [fRd, e2, h22, ha, reduceIte])
    · refine J_iload_n dX6_getsOn_25 rfl rfl ?_
      refine J_goto (tgt := 30) dX6_getsOn_26 (by decide) ?_
      refine J_istore_n dX6_getsOn_30 rfl rfl rfl ?_
      refine J_iinc (v := _ + (-1)) dX6_getsOn_31 rfl rfl rfl rfl ?_
      rw [← Int32.sub_eq_add_neg]
      refine J_goto (tgt := 13) dX6_getsOn_34 (by decide) ?_
      exact ih _ (by omega) (by rw [e]; simp only [fRd, e2, h22, ha, reduceIte])

set_option maxRecDepth 100000 in
set_option maxHeartbeats 4000000 in
theorem c_X6_getsOn {X : jX} {ad : Nat → Nat} {m : Mem} {s : Rw} {n : Nat} (hW : OkW s n) : Cd X yX6_getsOn cX6_getsOn 3 (none) 2 ad [.ref 195] (SM m s) none (SM m (getF s n)) := by
  refine Cm.of (own := RX6) (nm := "getsOn") (by decide +kernel) rfl rfl rfl rfl ?_
  refine J_bipush (v := -6) dX6_getsOn_0 (by decide) ?_
  refine J_istore_n dX6_getsOn_2 rfl rfl rfl ?_
  refine J_aload_n dX6_getsOn_3 rfl rfl ?_
  refine gX6_s wf_X6_7 dX6_getsOn_4 ?_
  refine J_bipush (v := 94) dX6_getsOn_7 (by decide) ?_
  refine rd_s 94 (by decide) (by decide) dX6_getsOn_9 ?_
  refine J_topi (fun z9 hz9 => ?_)
  obtain rfl : z9 = (nI n) := hz9.trans (by exact hW.2.1)
  clear hz9
  refine J_iconst (v := 1) dX6_getsOn_10 (by decide) ?_
  refine J_isub dX6_getsOn_11 ?_
  refine J_istore_n dX6_getsOn_12 rfl rfl rfl ?_
  exact getLoop hW n _ (Nat.le_refl _) (by rw [Nat.sub_self]; rfl)

set_option maxRecDepth 100000 in
set_option maxHeartbeats 4000000 in
theorem heldLoop {X : jX} {ad : Nat → Nat} {m : Mem} {s : Rw} {n : Nat} (hn : s 5 = nI n) (hn8 : n ≤ 8) : ∀ (j i : Nat) (a : Int32), i + j = n → a = hd s i → Jg X RX6 cX6_isHeld 5 (some .boolean) "isHeld" 1 0 0 (QF X ad (fun v m9 => v = some (.int (isH s n)) ∧ m9 = SM m s)) ad 0 0 4 [(0, .ref 195), (1, .int a), (2, .int (nI i))] [] (WS X ad (SM m s)) := by
  intro j
  induction j with
  | zero =>
    intro i a hi ha
    obtain rfl : i = n := by omega
    refine J_iload_n dX6_isHeld_4 rfl rfl ?_
    refine J_aload_n dX6_isHeld_5 rfl rfl ?_
    refine gX6_s wf_X6_7 dX6_isHeld_6 ?_
    refine J_iconst (v := 5) dX6_isHeld_9 (by decide) ?_
    refine rd_s 5 (by decide) (by decide) dX6_isHeld_10 ?_
    refine J_topi (fun z9 hz9 => ?_)
    obtain rfl : z9 = (nI i) := hz9.trans (by exact hn)
    clear hz9
    refine J_icmp_ge (tgt := 80) dX6_isHeld_11 (by decide) (fun h11 => ?_) (fun h11 => absurd (nI_le1 (Nat.le_refl _) (by omega)) h11)
    refine J_iload_n dX6_isHeld_80 rfl rfl ?_
    refine J_if_eq (tgt := 98) dX6_isHeld_81 (by decide) (fun h81 => ?_) (fun h81 => ?_)
    · refine J_iconst (v := 0) dX6_isHeld_98 (by decide) ?_
      refine r_bool dX6_isHeld_99 (by first | exact Or.inl rfl | exact Or.inr rfl | exact i01 | exact jin01) ?_
      exact ⟨by rw [ha] at h81; first | (simp only [isH, h81, reduceIte]; done) | (simp only [isH, h81, h91, reduceIte]; done), rfl⟩
    · refine J_aload_n dX6_isHeld_84 rfl rfl ?_
      refine gX6_s wf_X6_7 dX6_isHeld_85 ?_
      refine J_iconst (v := 0) dX6_isHeld_88 (by decide) ?_
      refine rd_s 0 (by decide) (by decide) dX6_isHeld_89 ?_
      refine J_iconst (v := 1) dX6_isHeld_90 (by decide) ?_
      refine J_icmp_ne (tgt := 98) dX6_isHeld_91 (by decide) (fun h91 => ?_) (fun h91 => ?_)
      · refine J_iconst (v := 0) dX6_isHeld_98 (by decide) ?_
        refine r_bool dX6_isHeld_99 (by first | exact Or.inl rfl | exact Or.inr rfl | exact i01 | exact jin01) ?_
        exact ⟨by rw [ha] at h81; first | (simp only [isH, h81, reduceIte]; done) | (simp only [isH, h81, h91, reduceIte]; done), rfl⟩
      · refine J_iconst (v := 1) dX6_isHeld_94 (by decide) ?_
        refine J_goto (tgt := 99) dX6_isHeld_95 (by decide) ?_
        refine r_bool dX6_isHeld_99 (by first | exact Or.inl rfl | exact Or.inr rfl | exact i01 | exact jin01) ?_
        exact ⟨by rw [ha] at h81; first | (simp only [isH, h81, reduceIte]; done) | (simp only [isH, h81, h91, reduceIte]; done), rfl⟩
  | succ j ih =>
    intro i a hi ha
    refine J_iload_n dX6_isHeld_4 rfl rfl ?_
    refine J_aload_n dX6_isHeld_5 rfl rfl ?_
    refine gX6_s wf_X6_7 dX6_isHeld_6 ?_
    refine J_iconst (v := 5) dX6_isHeld_9 (by decide) ?_
    refine rd_s 5 (by decide) (by decide) dX6_isHeld_10 ?_
    refine J_topi (fun z9 hz9 => ?_)
    obtain rfl : z9 = (nI n) := hz9.trans (by exact hn)
    clear hz9
    refine J_icmp_ge (tgt := 80) dX6_isHeld_11 (by decide) (fun h11 => absurd h11 (nI_nle1 (by omega) (by omega))) (fun h11 => ?_)
    refine J_aload_n dX6_isHeld_14 rfl rfl ?_
    refine gX6_s wf_X6_7 dX6_isHeld_15 ?_
    refine J_iload_n dX6_isHeld_18 rfl rfl ?_
    refine J_iconst (v := 4) dX6_isHeld_19 (by decide) ?_
    refine cSi ws_X6_58 (c_X6_ofBoard (i := i) (c := 4) 4 (by decide)) dX6_isHeld_20 (kk := ?_)
    refine rd_s (fb i 4) (fb_302 (by omega) (by decide)) rfl dX6_isHeld_23 ?_
    refine J_istore_n dX6_isHeld_24 rfl rfl rfl ?_
    refine J_aload_n dX6_isHeld_25 rfl rfl ?_
    refine gX6_s wf_X6_7 dX6_isHeld_26 ?_
    refine J_iload_n dX6_isHeld_29 rfl rfl ?_
    refine J_iconst (v := 3) dX6_isHeld_30 (by decide) ?_
    refine cSi ws_X6_58 (c_X6_ofBoard (i := i) (c := 3) 3 (by decide)) dX6_isHeld_31 (kk := ?_)
    refine rd_s (fb i 3) (fb_302 (by omega) (by decide)) rfl dX6_isHeld_34 ?_
    refine J_istore dX6_isHeld_35 rfl rfl ?_
    refine J_iload_n dX6_isHeld_37 rfl rfl ?_
    rw [ha]
    refine J_if_ne (tgt := 68) dX6_isHeld_38 (by decide) (fun h38 => ?_) (fun h38 => ?_)
    · refine J_iconst (v := 1) dX6_isHeld_68 (by decide) ?_
      refine J_goto (tgt := 73) dX6_isHeld_69 (by decide) ?_
      refine J_istore_n dX6_isHeld_73 rfl rfl rfl ?_
      refine J_iinc (v := _ + 1) dX6_isHeld_74 rfl rfl rfl rfl ?_
      rw [show nI i + 1 = nI (i + 1) from (nI_succ i).symm]
      refine J_goto (tgt := 4) dX6_isHeld_77 (by decide) ?_
      refine J_lv [0, 1, 2] rfl ?_
      exact ih (i + 1) _ (by omega) (by first | (simp only [hd, h38, reduceIte]; done) | (simp only [hd, hd1, hdN, h38, h42, h54, h58, h65, reduceIte]; done) | (simp only [hd, hd1, hdN, h38, h42, h54, h58, reduceIte]; done) | (simp only [hd, hd1, hdN, h38, h42, h54, reduceIte]; done) | (simp only [hd, hd1, hdN, h38, h42, h58, h65, reduceIte]; done) | (simp only [hd, hd1, hdN, h38, h42, h58, reduceIte]; done))
    · refine J_iload_n dX6_isHeld_41 rfl rfl ?_
      refine J_if_le (tgt := 57) dX6_isHeld_42 (by decide) (fun h42 => ?_) (fun h42 => ?_)
      · refine J_iload_n dX6_isHeld_57 rfl rfl ?_
        refine J_if_ge (tgt := 72) dX6_isHeld_58 (by decide) (fun h58 => ?_) (fun h58 => ?_)
        · refine J_iconst (v := 0) dX6_isHeld_72 (by decide) ?_
          refine J_istore_n dX6_isHeld_73 rfl rfl rfl ?_
          refine J_iinc (v := _ + 1) dX6_isHeld_74 rfl rfl rfl rfl ?_
          rw [show nI i + 1 = nI (i + 1) from (nI_succ i).symm]
          refine J_goto (tgt := 4) dX6_isHeld_77 (by decide) ?_
          refine J_lv [0, 1, 2] rfl ?_
          exact ih (i + 1) _ (by omega) (by first | (simp only [hd, h38, reduceIte]; done) | (simp only [hd, hd1, hdN, h38, h42, h54, h58, h65, reduceIte]; done) | (simp only [hd, hd1, hdN, h38, h42, h54, h58, reduceIte]; done) | (simp only [hd, hd1, hdN, h38, h42, h54, reduceIte]; done) | (simp only [hd, hd1, hdN, h38, h42, h58, h65, reduceIte]; done) | (simp only [hd, hd1, hdN, h38, h42, h58, reduceIte]; done))
        · refine J_iload dX6_isHeld_61 rfl ?_
          refine J_bipush (v := 14) dX6_isHeld_63 (by decide) ?_
          refine J_icmp_lt (tgt := 72) dX6_isHeld_65 (by decide) (fun h65 => ?_) (fun h65 => ?_)
          · refine J_iconst (v := 0) dX6_isHeld_72 (by decide) ?_
            refine J_istore_n dX6_isHeld_73 rfl rfl rfl ?_
            refine J_iinc (v := _ + 1) dX6_isHeld_74 rfl rfl rfl rfl ?_
            rw [show nI i + 1 = nI (i + 1) from (nI_succ i).symm]
            refine J_goto (tgt := 4) dX6_isHeld_77 (by decide) ?_
            refine J_lv [0, 1, 2] rfl ?_
            exact ih (i + 1) _ (by omega) (by first | (simp only [hd, h38, reduceIte]; done) | (simp only [hd, hd1, hdN, h38, h42, h54, h58, h65, reduceIte]; done) | (simp only [hd, hd1, hdN, h38, h42, h54, h58, reduceIte]; done) | (simp only [hd, hd1, hdN, h38, h42, h54, reduceIte]; done) | (simp only [hd, hd1, hdN, h38, h42, h58, h65, reduceIte]; done) | (simp only [hd, hd1, hdN, h38, h42, h58, reduceIte]; done))
          · refine J_iconst (v := 1) dX6_isHeld_68 (by decide) ?_
            refine J_goto (tgt := 73) dX6_isHeld_69 (by decide) ?_
            refine J_istore_n dX6_isHeld_73 rfl rfl rfl ?_
            refine J_iinc (v := _ + 1) dX6_isHeld_74 rfl rfl rfl rfl ?_
            rw [show nI i + 1 = nI (i + 1) from (nI_succ i).symm]
            refine J_goto (tgt := 4) dX6_isHeld_77 (by decide) ?_
            refine J_lv [0, 1, 2] rfl ?_
            exact ih (i + 1) _ (by omega) (by first | (simp only [hd, h38, reduceIte]; done) | (simp only [hd, hd1, hdN, h38, h42, h54, h58, h65, reduceIte]; done) | (simp only [hd, hd1, hdN, h38, h42, h54, h58, reduceIte]; done) | (simp only [hd, hd1, hdN, h38, h42, h54, reduceIte]; done) | (simp only [hd, hd1, hdN, h38, h42, h58, h65, reduceIte]; done) | (simp only [hd, hd1, hdN, h38, h42, h58, reduceIte]; done))
      · refine J_iload dX6_isHeld_45 rfl ?_
        refine J_bipush (v := 8) dX6_isHeld_47 (by decide) ?_
        refine J_bipush (v := 13) dX6_isHeld_49 (by decide) ?_
        refine cSi ws_X6_25 c_X6_in dX6_isHeld_51 (kk := ?_)
        refine J_if_ne (tgt := 68) dX6_isHeld_54 (by decide) (fun h54 => ?_) (fun h54 => ?_)
        · refine J_iconst (v := 1) dX6_isHeld_68 (by decide) ?_
          refine J_goto (tgt := 73) dX6_isHeld_69 (by decide) ?_
          refine J_istore_n dX6_isHeld_73 rfl rfl rfl ?_
          refine J_iinc (v := _ + 1) dX6_isHeld_74 rfl rfl rfl rfl ?_
          rw [show nI i + 1 = nI (i + 1) from (nI_succ i).symm]
          refine J_goto (tgt := 4) dX6_isHeld_77 (by decide) ?_
          refine J_lv [0, 1, 2] rfl ?_
          exact ih (i + 1) _ (by omega) (by first | (simp only [hd, h38, reduceIte]; done) | (simp only [hd, hd1, hdN, h38, h42, h54, h58, h65, reduceIte]; done) | (simp only [hd, hd1, hdN, h38, h42, h54, h58, reduceIte]; done) | (simp only [hd, hd1, hdN, h38, h42, h54, reduceIte]; done) | (simp only [hd, hd1, hdN, h38, h42, h58, h65, reduceIte]; done) | (simp only [hd, hd1, hdN, h38, h42, h58, reduceIte]; done))
        · refine J_iload_n dX6_isHeld_57 rfl rfl ?_
          refine J_if_ge (tgt := 72) dX6_isHeld_58 (by decide) (fun h58 => ?_) (fun h58 => ?_)
          · refine J_iconst (v := 0) dX6_isHeld_72 (by decide) ?_
            refine J_istore_n dX6_isHeld_73 rfl rfl rfl ?_
            refine J_iinc (v := _ + 1) dX6_isHeld_74 rfl rfl rfl rfl ?_
            rw [show nI i + 1 = nI (i + 1) from (nI_succ i).symm]
            refine J_goto (tgt := 4) dX6_isHeld_77 (by decide) ?_
            refine J_lv [0, 1, 2] rfl ?_
            exact ih (i + 1) _ (by omega) (by first | (simp only [hd, h38, reduceIte]; done) | (simp only [hd, hd1, hdN, h38, h42, h54, h58, h65, reduceIte]; done) | (simp only [hd, hd1, hdN, h38, h42, h54, h58, reduceIte]; done) | (simp only [hd, hd1, hdN, h38, h42, h54, reduceIte]; done) | (simp only [hd, hd1, hdN, h38, h42, h58, h65, reduceIte]; done) | (simp only [hd, hd1, hdN, h38, h42, h58, reduceIte]; done))
          · refine J_iload dX6_isHeld_61 rfl ?_
            refine J_bipush (v := 14) dX6_isHeld_63 (by decide) ?_
            refine J_icmp_lt (tgt := 72) dX6_isHeld_65 (by decide) (fun h65 => ?_) (fun h65 => ?_)
            · refine J_iconst (v := 0) dX6_isHeld_72 (by decide) ?_
              refine J_istore_n dX6_isHeld_73 rfl rfl rfl ?_
              refine J_iinc (v := _ + 1) dX6_isHeld_74 rfl rfl rfl rfl ?_
              rw [show nI i + 1 = nI (i + 1) from (nI_succ i).symm]
              refine J_goto (tgt := 4) dX6_isHeld_77 (by decide) ?_
              refine J_lv [0, 1, 2] rfl ?_
              exact ih (i + 1) _ (by omega) (by first | (simp only [hd, h38, reduceIte]; done) | (simp only [hd, hd1, hdN, h38, h42, h54, h58, h65, reduceIte]; done) | (simp only [hd, hd1, hdN, h38, h42, h54, h58, reduceIte]; done) | (simp only [hd, hd1, hdN, h38, h42, h54, reduceIte]; done) | (simp only [hd, hd1, hdN, h38, h42, h58, h65, reduceIte]; done) | (simp only [hd, hd1, hdN, h38, h42, h58, reduceIte]; done))
            · refine J_iconst (v := 1) dX6_isHeld_68 (by decide) ?_
              refine J_goto (tgt := 73) dX6_isHeld_69 (by decide) ?_
              refine J_istore_n dX6_isHeld_73 rfl rfl rfl ?_
              refine J_iinc (v := _ + 1) dX6_isHeld_74 rfl rfl rfl rfl ?_
              rw [show nI i + 1 = nI (i + 1) from (nI_succ i).symm]
              refine J_goto (tgt := 4) dX6_isHeld_77 (by decide) ?_
              refine J_lv [0, 1, 2] rfl ?_
              exact ih (i + 1) _ (by omega) (by first | (simp only [hd, h38, reduceIte]; done) | (simp only [hd, hd1, hdN, h38, h42, h54, h58, h65, reduceIte]; done) | (simp only [hd, hd1, hdN, h38, h42, h54, h58, reduceIte]; done) | (simp only [hd, hd1, hdN, h38, h42, h54, reduceIte]; done) | (simp only [hd, hd1, hdN, h38, h42, h58, h65, reduceIte]; done) | (simp only [hd, hd1, hdN, h38, h42, h58, reduceIte]; done))

set_option maxRecDepth 100000 in
set_option maxHeartbeats 4000000 in
theorem c_X6_isHeld {X : jX} {ad : Nat → Nat} {m : Mem} {s : Rw} {n : Nat} (hn : s 5 = nI n) (hn8 : n ≤ 8) : Cd X yX6_isHeld cX6_isHeld 5 (some .boolean) 1 ad [.ref 195] (SM m s) (some (.int (isH s n))) ((SM m s)) := by
  refine Cm.of (own := RX6) (nm := "isHeld") (by decide +kernel) rfl rfl rfl rfl ?_
  refine J_iconst (v := 0) dX6_isHeld_0 (by decide) ?_
  refine J_istore_n dX6_isHeld_1 rfl rfl rfl ?_
  refine J_iconst (v := 0) dX6_isHeld_2 (by decide) ?_
  refine J_istore_n dX6_isHeld_3 rfl rfl rfl ?_
  exact heldLoop hn hn8 n 0 _ (by omega) rfl

set_option maxRecDepth 100000 in
set_option maxHeartbeats 4000000 in
theorem c_serves0 {X : jX} {ad : Nat → Nat} {m : Mem} {s : Rw} {p : Int32} (hb : s 295 = -6) : Cd X yX6_serves cX6_serves 3 (none) 3 ad [.ref 195, .int p] (SM m s) none ((SM m s)) := by
  refine Cm.of (own := RX6) (nm := "serves") (by decide +kernel) rfl rfl rfl rfl ?_
  refine J_aload_n dX6_serves_0 rfl rfl ?_
  refine gX6_s wf_X6_7 dX6_serves_1 ?_
  refine J_sipush (v := 295) dX6_serves_4 (by decide) ?_
  refine rd_s 295 (by decide) (by decide) dX6_serves_7 ?_
  refine J_topi (fun z9 hz9 => ?_)
  obtain rfl : z9 = (-6) := hz9.trans (by exact hb)
  clear hz9
  refine J_istore_n dX6_serves_8 rfl rfl rfl ?_
  refine J_iload_n dX6_serves_9 rfl rfl ?_
  refine J_bipush (v := -6) dX6_serves_10 (by decide) ?_
  refine J_icmp_ne (tgt := 16) dX6_serves_12 (by decide) (fun h12 => absurd rfl h12) (fun h12 => ?_)
  refine r_void dX6_serves_15 ?_
  exact ⟨rfl, rfl⟩

theorem v256 : ∀ v, v < 768 → nI v + 256 = nI (v + 256) := by decide +kernel
set_option maxRecDepth 100000 in
set_option maxHeartbeats 4000000 in
theorem c_serves1 {X : jX} {ad : Nat → Nat} {m : Mem} {s : Rw} {n k : Nat} {p : Int32} (hW : OkW s n) (hkn : k < n) (hb : s 295 = nI k) (h768 : wv s k < 768) : Cd X yX6_serves cX6_serves 3 (none) 3 ad [.ref 195, .int p] (SM m s) none (SM m (srF s p k)) := by
  refine Cm.of (own := RX6) (nm := "serves") (by decide +kernel) rfl rfl rfl rfl ?_
  obtain ⟨h200, hn, hw⟩ := hW
  have hk : k < 200 := by omega
  obtain ⟨hv, hv2⟩ := hw k hkn
  refine J_aload_n dX6_serves_0 rfl rfl ?_
  refine gX6_s wf_X6_7 dX6_serves_1 ?_
  refine J_sipush (v := 295) dX6_serves_4 (by decide) ?_
  refine rd_s 295 (by decide) (by decide) dX6_serves_7 ?_
  refine J_topi (fun z9 hz9 => ?_)
  obtain rfl : z9 = (nI k) := hz9.trans (by exact hb)
  clear hz9
  refine J_istore_n dX6_serves_8 rfl rfl rfl ?_
  refine J_iload_n dX6_serves_9 rfl rfl ?_
  refine J_bipush (v := -6) dX6_serves_10 (by decide) ?_
  refine J_icmp_ne (tgt := 16) dX6_serves_12 (by decide) (fun h12 => ?_) (fun h12 => absurd h12 ((show ∀ k, k < 200 → ¬ nI k = -6 by decide) k hk))
  refine J_iload_n dX6_serves_16 rfl rfl ?_
  refine J_if_eq (tgt := 84) dX6_serves_17 (by decide) (fun h17 => ?_) (fun h17 => ?_)
  · refine J_aload_n dX6_serves_84 rfl rfl ?_
    refine gX6_s wf_X6_7 dX6_serves_85 ?_
    refine J_sipush (v := 296) dX6_serves_88 (by decide) ?_
    refine J_dup2 dX6_serves_91 rfl rfl ?_
    refine rd_s 296 (by decide) (by decide) dX6_serves_92 ?_
    refine J_iconst (v := 1) dX6_serves_93 (by decide) ?_
    refine J_isub dX6_serves_94 ?_
    refine wr_s 296 (by decide) (by decide) dX6_serves_95 ?_
    refine J_aload_n dX6_serves_96 rfl rfl ?_
    refine gX6_s wf_X6_7 dX6_serves_97 ?_
    refine J_sipush (v := 296) dX6_serves_100 (by decide) ?_
    refine rd_s 296 (by decide) (by decide) dX6_serves_103 ?_
    refine J_topi (fun z9 hz9 => ?_)
    obtain rfl : z9 = (s 296 - 1) := hz9.trans (by exact upd_same)
    clear hz9
    refine J_if_ne (tgt := 154) dX6_serves_104 (by decide) (fun h104 => ?_) (fun h104 => ?_)
    · refine r_void dX6_serves_154 ?_
      exact ⟨rfl, by first | (simp only [srF, h17, h75, reduceIte]; done) | (simp only [srF, h17, h104, reduceIte]; done)⟩
    · refine J_aload_n dX6_serves_107 rfl rfl ?_
      refine J_iload_n dX6_serves_108 rfl rfl ?_
      refine J_iconst (v := 2) dX6_serves_109 (by decide) ?_
      refine cVv wv_X6_39 (c_X6_becomes (k := k) (v := wv s k) (t := 2) hk (by rw [upd_at, if_neg (by omega)]; exact hv) hv2 (by decide)) dX6_serves_110 ob6 rfl rfl (kk := ?_)
      refine J_aload_n dX6_serves_113 rfl rfl ?_
      refine gX6_s wf_X6_7 dX6_serves_114 ?_
      refine J_sipush (v := 300) dX6_serves_117 (by decide) ?_
      refine J_dup2 dX6_serves_120 rfl rfl ?_
      refine rd_s 300 (by decide) (by decide) dX6_serves_121 ?_
      refine J_topi (fun z9 hz9 => ?_)
      obtain rfl : z9 = (s 300) := hz9.trans (by rw [upd_at, if_neg (by omega), upd_at, if_neg (by decide)])
      clear hz9
      refine J_iconst (v := 1) dX6_serves_122 (by decide) ?_
      refine J_iadd dX6_serves_123 ?_
      refine wr_s 300 (by decide) (by decide) dX6_serves_124 ?_
      refine J_aload_n dX6_serves_125 rfl rfl ?_
      refine gX6_s wf_X6_7 dX6_serves_126 ?_
      refine J_aload_n dX6_serves_129 rfl rfl ?_
      refine J_iload_n dX6_serves_130 rfl rfl ?_
      refine cVi wv_X6_33 (c_X6_fromOf (k := k) (v := setSt (wv s k) 2) hk (by rw [upd_at, if_neg (by omega), upd_same]) (setSt_lt hv2 (by decide))) dX6_serves_131 ob6 rfl rfl (kk := ?_)
      rw [show setSt (wv s k) 2 % 8 = wv s k % 8 by unfold setSt; omega]
      refine J_bipush (v := 9) dX6_serves_134 (by decide) ?_
      refine cSi ws_X6_58 (c_X6_ofBoard (i := wv s k % 8) (c := 9) 9 (by decide)) dX6_serves_136 (kk := ?_)
      refine J_dup2 dX6_serves_139 rfl rfl ?_
      refine rd_s (fb (wv s k % 8) 9) (fb_302 (by omega) (by decide)) rfl dX6_serves_140 ?_
      refine J_topi (fun z9 hz9 => ?_)
      obtain rfl : z9 = (s (fb (wv s k % 8) 9)) := hz9.trans (by rw [upd_fbxr (by omega) (by decide) (by omega), upd_fbxr (by omega) (by decide) (by omega), upd_fbxr (by omega) (by decide) (by omega)])
      clear hz9
      refine J_iconst (v := 1) dX6_serves_141 (by decide) ?_
      refine J_iadd dX6_serves_142 ?_
      refine wr_s (fb (wv s k % 8) 9) (fb_302 (by omega) (by decide)) rfl dX6_serves_143 ?_
      refine J_aload_n dX6_serves_144 rfl rfl ?_
      refine gX6_s wf_X6_7 dX6_serves_145 ?_
      refine J_sipush (v := 295) dX6_serves_148 (by decide) ?_
      refine J_bipush (v := -6) dX6_serves_151 (by decide) ?_
      refine wr_s 295 (by decide) (by decide) dX6_serves_153 ?_
      refine r_void dX6_serves_154 ?_
      exact ⟨rfl, by first | (simp only [srF, h17, h75, reduceIte]; done) | (simp only [srF, h17, h104, reduceIte]; done)⟩
  · refine J_aload_n dX6_serves_20 rfl rfl ?_
    refine gX6_s wf_X6_7 dX6_serves_21 ?_
    refine J_bipush (v := 95) dX6_serves_24 (by decide) ?_
    refine J_iload_n dX6_serves_26 rfl rfl ?_
    refine J_iadd dX6_serves_27 ?_
    refine J_dup2 dX6_serves_28 rfl rfl ?_
    refine rd_s (95 + k) (by omega) wd_i32 dX6_serves_29 ?_
    refine J_topi (fun z9 hz9 => ?_)
    obtain rfl : z9 = (nI (wv s k)) := hz9.trans (by exact hv)
    clear hz9
    refine J_sipush (v := 256) dX6_serves_30 (by decide) ?_
    refine J_iadd dX6_serves_33 ?_
    rw [v256 _ h768]
    refine wr_s (95 + k) (by omega) wd_i32 dX6_serves_34 ?_
    refine J_aload_n dX6_serves_35 rfl rfl ?_
    refine gX6_s wf_X6_7 dX6_serves_36 ?_
    refine J_sipush (v := 299) dX6_serves_39 (by decide) ?_
    refine J_dup2 dX6_serves_42 rfl rfl ?_
    refine rd_s 299 (by decide) (by decide) dX6_serves_43 ?_
    refine J_topi (fun z9 hz9 => ?_)
    obtain rfl : z9 = (s 299) := hz9.trans (by rw [upd_at, if_neg (by omega)])
    clear hz9
    refine J_iconst (v := 1) dX6_serves_44 (by decide) ?_
    refine J_iadd dX6_serves_45 ?_
    refine wr_s 299 (by decide) (by decide) dX6_serves_46 ?_
    refine J_aload_n dX6_serves_47 rfl rfl ?_
    refine gX6_s wf_X6_7 dX6_serves_48 ?_
    refine J_sipush (v := 296) dX6_serves_51 (by decide) ?_
    refine J_aload_n dX6_serves_54 rfl rfl ?_
    refine gX6_s wf_X6_7 dX6_serves_55 ?_
    refine J_iconst (v := 2) dX6_serves_58 (by decide) ?_
    refine rd_s 2 (by decide) (by decide) dX6_serves_59 ?_
    refine J_topi (fun z9 hz9 => ?_)
    obtain rfl : z9 = (s 2) := hz9.trans (by rw [upd_at, if_neg (by decide), upd_at, if_neg (by omega)])
    clear hz9
    refine wr_s 296 (by decide) (by decide) dX6_serves_60 ?_
    refine J_aload_n dX6_serves_61 rfl rfl ?_
    refine gX6_s wf_X6_7 dX6_serves_62 ?_
    refine J_bipush (v := 95) dX6_serves_65 (by decide) ?_
    refine J_iload_n dX6_serves_67 rfl rfl ?_
    refine J_iadd dX6_serves_68 ?_
    refine rd_s (95 + k) (by omega) wd_i32 dX6_serves_69 ?_
    refine J_topi (fun z9 hz9 => ?_)
    obtain rfl : z9 = (nI (wv s k + 256)) := hz9.trans (by rw [upd_at, if_neg (by omega), upd_at, if_neg (by omega), upd_same])
    clear hz9
    refine J_sipush (v := 256) dX6_serves_70 (by decide) ?_
    refine J_idiv dX6_serves_73 (by decide) ?_
    refine J_iconst (v := 3) dX6_serves_74 (by decide) ?_
    refine J_icmp_ne (tgt := 83) dX6_serves_75 (by decide) (fun h75 => ?_) (fun h75 => ?_)
    · refine r_void dX6_serves_83 ?_
      exact ⟨rfl, by first | (simp only [srF, h17, h75, reduceIte]; done) | (simp only [srF, h17, h104, reduceIte]; done)⟩
    · refine J_aload_n dX6_serves_78 rfl rfl ?_
      refine J_iload_n dX6_serves_79 rfl rfl ?_
      refine cVv wv_X6_66 (c_X6_isLost (k := k) (v := wv s k + 256) hk (by rw [upd_at, if_neg (by omega), upd_at, if_neg (by omega), upd_same]) (by omega)) dX6_serves_80 ob6 rfl rfl (kk := ?_)
      refine r_void dX6_serves_83 ?_
      exact ⟨rfl, by first | (simp only [srF, h17, h75, reduceIte]; done) | (simp only [srF, h17, h104, reduceIte]; done)⟩

set_option maxRecDepth 100000 in
set_option maxHeartbeats 4000000 in
theorem c_X6_greets {X : jX} {ad : Nat → Nat} {m : Mem} {s : Rw} {n i : Nat} (hW : OkW s n) (hi : i < 8) : Cd X yX6_greets cX6_greets 5 (none) 4 ad [.ref 195, .int (nI i)] (SM m s) none (SM m (grF s n i)) := by
  refine Cm.of (own := RX6) (nm := "greets") (by decide +kernel) rfl rfl rfl rfl ?_
  refine J_aload_n dX6_greets_0 rfl rfl ?_
  refine gX6_s wf_X6_7 dX6_greets_1 ?_
  refine J_iload_n dX6_greets_4 rfl rfl ?_
  refine J_iconst (v := 2) dX6_greets_5 (by decide) ?_
  refine cSi ws_X6_58 (c_X6_ofBoard (i := i) (c := 2) 2 (by decide)) dX6_greets_6 (kk := ?_)
  refine rd_s (fb i 2) (fb_302 (by omega) (by decide)) rfl dX6_greets_9 ?_
  refine J_bipush (v := -6) dX6_greets_10 (by decide) ?_
  refine J_icmp_eq (tgt := 34) dX6_greets_12 (by decide) (fun h12 => ?_) (fun h12 => ?_)
  · refine J_iconst (v := 0) dX6_greets_34 (by decide) ?_
    refine J_istore_n dX6_greets_35 rfl rfl rfl ?_
    refine J_aload_n dX6_greets_36 rfl rfl ?_
    refine gX6_s wf_X6_7 dX6_greets_37 ?_
    refine J_iload_n dX6_greets_40 rfl rfl ?_
    refine J_bipush (v := 6) dX6_greets_41 (by decide) ?_
    refine cSi ws_X6_58 (c_X6_ofBoard (i := i) (c := 6) 6 (by decide)) dX6_greets_43 (kk := ?_)
    refine rd_s (fb i 6) (fb_302 (by omega) (by decide)) rfl dX6_greets_46 ?_
    refine J_iconst (v := 1) dX6_greets_47 (by decide) ?_
    refine J_icmp_ne (tgt := 55) dX6_greets_48 (by decide) (fun h48 => ?_) (fun h48 => ?_)
    · refine J_iconst (v := 0) dX6_greets_55 (by decide) ?_
      refine J_istore_n dX6_greets_56 rfl rfl rfl ?_
      refine J_iload_n dX6_greets_57 rfl rfl ?_
      refine J_if_ne (tgt := 85) dX6_greets_58 (by decide) (fun h58 => absurd (by decide) h58) (fun h58 => ?_)
      refine J_aload_n dX6_greets_61 rfl rfl ?_
      refine gX6_s wf_X6_7 dX6_greets_62 ?_
      refine J_iload_n dX6_greets_65 rfl rfl ?_
      refine J_bipush (v := 8) dX6_greets_66 (by decide) ?_
      refine cSi ws_X6_58 (c_X6_ofBoard (i := i) (c := 8) 8 (by decide)) dX6_greets_68 (kk := ?_)
      refine J_iconst (v := 0) dX6_greets_71 (by decide) ?_
      refine wr_s (fb i 8) (fb_302 (by omega) (by decide)) rfl dX6_greets_72 ?_
      refine J_iload_n dX6_greets_73 rfl rfl ?_
      refine J_if_eq (tgt := 174) dX6_greets_74 (by decide) (fun h74 => ?_) (fun h74 => absurd (by decide) h74)
      refine r_void dX6_greets_174 ?_
      first | exact absurd h137 h164 | exact absurd h164 h137 | exact ⟨rfl, by first | (simp only [grF, h12, h48, reduceIte]; done) | (simp only [grF, h12, h27, h48, reduceIte]; done) | (simp only [grF, h12, h27, h48, h101, reduceIte]; done) | (simp only [grF, h12, h27, h48, h101, h137, reduceIte]; done)⟩
    · refine J_iconst (v := 1) dX6_greets_51 (by decide) ?_
      refine J_goto (tgt := 56) dX6_greets_52 (by decide) ?_
      refine J_istore_n dX6_greets_56 rfl rfl rfl ?_
      refine J_iload_n dX6_greets_57 rfl rfl ?_
      refine J_if_ne (tgt := 85) dX6_greets_58 (by decide) (fun h58 => absurd (by decide) h58) (fun h58 => ?_)
      refine J_aload_n dX6_greets_61 rfl rfl ?_
      refine gX6_s wf_X6_7 dX6_greets_62 ?_
      refine J_iload_n dX6_greets_65 rfl rfl ?_
      refine J_bipush (v := 8) dX6_greets_66 (by decide) ?_
      refine cSi ws_X6_58 (c_X6_ofBoard (i := i) (c := 8) 8 (by decide)) dX6_greets_68 (kk := ?_)
      refine J_iconst (v := 0) dX6_greets_71 (by decide) ?_
      refine wr_s (fb i 8) (fb_302 (by omega) (by decide)) rfl dX6_greets_72 ?_
      refine J_iload_n dX6_greets_73 rfl rfl ?_
      refine J_if_eq (tgt := 174) dX6_greets_74 (by decide) (fun h74 => absurd h74 (by decide)) (fun h74 => ?_)
      refine J_aload_n dX6_greets_77 rfl rfl ?_
      refine J_iload_n dX6_greets_78 rfl rfl ?_
      refine cVv wv_X6_70 (c_X6_forgets (n := n) (hW.fb hi (by decide)) hi) dX6_greets_79 ob6 rfl rfl (kk := ?_)
      refine J_goto (tgt := 174) dX6_greets_82 (by decide) ?_
      refine r_void dX6_greets_174 ?_
      first | exact absurd h137 h164 | exact absurd h164 h137 | exact ⟨rfl, by first | (simp only [grF, h12, h48, reduceIte]; done) | (simp only [grF, h12, h27, h48, reduceIte]; done) | (simp only [grF, h12, h27, h48, h101, reduceIte]; done) | (simp only [grF, h12, h27, h48, h101, h137, reduceIte]; done)⟩
  · refine J_aload_n dX6_greets_15 rfl rfl ?_
    refine gX6_s wf_X6_7 dX6_greets_16 ?_
    refine J_iload_n dX6_greets_19 rfl rfl ?_
    refine J_iconst (v := 3) dX6_greets_20 (by decide) ?_
    refine cSi ws_X6_58 (c_X6_ofBoard (i := i) (c := 3) 3 (by decide)) dX6_greets_21 (kk := ?_)
    refine rd_s (fb i 3) (fb_302 (by omega) (by decide)) rfl dX6_greets_24 ?_
    refine J_bipush (v := 20) dX6_greets_25 (by decide) ?_
    refine J_icmp_lt (tgt := 34) dX6_greets_27 (by decide) (fun h27 => ?_) (fun h27 => ?_)
    · refine J_iconst (v := 0) dX6_greets_34 (by decide) ?_
      refine J_istore_n dX6_greets_35 rfl rfl rfl ?_
      refine J_aload_n dX6_greets_36 rfl rfl ?_
      refine gX6_s wf_X6_7 dX6_greets_37 ?_
      refine J_iload_n dX6_greets_40 rfl rfl ?_
      refine J_bipush (v := 6) dX6_greets_41 (by decide) ?_
      refine cSi ws_X6_58 (c_X6_ofBoard (i := i) (c := 6) 6 (by decide)) dX6_greets_43 (kk := ?_)
      refine rd_s (fb i 6) (fb_302 (by omega) (by decide)) rfl dX6_greets_46 ?_
      refine J_iconst (v := 1) dX6_greets_47 (by decide) ?_
      refine J_icmp_ne (tgt := 55) dX6_greets_48 (by decide) (fun h48 => ?_) (fun h48 => ?_)
      · refine J_iconst (v := 0) dX6_greets_55 (by decide) ?_
        refine J_istore_n dX6_greets_56 rfl rfl rfl ?_
        refine J_iload_n dX6_greets_57 rfl rfl ?_
        refine J_if_ne (tgt := 85) dX6_greets_58 (by decide) (fun h58 => absurd (by decide) h58) (fun h58 => ?_)
        refine J_aload_n dX6_greets_61 rfl rfl ?_
        refine gX6_s wf_X6_7 dX6_greets_62 ?_
        refine J_iload_n dX6_greets_65 rfl rfl ?_
        refine J_bipush (v := 8) dX6_greets_66 (by decide) ?_
        refine cSi ws_X6_58 (c_X6_ofBoard (i := i) (c := 8) 8 (by decide)) dX6_greets_68 (kk := ?_)
        refine J_iconst (v := 0) dX6_greets_71 (by decide) ?_
        refine wr_s (fb i 8) (fb_302 (by omega) (by decide)) rfl dX6_greets_72 ?_
        refine J_iload_n dX6_greets_73 rfl rfl ?_
        refine J_if_eq (tgt := 174) dX6_greets_74 (by decide) (fun h74 => ?_) (fun h74 => absurd (by decide) h74)
        refine r_void dX6_greets_174 ?_
        first | exact absurd h137 h164 | exact absurd h164 h137 | exact ⟨rfl, by first | (simp only [grF, h12, h48, reduceIte]; done) | (simp only [grF, h12, h27, h48, reduceIte]; done) | (simp only [grF, h12, h27, h48, h101, reduceIte]; done) | (simp only [grF, h12, h27, h48, h101, h137, reduceIte]; done)⟩
      · refine J_iconst (v := 1) dX6_greets_51 (by decide) ?_
        refine J_goto (tgt := 56) dX6_greets_52 (by decide) ?_
        refine J_istore_n dX6_greets_56 rfl rfl rfl ?_
        refine J_iload_n dX6_greets_57 rfl rfl ?_
        refine J_if_ne (tgt := 85) dX6_greets_58 (by decide) (fun h58 => absurd (by decide) h58) (fun h58 => ?_)
        refine J_aload_n dX6_greets_61 rfl rfl ?_
        refine gX6_s wf_X6_7 dX6_greets_62 ?_
        refine J_iload_n dX6_greets_65 rfl rfl ?_
        refine J_bipush (v := 8) dX6_greets_66 (by decide) ?_
        refine cSi ws_X6_58 (c_X6_ofBoard (i := i) (c := 8) 8 (by decide)) dX6_greets_68 (kk := ?_)
        refine J_iconst (v := 0) dX6_greets_71 (by decide) ?_
        refine wr_s (fb i 8) (fb_302 (by omega) (by decide)) rfl dX6_greets_72 ?_
        refine J_iload_n dX6_greets_73 rfl rfl ?_
        refine J_if_eq (tgt := 174) dX6_greets_74 (by decide) (fun h74 => absurd h74 (by decide)) (fun h74 => ?_)
        refine J_aload_n dX6_greets_77 rfl rfl ?_
        refine J_iload_n dX6_greets_78 rfl rfl ?_
        refine cVv wv_X6_70 (c_X6_forgets (n := n) (hW.fb hi (by decide)) hi) dX6_greets_79 ob6 rfl rfl (kk := ?_)
        refine J_goto (tgt := 174) dX6_greets_82 (by decide) ?_
        refine r_void dX6_greets_174 ?_
        first | exact absurd h137 h164 | exact absurd h164 h137 | exact ⟨rfl, by first | (simp only [grF, h12, h48, reduceIte]; done) | (simp only [grF, h12, h27, h48, reduceIte]; done) | (simp only [grF, h12, h27, h48, h101, reduceIte]; done) | (simp only [grF, h12, h27, h48, h101, h137, reduceIte]; done)⟩
    · refine J_iconst (v := 1) dX6_greets_30 (by decide) ?_
      refine J_goto (tgt := 35) dX6_greets_31 (by decide) ?_
      refine J_istore_n dX6_greets_35 rfl rfl rfl ?_
      refine J_aload_n dX6_greets_36 rfl rfl ?_
      refine gX6_s wf_X6_7 dX6_greets_37 ?_
      refine J_iload_n dX6_greets_40 rfl rfl ?_
      refine J_bipush (v := 6) dX6_greets_41 (by decide) ?_
      refine cSi ws_X6_58 (c_X6_ofBoard (i := i) (c := 6) 6 (by decide)) dX6_greets_43 (kk := ?_)
      refine rd_s (fb i 6) (fb_302 (by omega) (by decide)) rfl dX6_greets_46 ?_
      refine J_iconst (v := 1) dX6_greets_47 (by decide) ?_
      refine J_icmp_ne (tgt := 55) dX6_greets_48 (by decide) (fun h48 => ?_) (fun h48 => ?_)
      · refine J_iconst (v := 0) dX6_greets_55 (by decide) ?_
        refine J_istore_n dX6_greets_56 rfl rfl rfl ?_
        refine J_iload_n dX6_greets_57 rfl rfl ?_
        refine J_if_ne (tgt := 85) dX6_greets_58 (by decide) (fun h58 => ?_) (fun h58 => absurd h58 (by decide))
        refine J_iload_n dX6_greets_85 rfl rfl ?_
        refine J_if_ne (tgt := 174) dX6_greets_86 (by decide) (fun h86 => absurd (by decide) h86) (fun h86 => ?_)
        refine J_aload_n dX6_greets_89 rfl rfl ?_
        refine gX6_s wf_X6_7 dX6_greets_90 ?_
        refine J_iload_n dX6_greets_93 rfl rfl ?_
        refine J_iconst (v := 5) dX6_greets_94 (by decide) ?_
        refine cSi ws_X6_58 (c_X6_ofBoard (i := i) (c := 5) 5 (by decide)) dX6_greets_95 (kk := ?_)
        refine rd_s (fb i 5) (fb_302 (by omega) (by decide)) rfl dX6_greets_98 ?_
        refine J_bipush (v := 100) dX6_greets_99 (by decide) ?_
        refine J_icmp_ne (tgt := 174) dX6_greets_101 (by decide) (fun h101 => ?_) (fun h101 => ?_)
        · refine r_void dX6_greets_174 ?_
          first | exact absurd h137 h164 | exact absurd h164 h137 | exact ⟨rfl, by first | (simp only [grF, h12, h48, reduceIte]; done) | (simp only [grF, h12, h27, h48, reduceIte]; done) | (simp only [grF, h12, h27, h48, h101, reduceIte]; done) | (simp only [grF, h12, h27, h48, h101, h137, reduceIte]; done)⟩
        · refine J_aload_n dX6_greets_104 rfl rfl ?_
          refine gX6_s wf_X6_7 dX6_greets_105 ?_
          refine J_iload_n dX6_greets_108 rfl rfl ?_
          refine J_bipush (v := 8) dX6_greets_109 (by decide) ?_
          refine cSi ws_X6_58 (c_X6_ofBoard (i := i) (c := 8) 8 (by decide)) dX6_greets_111 (kk := ?_)
          refine rd_s (fb i 8) (fb_302 (by omega) (by decide)) rfl dX6_greets_114 ?_
          refine J_iconst (v := 1) dX6_greets_115 (by decide) ?_
          refine J_iadd dX6_greets_116 ?_
          refine J_istore dX6_greets_117 rfl rfl ?_
          refine J_aload_n dX6_greets_119 rfl rfl ?_
          refine gX6_s wf_X6_7 dX6_greets_120 ?_
          refine J_iload_n dX6_greets_123 rfl rfl ?_
          refine J_bipush (v := 6) dX6_greets_124 (by decide) ?_
          refine cSi ws_X6_58 (c_X6_ofBoard (i := i) (c := 6) 6 (by decide)) dX6_greets_126 (kk := ?_)
          refine J_iload dX6_greets_129 rfl ?_
          refine J_aload_n dX6_greets_131 rfl rfl ?_
          refine gX6_s wf_X6_7 dX6_greets_132 ?_
          refine J_iconst (v := 3) dX6_greets_135 (by decide) ?_
          refine rd_s 3 (by decide) (by decide) dX6_greets_136 ?_
          refine J_icmp_lt (tgt := 144) dX6_greets_137 (by decide) (fun h137 => ?_) (fun h137 => ?_)
          · refine J_iconst (v := 0) dX6_greets_144 (by decide) ?_
            refine wr_s (fb i 6) (fb_302 (by omega) (by decide)) rfl dX6_greets_145 ?_
            refine J_aload_n dX6_greets_146 rfl rfl ?_
            refine gX6_s wf_X6_7 dX6_greets_147 ?_
            refine J_iload_n dX6_greets_150 rfl rfl ?_
            refine J_bipush (v := 8) dX6_greets_151 (by decide) ?_
            refine cSi ws_X6_58 (c_X6_ofBoard (i := i) (c := 8) 8 (by decide)) dX6_greets_153 (kk := ?_)
            refine J_iload dX6_greets_156 rfl ?_
            refine J_aload_n dX6_greets_158 rfl rfl ?_
            refine gX6_s wf_X6_7 dX6_greets_159 ?_
            refine J_iconst (v := 3) dX6_greets_162 (by decide) ?_
            refine rd_s 3 (by decide) (by decide) dX6_greets_163 ?_
            refine J_topi (fun z9 hz9 => ?_)
            obtain rfl : z9 = (s 3) := hz9.trans (by exact upd_fbx hi (by decide) (by omega))
            clear hz9
            refine J_icmp_lt (tgt := 171) dX6_greets_164 (by decide) (fun h164 => ?_) (fun h164 => ?_)
            · refine J_iload dX6_greets_171 rfl ?_
              refine wr_s (fb i 8) (fb_302 (by omega) (by decide)) rfl dX6_greets_173 ?_
              refine r_void dX6_greets_174 ?_
              first | exact absurd h137 h164 | exact absurd h164 h137 | exact ⟨rfl, by first | (simp only [grF, h12, h48, reduceIte]; done) | (simp only [grF, h12, h27, h48, reduceIte]; done) | (simp only [grF, h12, h27, h48, h101, reduceIte]; done) | (simp only [grF, h12, h27, h48, h101, h137, reduceIte]; done)⟩
            · refine J_iconst (v := 0) dX6_greets_167 (by decide) ?_
              refine J_goto (tgt := 173) dX6_greets_168 (by decide) ?_
              refine wr_s (fb i 8) (fb_302 (by omega) (by decide)) rfl dX6_greets_173 ?_
              refine r_void dX6_greets_174 ?_
              first | exact absurd h137 h164 | exact absurd h164 h137 | exact ⟨rfl, by first | (simp only [grF, h12, h48, reduceIte]; done) | (simp only [grF, h12, h27, h48, reduceIte]; done) | (simp only [grF, h12, h27, h48, h101, reduceIte]; done) | (simp only [grF, h12, h27, h48, h101, h137, reduceIte]; done)⟩
          · refine J_iconst (v := 1) dX6_greets_140 (by decide) ?_
            refine J_goto (tgt := 145) dX6_greets_141 (by decide) ?_
            refine wr_s (fb i 6) (fb_302 (by omega) (by decide)) rfl dX6_greets_145 ?_
            refine J_aload_n dX6_greets_146 rfl rfl ?_
            refine gX6_s wf_X6_7 dX6_greets_147 ?_
            refine J_iload_n dX6_greets_150 rfl rfl ?_
            refine J_bipush (v := 8) dX6_greets_151 (by decide) ?_
            refine cSi ws_X6_58 (c_X6_ofBoard (i := i) (c := 8) 8 (by decide)) dX6_greets_153 (kk := ?_)
            refine J_iload dX6_greets_156 rfl ?_
            refine J_aload_n dX6_greets_158 rfl rfl ?_
            refine gX6_s wf_X6_7 dX6_greets_159 ?_
            refine J_iconst (v := 3) dX6_greets_162 (by decide) ?_
            refine rd_s 3 (by decide) (by decide) dX6_greets_163 ?_
            refine J_topi (fun z9 hz9 => ?_)
            obtain rfl : z9 = (s 3) := hz9.trans (by exact upd_fbx hi (by decide) (by omega))
            clear hz9
            refine J_icmp_lt (tgt := 171) dX6_greets_164 (by decide) (fun h164 => ?_) (fun h164 => ?_)
            · refine J_iload dX6_greets_171 rfl ?_
              refine wr_s (fb i 8) (fb_302 (by omega) (by decide)) rfl dX6_greets_173 ?_
              refine r_void dX6_greets_174 ?_
              first | exact absurd h137 h164 | exact absurd h164 h137 | exact ⟨rfl, by first | (simp only [grF, h12, h48, reduceIte]; done) | (simp only [grF, h12, h27, h48, reduceIte]; done) | (simp only [grF, h12, h27, h48, h101, reduceIte]; done) | (simp only [grF, h12, h27, h48, h101, h137, reduceIte]; done)⟩
            · refine J_iconst (v := 0) dX6_greets_167 (by decide) ?_
              refine J_goto (tgt := 173) dX6_greets_168 (by decide) ?_
              refine wr_s (fb i 8) (fb_302 (by omega) (by decide)) rfl dX6_greets_173 ?_
              refine r_void dX6_greets_174 ?_
              first | exact absurd h137 h164 | exact absurd h164 h137 | exact ⟨rfl, by first | (simp only [grF, h12, h48, reduceIte]; done) | (simp only [grF, h12, h27, h48, reduceIte]; done) | (simp only [grF, h12, h27, h48, h101, reduceIte]; done) | (simp only [grF, h12, h27, h48, h101, h137, reduceIte]; done)⟩
      · refine J_iconst (v := 1) dX6_greets_51 (by decide) ?_
        refine J_goto (tgt := 56) dX6_greets_52 (by decide) ?_
        refine J_istore_n dX6_greets_56 rfl rfl rfl ?_
        refine J_iload_n dX6_greets_57 rfl rfl ?_
        refine J_if_ne (tgt := 85) dX6_greets_58 (by decide) (fun h58 => ?_) (fun h58 => absurd h58 (by decide))
        refine J_iload_n dX6_greets_85 rfl rfl ?_
        refine J_if_ne (tgt := 174) dX6_greets_86 (by decide) (fun h86 => ?_) (fun h86 => absurd h86 (by decide))
        refine r_void dX6_greets_174 ?_
        first | exact absurd h137 h164 | exact absurd h164 h137 | exact ⟨rfl, by first | (simp only [grF, h12, h48, reduceIte]; done) | (simp only [grF, h12, h27, h48, reduceIte]; done) | (simp only [grF, h12, h27, h48, h101, reduceIte]; done) | (simp only [grF, h12, h27, h48, h101, h137, reduceIte]; done)⟩

