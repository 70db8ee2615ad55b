theorem jinN {x : Int32} {n : Nat} (hn : n ≤ 1000) (h : ¬ jin x 0 (nI n - 1) = 0) : ∃ q, q < n ∧ x = nI q := by
  cases n with
  | zero =>
    obtain ⟨q, hq, -⟩ := jinB (n := 0) (by decide) h
    exact absurd hq (by omega)
  | succ n =>
    rw [nI_pred] at h
    obtain ⟨k, hk, e⟩ := jin_nat (n := n) (by decide) (nI_toInt (by omega)) h
    exact ⟨k, by omega, e⟩
def ofA (s : Rw) (n : Nat) (x y : Int32) : Int32 := if jin x 0 (nI n - 1) = 0 then -1 else if jin y 0 10 = 0 then -2 else if y = 4 then s (fb x.toNatClampNeg y.toNatClampNeg) + 100 else s (fb x.toNatClampNeg y.toNatClampNeg) + 0
def slA (s : Rw) (n : Nat) (x : Int32) : Int32 := if jin x 0 4 = 0 then -1 else bI s x n
def wdA (s : Rw) (k : Nat) : Nat → Int32
  | 0 => nI (wv s k % 8)
  | 1 => nI (wv s k / 8 % 8)
  | 2 => nI (wv s k / 64 % 4)
  | 3 => nI (wv s k) / 256
  | _ => if s 295 = nI k then s 296 else 0
def woA (s : Rw) (w : Nat) (x y : Int32) : Int32 := if jin x 0 (nI w - 1) = 0 then -1 else if y.toInt < 0 ∨ 4 < y.toInt then -2 else wdA s x.toNatClampNeg y.toNatClampNeg
/-- whether a word waits -/
def isW (s : Rw) (k : Nat) : Int32 := if nI (wv s k / 64 % 4) = 0 then 1 else 0
/-- the waiting words counted, and the one at the rank, from the first k words -/
def wtN (s : Rw) : Nat → Int32
  | 0 => 0
  | k + 1 => if isW s k = 0 then wtN s k + 0 else wtN s k + 1
def wtF (s : Rw) (x : Int32) : Nat → Int32
  | 0 => -1
  | k + 1 => if isW s k = 0 then wtF s x k else if wtN s k = x then nI k else wtF s x k
def bsB (s : Rw) (c : Int32) (k : Nat) : Int32 := if c = 0 then (if s (fb k 2) = -6 then 0 else 1) else (if s (fb k 6) = 1 then 1 else 0)
def bsS (s : Rw) (c : Int32) : Nat → Int32
  | 0 => 0
  | k + 1 => if bsB s c k = 0 then bsS s c k ||| 0 else bsS s c k ||| 1 <<< (nI k &&& 31)
def knB (s : Rw) (x : Int32) (k : Nat) : Int32 := if s (fb k 6) = 1 then (if s (fb k 0) = x then 1 else 0) else 0
def knF (s : Rw) (n : Nat) (x : Int32) : Nat → Int32
  | 0 => -6
  | j + 1 => if knB s x (n - 1 - j) = 0 then knF s n x j else nI (n - 1 - j)
def knA (s : Rw) (n : Nat) (x : Int32) : Int32 := if jin x 0 99 = 0 then -2 else knF s n x n
def whA (s : Rw) (n : Nat) (x y : Int32) : Int32 := if jin x 0 (nI n - 1) = 0 then -1 else if jin y 0 (nI n - 1) = 0 then -1 else if x = y then -2 else hiF s x.toNatClampNeg y.toNatClampNeg
set_option maxRecDepth 100000 in
set_option maxHeartbeats 4000000 in
theorem c_X6_of {X : jX} {ad : Nat → Nat} {m : Mem} {s : Rw} {n : Nat} {x y : Int32} (hn : s 5 = nI n) (hn8 : n ≤ 8) : Cd X yX6_of cX6_of 3 (some .int) 2 ad [.ref 195, .int x, .int y] (SM m s) (some (.int (ofA s n x y))) ((SM m s)) := by
  refine Cm.of (own := RX6) (nm := "of") (by decide +kernel) rfl rfl rfl rfl ?_
  refine J_aload_n dX6_of_0 rfl rfl ?_
  refine J_iload_n dX6_of_1 rfl rfl ?_
  refine cVi wv_X6_117 (c_X6_isBoard (n := n) hn) dX6_of_2 ob6 rfl rfl (kk := ?_)
  refine J_if_ne (tgt := 10) dX6_of_5 (by decide) (fun h5 => ?_) (fun h5 => ?_)
  · refine J_iload_n dX6_of_10 rfl rfl ?_
    refine J_iconst (v := 0) dX6_of_11 (by decide) ?_
    refine J_bipush (v := 10) dX6_of_12 (by decide) ?_
    refine cSi ws_X6_25 c_X6_in dX6_of_14 (kk := ?_)
    refine J_if_ne (tgt := 23) dX6_of_17 (by decide) (fun h17 => ?_) (fun h17 => ?_)
    · obtain ⟨q, hq, rfl⟩ := jinB hn8 h5
      obtain ⟨k, hk, rfl⟩ := jin_nat (n := 10) (by decide) rfl h17
      have e8 := cl8 hq hn8
      have e9 : (nI k).toNatClampNeg = k := nI_cl (by omega)
      refine J_aload_n dX6_of_23 rfl rfl ?_
      refine gX6_s wf_X6_7 dX6_of_24 ?_
      refine J_iload_n dX6_of_27 rfl rfl ?_
      refine J_iload_n dX6_of_28 rfl rfl ?_
      refine cSi ws_X6_58 (c_X6_ofBoard (i := q) (c := nI k) k rfl) dX6_of_29 (kk := ?_)
      refine rd_s (fb q k) (fb_302 (by omega) (by omega)) rfl dX6_of_32 ?_
      refine J_iload_n dX6_of_33 rfl rfl ?_
      refine J_iconst (v := 4) dX6_of_34 (by decide) ?_
      refine J_icmp_ne (tgt := 43) dX6_of_35 (by decide) (fun h35 => ?_) (fun h35 => ?_)
      · refine J_iconst (v := 0) dX6_of_43 (by decide) ?_
        refine J_iadd dX6_of_44 ?_
        refine r_int dX6_of_45 ?_
        exact ⟨by first | (simp only [ofA, h5, reduceIte]; done) | (simp only [ofA, h5, h17, reduceIte]; done) | (rw [ofA, if_neg h5, if_neg h17, if_pos h35, e8, e9]; done) | (rw [ofA, if_neg h5, if_neg h17, if_neg h35, e8, e9]; done), rfl⟩
      · refine J_bipush (v := 100) dX6_of_38 (by decide) ?_
        refine J_goto (tgt := 44) dX6_of_40 (by decide) ?_
        refine J_iadd dX6_of_44 ?_
        refine r_int dX6_of_45 ?_
        exact ⟨by first | (simp only [ofA, h5, reduceIte]; done) | (simp only [ofA, h5, h17, reduceIte]; done) | (rw [ofA, if_neg h5, if_neg h17, if_pos h35, e8, e9]; done) | (rw [ofA, if_neg h5, if_neg h17, if_neg h35, e8, e9]; done), rfl⟩
    · refine J_bipush (v := -2) dX6_of_20 (by decide) ?_
      refine r_int dX6_of_22 ?_
      exact ⟨by first | (simp only [ofA, h5, reduceIte]; done) | (simp only [ofA, h5, h17, reduceIte]; done) | (rw [ofA, if_neg h5, if_neg h17, if_pos h35, e8, e9]; done) | (rw [ofA, if_neg h5, if_neg h17, if_neg h35, e8, e9]; done), rfl⟩
  · refine J_iconst (v := -1) dX6_of_8 (by decide) ?_
    refine r_int dX6_of_9 ?_
    exact ⟨by first | (simp only [ofA, h5, reduceIte]; done) | (simp only [ofA, h5, h17, reduceIte]; done) | (rw [ofA, if_neg h5, if_neg h17, if_pos h35, e8, e9]; done) | (rw [ofA, if_neg h5, if_neg h17, if_neg h35, e8, e9]; done), rfl⟩

set_option maxRecDepth 100000 in
set_option maxHeartbeats 4000000 in
theorem c_X6_slot {X : jX} {ad : Nat → Nat} {m : Mem} {s : Rw} {n : Nat} {x : Int32} (hn : s 5 = nI n) (hn8 : n ≤ 8) : Cd X yX6_slot cX6_slot 2 (some .int) 2 ad [.ref 195, .int x] (SM m s) (some (.int (slA s n x))) ((SM m s)) := by
  refine Cm.of (own := RX6) (nm := "slot") (by decide +kernel) rfl rfl rfl rfl ?_
  refine J_iload_n dX6_slot_0 rfl rfl ?_
  refine cSi ws_X6_120 c_X6_isSlot dX6_slot_1 (kk := ?_)
  refine J_if_eq (tgt := 15) dX6_slot_4 (by decide) (fun h4 => ?_) (fun h4 => ?_)
  · refine J_iconst (v := -1) dX6_slot_15 (by decide) ?_
    refine r_int dX6_slot_16 ?_
    exact ⟨by first | (simp only [slA, h4, reduceIte]; done), rfl⟩
  · refine J_aload_n dX6_slot_7 rfl rfl ?_
    refine J_iload_n dX6_slot_8 rfl rfl ?_
    refine cVi wv_X6_76 (c_X6_boardIn (n := n) hn hn8) dX6_slot_9 ob6 rfl rfl (kk := ?_)
    refine J_goto (tgt := 16) dX6_slot_12 (by decide) ?_
    refine r_int dX6_slot_16 ?_
    exact ⟨by first | (simp only [slA, h4, reduceIte]; done), rfl⟩

set_option maxRecDepth 100000 in
set_option maxHeartbeats 4000000 in
theorem c_X6_word {X : jX} {ad : Nat → Nat} {m : Mem} {s : Rw} {w : Nat} {x y : Int32} (hW : OkW s w) : Cd X yX6_word cX6_word 3 (some .int) 1 ad [.ref 195, .int x, .int y] (SM m s) (some (.int (woA s w x y))) ((SM m s)) := by
  refine Cm.of (own := RX6) (nm := "word") (by decide +kernel) rfl rfl rfl rfl ?_
  obtain ⟨h200, hn, hw⟩ := id hW
  refine J_iload_n dX6_word_0 rfl rfl ?_
  refine J_iconst (v := 0) dX6_word_1 (by decide) ?_
  refine J_aload_n dX6_word_2 rfl rfl ?_
  refine gX6_s wf_X6_7 dX6_word_3 ?_
  refine J_bipush (v := 94) dX6_word_6 (by decide) ?_
  refine rd_s 94 (by decide) (by decide) dX6_word_8 ?_
  refine J_topi (fun z9 hz9 => ?_)
  obtain rfl : z9 = (nI w) := hz9.trans (by exact hn)
  clear hz9
  refine J_iconst (v := 1) dX6_word_9 (by decide) ?_
  refine J_isub dX6_word_10 ?_
  refine cSi ws_X6_25 c_X6_in dX6_word_11 (kk := ?_)
  refine J_if_ne (tgt := 19) dX6_word_14 (by decide) (fun h14 => ?_) (fun h14 => ?_)
  · have h14c := h14
    obtain ⟨q, hq, rfl⟩ := jinN (by omega) h14
    have e8 : (nI q).toNatClampNeg = q := nI_cl (by omega)
    obtain ⟨hv, hv2⟩ := hw q hq
    refine J_iload_n dX6_word_19 rfl rfl ?_
    by_cases hts : y.toInt < 0 ∨ 4 < y.toInt
    · refine J_tableOut (tgt := 113) dX6_word_20 hts (by decide) ?_
      refine J_bipush (v := -2) dX6_word_113 (by decide) ?_
      refine r_int dX6_word_115 ?_
      exact ⟨by first | (simp only [woA, h14, hts, reduceIte]; done) | (rw [woA, if_neg h14, if_pos hts]), rfl⟩
    · obtain ⟨k, hk, rfl⟩ := tin (n := 5) (m := 4) rfl hts
      match k, hk with
      | 0, _ =>
        refine J_tableIn (off := 36) (tgt := 56) dX6_word_20 (by decide) (by decide) (by decide) (by decide) ?_
        refine J_aload_n dX6_word_56 rfl rfl ?_
        refine J_iload_n dX6_word_57 rfl rfl ?_
        refine cVi wv_X6_33 (c_X6_fromOf (k := q) (by omega) hv hv2) dX6_word_58 ob6 rfl rfl (kk := ?_)
        refine r_int dX6_word_61 ?_
        exact ⟨by rw [woA, if_neg h14, if_neg (by decide), e8]; rfl, rfl⟩
      | 1, _ =>
        refine J_tableIn (off := 42) (tgt := 62) dX6_word_20 (by decide) (by decide) (by decide) (by decide) ?_
        refine J_aload_n dX6_word_62 rfl rfl ?_
        refine J_iload_n dX6_word_63 rfl rfl ?_
        refine cVi wv_X6_36 (c_X6_toOf (k := q) (by omega) hv hv2) dX6_word_64 ob6 rfl rfl (kk := ?_)
        refine r_int dX6_word_67 ?_
        exact ⟨by rw [woA, if_neg h14, if_neg (by decide), e8]; rfl, rfl⟩
      | 2, _ =>
        refine J_tableIn (off := 48) (tgt := 68) dX6_word_20 (by decide) (by decide) (by decide) (by decide) ?_
        refine J_aload_n dX6_word_68 rfl rfl ?_
        refine J_iload_n dX6_word_69 rfl rfl ?_
        refine cVi wv_X6_29 (c_X6_stateOf (k := q) (by omega) hv hv2) dX6_word_70 ob6 rfl rfl (kk := ?_)
        refine r_int dX6_word_73 ?_
        exact ⟨by rw [woA, if_neg h14, if_neg (by decide), e8]; rfl, rfl⟩
      | 3, _ =>
        refine J_tableIn (off := 54) (tgt := 74) dX6_word_20 (by decide) (by decide) (by decide) (by decide) ?_
        refine J_aload_n dX6_word_74 rfl rfl ?_
        refine gX6_s wf_X6_7 dX6_word_75 ?_
        refine J_bipush (v := 95) dX6_word_78 (by decide) ?_
        refine J_iload_n dX6_word_80 rfl rfl ?_
        refine J_iadd dX6_word_81 ?_
        refine rd_s (95 + q) (by omega) wd_i32 dX6_word_82 ?_
        refine J_topi (fun z9 hz9 => ?_)
        obtain rfl : z9 = (nI (wv s q)) := hz9.trans (by exact hv)
        clear hz9
        refine J_sipush (v := 256) dX6_word_83 (by decide) ?_
        refine J_idiv dX6_word_86 (by decide) ?_
        refine r_int dX6_word_87 ?_
        exact ⟨by rw [woA, if_neg h14, if_neg (by decide), e8]; rfl, rfl⟩
      | 4, _ =>
        refine J_tableIn (off := 68) (tgt := 88) dX6_word_20 (by decide) (by decide) (by decide) (by decide) ?_
        refine J_aload_n dX6_word_88 rfl rfl ?_
        refine gX6_s wf_X6_7 dX6_word_89 ?_
        refine J_sipush (v := 295) dX6_word_92 (by decide) ?_
        refine rd_s 295 (by decide) (by decide) dX6_word_95 ?_
        refine J_iload_n dX6_word_96 rfl rfl ?_
        refine J_icmp_ne (tgt := 111) dX6_word_97 (by decide) (fun h97 => ?_) (fun h97 => ?_)
        · refine J_iconst (v := 0) dX6_word_111 (by decide) ?_
          refine r_int dX6_word_112 ?_
          exact ⟨by rw [woA, if_neg h14, if_neg (by decide), e8]; first | (exact (congrArg (fun z => some (Value.int z)) (if_pos h97)).symm) | (exact (congrArg (fun z => some (Value.int z)) (if_neg h97)).symm), rfl⟩
        · refine J_aload_n dX6_word_100 rfl rfl ?_
          refine gX6_s wf_X6_7 dX6_word_101 ?_
          refine J_sipush (v := 296) dX6_word_104 (by decide) ?_
          refine rd_s 296 (by decide) (by decide) dX6_word_107 ?_
          refine J_goto (tgt := 112) dX6_word_108 (by decide) ?_
          refine r_int dX6_word_112 ?_
          exact ⟨by rw [woA, if_neg h14, if_neg (by decide), e8]; first | (exact (congrArg (fun z => some (Value.int z)) (if_pos h97)).symm) | (exact (congrArg (fun z => some (Value.int z)) (if_neg h97)).symm), rfl⟩
      | k + 5, hk => exact absurd hk (by omega)
  · refine J_iconst (v := -1) dX6_word_17 (by decide) ?_
    refine r_int dX6_word_18 ?_
    exact ⟨by simp only [woA, h14, reduceIte], rfl⟩

set_option maxRecDepth 100000 in
set_option maxHeartbeats 4000000 in
theorem waitLoop {X : jX} {ad : Nat → Nat} {m : Mem} {s : Rw} {n : Nat} {x : Int32} (hW : OkW s n) : ∀ (j i : Nat) (a b : Int32), i + j = n → a = wtF s x i → b = wtN s i → Jg X RX6 cX6_waiting 6 (some .int) "waiting" 1 0 0 (QF X ad (fun v m9 => v = some (.int (wtF s x n)) ∧ m9 = SM m s)) ad 0 0 7 [(0, .ref 195), (1, .int x), (2, .int a), (3, .int b), (4, .int (nI i))] [] (WS X ad (SM m s)) := by
  obtain ⟨h200, hn, hw⟩ := id hW
  intro j
  induction j with
  | zero =>
    intro i a b hi ha hb
    obtain rfl : i = n := by omega
    refine J_iload dX6_waiting_7 rfl ?_
    refine J_aload_n dX6_waiting_9 rfl rfl ?_
    refine gX6_s wf_X6_7 dX6_waiting_10 ?_
    refine J_bipush (v := 94) dX6_waiting_13 (by decide) ?_
    refine rd_s 94 (by decide) (by decide) dX6_waiting_15 ?_
    refine J_topi (fun z9 hz9 => ?_)
    obtain rfl : z9 = (nI i) := hz9.trans (by exact hn)
    clear hz9
    refine J_icmp_ge (tgt := 71) dX6_waiting_16 (by decide) (fun h16 => ?_) (fun h16 => absurd (nI_le1 (Nat.le_refl _) (by omega)) h16)
    refine J_iload_n dX6_waiting_71 rfl rfl ?_
    refine r_int dX6_waiting_72 ?_
    exact ⟨by rw [ha], rfl⟩
  | succ j ih =>
    intro i a b hi ha hb
    have hk : i < 200 := by omega
    obtain ⟨hv, hv2⟩ := hw i (by omega)
    refine J_iload dX6_waiting_7 rfl ?_
    refine J_aload_n dX6_waiting_9 rfl rfl ?_
    refine gX6_s wf_X6_7 dX6_waiting_10 ?_
    refine J_bipush (v := 94) dX6_waiting_13 (by decide) ?_
    refine rd_s 94 (by decide) (by decide) dX6_waiting_15 ?_
    refine J_topi (fun z9 hz9 => ?_)
    obtain rfl : z9 = (nI n) := hz9.trans (by exact hn)
    clear hz9
    refine J_icmp_ge (tgt := 71) dX6_waiting_16 (by decide) (fun h16 => absurd h16 (nI_nle1 (by omega) (by omega))) (fun h16 => ?_)
    refine J_aload_n dX6_waiting_19 rfl rfl ?_
    refine J_iload dX6_waiting_20 rfl ?_
    refine cVi wv_X6_29 (c_X6_stateOf (k := i) hk hv hv2) dX6_waiting_22 ob6 rfl rfl (kk := ?_)
    refine J_if_ne (tgt := 32) dX6_waiting_25 (by decide) (fun h25 => ?_) (fun h25 => ?_)
    · refine J_iconst (v := 0) dX6_waiting_32 (by decide) ?_
      refine J_istore dX6_waiting_33 rfl rfl ?_
      refine J_iload dX6_waiting_35 rfl ?_
      refine J_if_eq (tgt := 50) dX6_waiting_37 (by decide) (fun h37 => ?_) (fun h37 => absurd (by decide) h37)
      refine J_iload_n dX6_waiting_50 rfl rfl ?_
      refine J_istore_n dX6_waiting_51 rfl rfl rfl ?_
      refine J_iload_n dX6_waiting_52 rfl rfl ?_
      refine J_iload dX6_waiting_53 rfl ?_
      refine J_if_eq (tgt := 62) dX6_waiting_55 (by decide) (fun h55 => ?_) (fun h55 => absurd (by decide) h55)
      refine J_iconst (v := 0) dX6_waiting_62 (by decide) ?_
      refine J_iadd dX6_waiting_63 ?_
      refine J_istore_n dX6_waiting_64 rfl rfl rfl ?_
      refine J_iinc (v := _ + 1) dX6_waiting_65 rfl rfl rfl rfl ?_
      rw [show nI i + 1 = nI (i + 1) from (nI_succ i).symm]
      refine J_goto (tgt := 7) dX6_waiting_68 (by decide) ?_
      refine J_lv [0, 1, 2, 3, 4] rfl ?_
      exact ih (i + 1) _ _ (by omega) (by subst ha hb; first | (simp only [wtF, wtN, isW, n10, h25, reduceIte]; done) | (simp only [wtF, wtN, isW, n10, h25, h42, reduceIte]; done)) (by subst ha hb; first | (simp only [wtF, wtN, isW, n10, h25, reduceIte]; done) | (simp only [wtF, wtN, isW, n10, h25, h42, reduceIte]; done))
    · refine J_iconst (v := 1) dX6_waiting_28 (by decide) ?_
      refine J_goto (tgt := 33) dX6_waiting_29 (by decide) ?_
      refine J_istore dX6_waiting_33 rfl rfl ?_
      refine J_iload dX6_waiting_35 rfl ?_
      refine J_if_eq (tgt := 50) dX6_waiting_37 (by decide) (fun h37 => absurd h37 (by decide)) (fun h37 => ?_)
      refine J_iload_n dX6_waiting_40 rfl rfl ?_
      refine J_iload_n dX6_waiting_41 rfl rfl ?_
      refine J_icmp_ne (tgt := 50) dX6_waiting_42 (by decide) (fun h42 => ?_) (fun h42 => ?_)
      · refine J_iload_n dX6_waiting_50 rfl rfl ?_
        refine J_istore_n dX6_waiting_51 rfl rfl rfl ?_
        refine J_iload_n dX6_waiting_52 rfl rfl ?_
        refine J_iload dX6_waiting_53 rfl ?_
        refine J_if_eq (tgt := 62) dX6_waiting_55 (by decide) (fun h55 => absurd h55 (by decide)) (fun h55 => ?_)
        refine J_iconst (v := 1) dX6_waiting_58 (by decide) ?_
        refine J_goto (tgt := 63) dX6_waiting_59 (by decide) ?_
        refine J_iadd dX6_waiting_63 ?_
        refine J_istore_n dX6_waiting_64 rfl rfl rfl ?_
        refine J_iinc (v := _ + 1) dX6_waiting_65 rfl rfl rfl rfl ?_
        rw [show nI i + 1 = nI (i + 1) from (nI_succ i).symm]
        refine J_goto (tgt := 7) dX6_waiting_68 (by decide) ?_
        refine J_lv [0, 1, 2, 3, 4] rfl ?_
        exact ih (i + 1) _ _ (by omega) (by subst ha hb; first | (simp only [wtF, wtN, isW, n10, h25, reduceIte]; done) | (simp only [wtF, wtN, isW, n10, h25, h42, reduceIte]; done)) (by subst ha hb; first | (simp only [wtF, wtN, isW, n10, h25, reduceIte]; done) | (simp only [wtF, wtN, isW, n10, h25, h42, reduceIte]; done))
      · refine J_iload dX6_waiting_45 rfl ?_
        refine J_goto (tgt := 51) dX6_waiting_47 (by decide) ?_
        refine J_istore_n dX6_waiting_51 rfl rfl rfl ?_
        refine J_iload_n dX6_waiting_52 rfl rfl ?_
        refine J_iload dX6_waiting_53 rfl ?_
        refine J_if_eq (tgt := 62) dX6_waiting_55 (by decide) (fun h55 => absurd h55 (by decide)) (fun h55 => ?_)
        refine J_iconst (v := 1) dX6_waiting_58 (by decide) ?_
        refine J_goto (tgt := 63) dX6_waiting_59 (by decide) ?_
        refine J_iadd dX6_waiting_63 ?_
        refine J_istore_n dX6_waiting_64 rfl rfl rfl ?_
        refine J_iinc (v := _ + 1) dX6_waiting_65 rfl rfl rfl rfl ?_
        rw [show nI i + 1 = nI (i + 1) from (nI_succ i).symm]
        refine J_goto (tgt := 7) dX6_waiting_68 (by decide) ?_
        refine J_lv [0, 1, 2, 3, 4] rfl ?_
        exact ih (i + 1) _ _ (by omega) (by subst ha hb; first | (simp only [wtF, wtN, isW, n10, h25, reduceIte]; done) | (simp only [wtF, wtN, isW, n10, h25, h42, reduceIte]; done)) (by subst ha hb; first | (simp only [wtF, wtN, isW, n10, h25, reduceIte]; done) | (simp only [wtF, wtN, isW, n10, h25, h42, reduceIte]; done))

set_option maxRecDepth 100000 in
set_option maxHeartbeats 4000000 in
theorem c_X6_waiting {X : jX} {ad : Nat → Nat} {m : Mem} {s : Rw} {n : Nat} {x : Int32} (hW : OkW s n) : Cd X yX6_waiting cX6_waiting 6 (some .int) 1 ad [.ref 195, .int x] (SM m s) (some (.int (wtF s x n))) ((SM m s)) := by
  refine Cm.of (own := RX6) (nm := "waiting") (by decide +kernel) rfl rfl rfl rfl ?_
  refine J_iconst (v := -1) dX6_waiting_0 (by decide) ?_
  refine J_istore_n dX6_waiting_1 rfl rfl rfl ?_
  refine J_iconst (v := 0) dX6_waiting_2 (by decide) ?_
  refine J_istore_n dX6_waiting_3 rfl rfl rfl ?_
  refine J_iconst (v := 0) dX6_waiting_4 (by decide) ?_
  refine J_istore dX6_waiting_5 rfl rfl ?_
  exact waitLoop hW n 0 _ _ (by omega) rfl rfl

set_option maxRecDepth 100000 in
set_option maxHeartbeats 4000000 in
theorem boardsLoop {X : jX} {ad : Nat → Nat} {m : Mem} {s : Rw} {n : Nat} {c : Int32}  (hn : s 5 = nI n) (hn8 : n ≤ 8) : ∀ (j i : Nat) (a : Int32), i + j = n → a = bsS s c i → Jg X RX6 cX6_boards 5 (some .int) "boards" 1 0 0 (QF X ad (fun v m9 => v = some (.int (bsS s c n)) ∧ m9 = SM m s)) ad 0 0 4 [(0, .ref 195), (1, .int c), (2, .int a), (3, .int (nI i))] [] (WS X ad (SM m s)) := by
  intro j
  induction j with
  | zero =>
    intro i a hi ha
    obtain rfl : i = n := by omega
    refine J_iload_n dX6_boards_4 rfl rfl ?_
    refine J_aload_n dX6_boards_5 rfl rfl ?_
    refine gX6_s wf_X6_7 dX6_boards_6 ?_
    refine J_iconst (v := 5) dX6_boards_9 (by decide) ?_
    refine rd_s 5 (by decide) (by decide) dX6_boards_10 ?_
    refine J_topi (fun z9 hz9 => ?_)
    obtain rfl : z9 = (nI i) := hz9.trans (by exact hn)
    clear hz9
    refine J_icmp_ge (tgt := 84) dX6_boards_11 (by decide) (fun h11 => ?_) (fun h11 => absurd (nI_le1 (Nat.le_refl _) (by omega)) h11)
    refine J_iload_n dX6_boards_84 rfl rfl ?_
    refine r_int dX6_boards_85 ?_
    exact ⟨by rw [ha], rfl⟩
  | succ j ih =>
    intro i a hi ha
    refine J_iload_n dX6_boards_4 rfl rfl ?_
    refine J_aload_n dX6_boards_5 rfl rfl ?_
    refine gX6_s wf_X6_7 dX6_boards_6 ?_
    refine J_iconst (v := 5) dX6_boards_9 (by decide) ?_
    refine rd_s 5 (by decide) (by decide) dX6_boards_10 ?_
    refine J_topi (fun z9 hz9 => ?_)
    obtain rfl : z9 = (nI n) := hz9.trans (by exact hn)
    clear hz9
    refine J_icmp_ge (tgt := 84) dX6_boards_11 (by decide) (fun h11 => absurd h11 (nI_nle1 (by omega) (by omega))) (fun h11 => ?_)
    refine J_iload_n dX6_boards_14 rfl rfl ?_
    refine J_if_eq (tgt := 41) dX6_boards_15 (by decide) (fun h15 => ?_) (fun h15 => ?_)
    · refine J_aload_n dX6_boards_41 rfl rfl ?_
      refine gX6_s wf_X6_7 dX6_boards_42 ?_
      refine J_iload_n dX6_boards_45 rfl rfl ?_
      refine J_iconst (v := 2) dX6_boards_46 (by decide) ?_
      refine cSi ws_X6_58 (c_X6_ofBoard (i := i) (c := 2) 2 (by decide)) dX6_boards_47 (kk := ?_)
      refine rd_s (fb i 2) (fb_302 (by omega) (by decide)) rfl dX6_boards_50 ?_
      refine J_bipush (v := -6) dX6_boards_51 (by decide) ?_
      refine J_icmp_eq (tgt := 60) dX6_boards_53 (by decide) (fun h53 => ?_) (fun h53 => ?_)
      · refine J_iconst (v := 0) dX6_boards_60 (by decide) ?_
        refine J_istore dX6_boards_61 rfl rfl ?_
        refine J_iload_n dX6_boards_63 rfl rfl ?_
        refine J_iload dX6_boards_64 rfl ?_
        refine J_if_eq (tgt := 75) dX6_boards_66 (by decide) (fun h66 => ?_) (fun h66 => absurd (by decide) h66)
        refine J_iconst (v := 0) dX6_boards_75 (by decide) ?_
        refine J_ior dX6_boards_76 ?_
        refine J_istore_n dX6_boards_77 rfl rfl rfl ?_
        refine J_iinc (v := _ + 1) dX6_boards_78 rfl rfl rfl rfl ?_
        rw [show nI i + 1 = nI (i + 1) from (nI_succ i).symm]
        refine J_goto (tgt := 4) dX6_boards_81 (by decide) ?_
        refine J_lv [0, 1, 2, 3] rfl ?_
        exact ih (i + 1) _ (by omega) (by rw [ha]; first | (simp only [bsS, bsB, n10, h15, h30, reduceIte]; done) | (simp only [bsS, bsB, n10, h15, h53, reduceIte]; done))
      · refine J_iconst (v := 1) dX6_boards_56 (by decide) ?_
        refine J_goto (tgt := 61) dX6_boards_57 (by decide) ?_
        refine J_istore dX6_boards_61 rfl rfl ?_
        refine J_iload_n dX6_boards_63 rfl rfl ?_
        refine J_iload dX6_boards_64 rfl ?_
        refine J_if_eq (tgt := 75) dX6_boards_66 (by decide) (fun h66 => absurd h66 (by decide)) (fun h66 => ?_)
        refine J_iconst (v := 1) dX6_boards_69 (by decide) ?_
        refine J_iload_n dX6_boards_70 rfl rfl ?_
        refine J_ishl dX6_boards_71 ?_
        refine J_goto (tgt := 76) dX6_boards_72 (by decide) ?_
        refine J_ior dX6_boards_76 ?_
        refine J_istore_n dX6_boards_77 rfl rfl rfl ?_
        refine J_iinc (v := _ + 1) dX6_boards_78 rfl rfl rfl rfl ?_
        rw [show nI i + 1 = nI (i + 1) from (nI_succ i).symm]
        refine J_goto (tgt := 4) dX6_boards_81 (by decide) ?_
        refine J_lv [0, 1, 2, 3] rfl ?_
        exact ih (i + 1) _ (by omega) (by rw [ha]; first | (simp only [bsS, bsB, n10, h15, h30, reduceIte]; done) | (simp only [bsS, bsB, n10, h15, h53, reduceIte]; done))
    · refine J_aload_n dX6_boards_18 rfl rfl ?_
      refine gX6_s wf_X6_7 dX6_boards_19 ?_
      refine J_iload_n dX6_boards_22 rfl rfl ?_
      refine J_bipush (v := 6) dX6_boards_23 (by decide) ?_
      refine cSi ws_X6_58 (c_X6_ofBoard (i := i) (c := 6) 6 (by decide)) dX6_boards_25 (kk := ?_)
      refine rd_s (fb i 6) (fb_302 (by omega) (by decide)) rfl dX6_boards_28 ?_
      refine J_iconst (v := 1) dX6_boards_29 (by decide) ?_
      refine J_icmp_ne (tgt := 37) dX6_boards_30 (by decide) (fun h30 => ?_) (fun h30 => ?_)
      · refine J_iconst (v := 0) dX6_boards_37 (by decide) ?_
        refine J_goto (tgt := 61) dX6_boards_38 (by decide) ?_
        refine J_istore dX6_boards_61 rfl rfl ?_
        refine J_iload_n dX6_boards_63 rfl rfl ?_
        refine J_iload dX6_boards_64 rfl ?_
        refine J_if_eq (tgt := 75) dX6_boards_66 (by decide) (fun h66 => ?_) (fun h66 => absurd (by decide) h66)
        refine J_iconst (v := 0) dX6_boards_75 (by decide) ?_
        refine J_ior dX6_boards_76 ?_
        refine J_istore_n dX6_boards_77 rfl rfl rfl ?_
        refine J_iinc (v := _ + 1) dX6_boards_78 rfl rfl rfl rfl ?_
        rw [show nI i + 1 = nI (i + 1) from (nI_succ i).symm]
        refine J_goto (tgt := 4) dX6_boards_81 (by decide) ?_
        refine J_lv [0, 1, 2, 3] rfl ?_
        exact ih (i + 1) _ (by omega) (by rw [ha]; first | (simp only [bsS, bsB, n10, h15, h30, reduceIte]; done) | (simp only [bsS, bsB, n10, h15, h53, reduceIte]; done))
      · refine J_iconst (v := 1) dX6_boards_33 (by decide) ?_
        refine J_goto (tgt := 61) dX6_boards_34 (by decide) ?_
        refine J_istore dX6_boards_61 rfl rfl ?_
        refine J_iload_n dX6_boards_63 rfl rfl ?_
        refine J_iload dX6_boards_64 rfl ?_
        refine J_if_eq (tgt := 75) dX6_boards_66 (by decide) (fun h66 => absurd h66 (by decide)) (fun h66 => ?_)
        refine J_iconst (v := 1) dX6_boards_69 (by decide) ?_
        refine J_iload_n dX6_boards_70 rfl rfl ?_
        refine J_ishl dX6_boards_71 ?_
        refine J_goto (tgt := 76) dX6_boards_72 (by decide) ?_
        refine J_ior dX6_boards_76 ?_
        refine J_istore_n dX6_boards_77 rfl rfl rfl ?_
        refine J_iinc (v := _ + 1) dX6_boards_78 rfl rfl rfl rfl ?_
        rw [show nI i + 1 = nI (i + 1) from (nI_succ i).symm]
        refine J_goto (tgt := 4) dX6_boards_81 (by decide) ?_
        refine J_lv [0, 1, 2, 3] rfl ?_
        exact ih (i + 1) _ (by omega) (by rw [ha]; first | (simp only [bsS, bsB, n10, h15, h30, reduceIte]; done) | (simp only [bsS, bsB, n10, h15, h53, reduceIte]; done))

set_option maxRecDepth 100000 in
set_option maxHeartbeats 4000000 in
theorem c_X6_boards {X : jX} {ad : Nat → Nat} {m : Mem} {s : Rw} {n : Nat} {c : Int32} (hn : s 5 = nI n) (hn8 : n ≤ 8) : Cd X yX6_boards cX6_boards 5 (some .int) 1 ad [.ref 195, .int c] (SM m s) (some (.int (bsS s c n))) ((SM m s)) := by
  refine Cm.of (own := RX6) (nm := "boards") (by decide +kernel) rfl rfl rfl rfl ?_
  refine J_iconst (v := 0) dX6_boards_0 (by decide) ?_
  refine J_istore_n dX6_boards_1 rfl rfl rfl ?_
  refine J_iconst (v := 0) dX6_boards_2 (by decide) ?_
  refine J_istore_n dX6_boards_3 rfl rfl rfl ?_
  exact boardsLoop hn hn8 n 0 _ (by omega) rfl

set_option maxRecDepth 100000 in
set_option maxHeartbeats 4000000 in
theorem soonLoop {X : jX} {ad : Nat → Nat} {m : Mem} {s : Rw} {n : Nat}  (hn : s 5 = nI n) (hn8 : n ≤ 8) : ∀ (j i : Nat) (a : Int32), i + j = n → a = ts s i → Jg X RX6 cX6_tooSoon 3 (some .int) "tooSoon" 1 0 0 (QF X ad (fun v m9 => v = some (.int (ts s n)) ∧ m9 = SM m s)) ad 0 0 4 [(0, .ref 195), (1, .int a), (2, .int (nI i))] [] (WS X ad (SM m s)) := by
  intro j
  induction j with
  | zero =>
    intro i a hi ha
    obtain rfl : i = n := by omega
    refine J_iload_n dX6_tooSoon_4 rfl rfl ?_
    refine J_aload_n dX6_tooSoon_5 rfl rfl ?_
    refine gX6_s wf_X6_7 dX6_tooSoon_6 ?_
    refine J_iconst (v := 5) dX6_tooSoon_9 (by decide) ?_
    refine rd_s 5 (by decide) (by decide) dX6_tooSoon_10 ?_
    refine J_topi (fun z9 hz9 => ?_)
    obtain rfl : z9 = (nI i) := hz9.trans (by exact hn)
    clear hz9
    refine J_icmp_ge (tgt := 34) dX6_tooSoon_11 (by decide) (fun h11 => ?_) (fun h11 => absurd (nI_le1 (Nat.le_refl _) (by omega)) h11)
    refine J_iload_n dX6_tooSoon_34 rfl rfl ?_
    refine r_int dX6_tooSoon_35 ?_
    exact ⟨by rw [ha], rfl⟩
  | succ j ih =>
    intro i a hi ha
    refine J_iload_n dX6_tooSoon_4 rfl rfl ?_
    refine J_aload_n dX6_tooSoon_5 rfl rfl ?_
    refine gX6_s wf_X6_7 dX6_tooSoon_6 ?_
    refine J_iconst (v := 5) dX6_tooSoon_9 (by decide) ?_
    refine rd_s 5 (by decide) (by decide) dX6_tooSoon_10 ?_
    refine J_topi (fun z9 hz9 => ?_)
    obtain rfl : z9 = (nI n) := hz9.trans (by exact hn)
    clear hz9
    refine J_icmp_ge (tgt := 34) dX6_tooSoon_11 (by decide) (fun h11 => absurd h11 (nI_nle1 (by omega) (by omega))) (fun h11 => ?_)
    refine J_iload_n dX6_tooSoon_14 rfl rfl ?_
    refine J_aload_n dX6_tooSoon_15 rfl rfl ?_
    refine gX6_s wf_X6_7 dX6_tooSoon_16 ?_
    refine J_iload_n dX6_tooSoon_19 rfl rfl ?_
    refine J_bipush (v := 10) dX6_tooSoon_20 (by decide) ?_
    refine cSi ws_X6_58 (c_X6_ofBoard (i := i) (c := 10) 10 (by decide)) dX6_tooSoon_22 (kk := ?_)
    refine rd_s (fb i 10) (fb_302 (by omega) (by decide)) rfl dX6_tooSoon_25 ?_
    refine J_iadd dX6_tooSoon_26 ?_
    refine J_istore_n dX6_tooSoon_27 rfl rfl rfl ?_
    refine J_iinc (v := _ + 1) dX6_tooSoon_28 rfl rfl rfl rfl ?_
    rw [show nI i + 1 = nI (i + 1) from (nI_succ i).symm]
    refine J_goto (tgt := 4) dX6_tooSoon_31 (by decide) ?_
    exact ih (i + 1) _ (by omega) (by rw [ha]; rfl)

set_option maxRecDepth 100000 in
set_option maxHeartbeats 4000000 in
theorem c_X6_tooSoon {X : jX} {ad : Nat → Nat} {m : Mem} {s : Rw} {n : Nat} (hn : s 5 = nI n) (hn8 : n ≤ 8) : Cd X yX6_tooSoon cX6_tooSoon 3 (some .int) 1 ad [.ref 195] (SM m s) (some (.int (ts s n))) ((SM m s)) := by
  refine Cm.of (own := RX6) (nm := "tooSoon") (by decide +kernel) rfl rfl rfl rfl ?_
  refine J_iconst (v := 0) dX6_tooSoon_0 (by decide) ?_
  refine J_istore_n dX6_tooSoon_1 rfl rfl rfl ?_
  refine J_iconst (v := 0) dX6_tooSoon_2 (by decide) ?_
  refine J_istore_n dX6_tooSoon_3 rfl rfl rfl ?_
  exact soonLoop hn hn8 n 0 _ (by omega) rfl

set_option maxRecDepth 100000 in
set_option maxHeartbeats 4000000 in
theorem knownLoop {X : jX} {ad : Nat → Nat} {m : Mem} {s : Rw} {n : Nat} {x : Int32} (hn : s 5 = nI n) (hn8 : n ≤ 8) : ∀ (i : Nat) (a : Int32), i ≤ n → a = knF s n x (n - i) → Jg X RX6 cX6_known 4 (some .int) "known" 1 0 0 (QF X ad (fun v m9 => v = some (.int (knF s n x n)) ∧ m9 = SM m s)) ad 0 0 25 [(0, .ref 195), (1, .int x), (2, .int a), (3, .int (nI i - 1))] [] (WS X ad (SM m s)) := by
  intro i
  induction i with
  | zero =>
    intro a hi ha
    rw [Nat.sub_zero] at ha
    refine J_iload_n dX6_known_25 rfl rfl ?_
    refine J_if_lt (tgt := 70) dX6_known_26 (by decide) (fun h26 => ?_) (fun h26 => absurd (show nI 0 - 1 < 0 by decide) h26)
    refine J_iload_n dX6_known_70 rfl rfl ?_
    refine r_int dX6_known_71 ?_
    exact ⟨by rw [ha], rfl⟩
  | succ i ih =>
    intro a hi ha
    rw [nI_pred]
    have e : n - i = (n - (i + 1)) + 1 := by omega
    have e2 : n - 1 - (n - (i + 1)) = i := by omega
    refine J_iload_n dX6_known_25 rfl rfl ?_
    refine J_if_lt (tgt := 70) dX6_known_26 (by decide) (fun h26 => absurd h26 (by rw [Int32.not_lt, Int32.le_iff_toInt_le, nI_toInt (by omega)]; exact Int.natCast_nonneg i)) (fun h26 => ?_)
    refine J_aload_n dX6_known_29 rfl rfl ?_
    refine gX6_s wf_X6_7 dX6_known_30 ?_
    refine J_iload_n dX6_known_33 rfl rfl ?_
    refine J_bipush (v := 6) dX6_known_34 (by decide) ?_
    refine cSi ws_X6_58 (c_X6_ofBoard (i := i) (c := 6) 6 (by decide)) dX6_known_36 (kk := ?_)
    refine rd_s (fb i 6) (fb_302 (by omega) (by decide)) rfl dX6_known_39 ?_
    refine J_iconst (v := 1) dX6_known_40 (by decide) ?_
    refine J_icmp_ne (tgt := 62) dX6_known_41 (by decide) (fun h41 => ?_) (fun h41 => ?_)
    · refine J_iload_n dX6_known_62 rfl rfl ?_
      refine J_istore_n dX6_known_63 rfl rfl rfl ?_
      refine J_iinc (v := _ + (-1)) dX6_known_64 rfl rfl rfl rfl ?_
      rw [← Int32.sub_eq_add_neg]
      refine J_goto (tgt := 25) dX6_known_67 (by decide) ?_
      exact ih _ (by omega) (by rw [e]; first | (simp only [knF, knB, n10, e2, h41, ha, reduceIte]; done) | (simp only [knF, knB, n10, e2, h41, h55, ha, reduceIte]; done))
    · refine J_aload_n dX6_known_44 rfl rfl ?_
      refine gX6_s wf_X6_7 dX6_known_45 ?_
      refine J_iload_n dX6_known_48 rfl rfl ?_
      refine J_iconst (v := 0) dX6_known_49 (by decide) ?_
      refine cSi ws_X6_58 (c_X6_ofBoard (i := i) (c := 0) 0 (by decide)) dX6_known_50 (kk := ?_)
      refine rd_s (fb i 0) (fb_302 (by omega) (by decide)) rfl dX6_known_53 ?_
      refine J_iload_n dX6_known_54 rfl rfl ?_
      refine J_icmp_ne (tgt := 62) dX6_known_55 (by decide) (fun h55 => ?_) (fun h55 => ?_)
      · refine J_iload_n dX6_known_62 rfl rfl ?_
        refine J_istore_n dX6_known_63 rfl rfl rfl ?_
        refine J_iinc (v := _ + (-1)) dX6_known_64 rfl rfl rfl rfl ?_
        rw [← Int32.sub_eq_add_neg]
        refine J_goto (tgt := 25) dX6_known_67 (by decide) ?_
        exact ih _ (by omega) (by rw [e]; first | (simp only [knF, knB, n10, e2, h41, ha, reduceIte]; done) | (simp only [knF, knB, n10, e2, h41, h55, ha, reduceIte]; done))
      · refine J_iload_n dX6_known_58 rfl rfl ?_
        refine J_goto (tgt := 63) dX6_known_59 (by decide) ?_
        refine J_istore_n dX6_known_63 rfl rfl rfl ?_
        refine J_iinc (v := _ + (-1)) dX6_known_64 rfl rfl rfl rfl ?_
        rw [← Int32.sub_eq_add_neg]
        refine J_goto (tgt := 25) dX6_known_67 (by decide) ?_
        exact ih _ (by omega) (by rw [e]; first | (simp only [knF, knB, n10, e2, h41, ha, reduceIte]; done) | (simp only [knF, knB, n10, e2, h41, h55, ha, reduceIte]; done))

set_option maxRecDepth 100000 in
set_option maxHeartbeats 4000000 in
theorem c_X6_known {X : jX} {ad : Nat → Nat} {m : Mem} {s : Rw} {n : Nat} {x : Int32} (hn : s 5 = nI n) (hn8 : n ≤ 8) : Cd X yX6_known cX6_known 4 (some .int) 1 ad [.ref 195, .int x] (SM m s) (some (.int (knA s n x))) ((SM m s)) := by
  refine Cm.of (own := RX6) (nm := "known") (by decide +kernel) rfl rfl rfl rfl ?_
  refine J_iload_n dX6_known_0 rfl rfl ?_
  refine J_iconst (v := 0) dX6_known_1 (by decide) ?_
  refine J_bipush (v := 99) dX6_known_2 (by decide) ?_
  refine cSi ws_X6_25 c_X6_in dX6_known_4 (kk := ?_)
  refine J_if_ne (tgt := 13) dX6_known_7 (by decide) (fun h7 => ?_) (fun h7 => ?_)
  · refine J_bipush (v := -6) dX6_known_13 (by decide) ?_
    refine J_istore_n dX6_known_15 rfl rfl rfl ?_
    refine J_aload_n dX6_known_16 rfl rfl ?_
    refine gX6_s wf_X6_7 dX6_known_17 ?_
    refine J_iconst (v := 5) dX6_known_20 (by decide) ?_
    refine rd_s 5 (by decide) (by decide) dX6_known_21 ?_
    refine J_topi (fun z9 hz9 => ?_)
    obtain rfl : z9 = (nI n) := hz9.trans (by exact hn)
    clear hz9
    refine J_iconst (v := 1) dX6_known_22 (by decide) ?_
    refine J_isub dX6_known_23 ?_
    refine J_istore_n dX6_known_24 rfl rfl rfl ?_
    rw [show knA s n x = knF s n x n by simp only [knA, h7, reduceIte]]
    exact knownLoop hn hn8 n _ (Nat.le_refl _) (by rw [Nat.sub_self]; rfl)
  · refine J_bipush (v := -2) dX6_known_10 (by decide) ?_
    refine r_int dX6_known_12 ?_
    exact ⟨by first | (simp only [knA, h7, reduceIte]; done), rfl⟩

set_option maxRecDepth 100000 in
set_option maxHeartbeats 4000000 in
theorem c_X6_why {X : jX} {ad : Nat → Nat} {m : Mem} {s : Rw} {n : Nat} {x y : Int32} (hn : s 5 = nI n) (hn8 : n ≤ 8) : Cd X yX6_why cX6_why 3 (some .int) 2 ad [.ref 195, .int x, .int y] (SM m s) (some (.int (whA s n x y))) ((SM m s)) := by
  refine Cm.of (own := RX6) (nm := "why") (by decide +kernel) rfl rfl rfl rfl ?_
  refine J_aload_n dX6_why_0 rfl rfl ?_
  refine J_iload_n dX6_why_1 rfl rfl ?_
  refine cVi wv_X6_117 (c_X6_isBoard (n := n) hn) dX6_why_2 ob6 rfl rfl (kk := ?_)
  refine J_if_eq (tgt := 16) dX6_why_5 (by decide) (fun h5 => ?_) (fun h5 => ?_)
  · refine J_iconst (v := -1) dX6_why_16 (by decide) ?_
    refine r_int dX6_why_17 ?_
    exact ⟨by first | (simp only [whA, h5, reduceIte]; done) | (simp only [whA, h5, h13, reduceIte]; done) | (simp only [whA, h5, h13, h20, reduceIte]; done) | (simp only [whA, e8, e9, h5, h13, h20, reduceIte]; done), rfl⟩
  · refine J_aload_n dX6_why_8 rfl rfl ?_
    refine J_iload_n dX6_why_9 rfl rfl ?_
    refine cVi wv_X6_117 (c_X6_isBoard (n := n) hn) dX6_why_10 ob6 rfl rfl (kk := ?_)
    refine J_if_ne (tgt := 18) dX6_why_13 (by decide) (fun h13 => ?_) (fun h13 => ?_)
    · refine J_iload_n dX6_why_18 rfl rfl ?_
      refine J_iload_n dX6_why_19 rfl rfl ?_
      refine J_icmp_ne (tgt := 28) dX6_why_20 (by decide) (fun h20 => ?_) (fun h20 => ?_)
      · obtain ⟨p, hp, rfl⟩ := jinB hn8 h5
        obtain ⟨q, hq, rfl⟩ := jinB hn8 h13
        have e8 := cl8 hp hn8
        have e9 := cl8 hq hn8
        refine J_aload_n dX6_why_28 rfl rfl ?_
        refine J_iload_n dX6_why_29 rfl rfl ?_
        refine J_iload_n dX6_why_30 rfl rfl ?_
        refine cVi wv_X6_136 (c_X6_hindrance (p := p) (q := q) (by omega) (by omega)) dX6_why_31 ob6 rfl rfl (kk := ?_)
        refine r_int dX6_why_34 ?_
        exact ⟨by first | (simp only [whA, h5, reduceIte]; done) | (simp only [whA, h5, h13, reduceIte]; done) | (simp only [whA, h5, h13, h20, reduceIte]; done) | (simp only [whA, e8, e9, h5, h13, h20, reduceIte]; done), rfl⟩
      · refine J_bipush (v := -2) dX6_why_23 (by decide) ?_
        refine J_goto (tgt := 34) dX6_why_25 (by decide) ?_
        refine r_int dX6_why_34 ?_
        exact ⟨by first | (simp only [whA, h5, reduceIte]; done) | (simp only [whA, h5, h13, reduceIte]; done) | (simp only [whA, h5, h13, h20, reduceIte]; done) | (simp only [whA, e8, e9, h5, h13, h20, reduceIte]; done), rfl⟩
    · refine J_iconst (v := -1) dX6_why_16 (by decide) ?_
      refine r_int dX6_why_17 ?_
      exact ⟨by first | (simp only [whA, h5, reduceIte]; done) | (simp only [whA, h5, h13, reduceIte]; done) | (simp only [whA, h5, h13, h20, reduceIte]; done) | (simp only [whA, e8, e9, h5, h13, h20, reduceIte]; done), rfl⟩

theorem j1317 : ∀ k, k < 20 → jin (nI k) 13 17 = 0 ∨ (13 ≤ k ∧ k ≤ 17) := by decide +kernel
theorem j13k {y : Int32} (h8 : ¬ jin y 13 17 = 0) : ∃ j, j < 5 ∧ y - 13 = nI j := by
  obtain ⟨k, h1, rfl⟩ := jin_nat (n := 17) (by decide) rfl h8
  rcases j1317 k (by omega) with h | h
  · exact absurd h h8
  · obtain ⟨j, rfl⟩ : ∃ j, k = 13 + j := ⟨k - 13, by omega⟩
    have hj : j < 5 := by omega
    exact ⟨j, hj, (show ∀ j, j < 5 → nI (13 + j) - 13 = nI j by decide) j hj⟩
set_option maxRecDepth 100000 in
set_option maxHeartbeats 4000000 in
theorem c_X6_count {X : jX} {ad : Nat → Nat} {m : Mem} {s : Rw} {n : Nat} {y : Int32} (hn : s 5 = nI n) (hn8 : n ≤ 8) : Cm X yX6_count cX6_count 2 (some .int) 2 ad [.ref 195, .int y] (SM m s) (fun r9 m9 => (∃ a : Int32, r9 = some (.int a)) ∧ m9 = SM m s) := by
  refine Cm.of (own := RX6) (nm := "count") (by decide +kernel) rfl rfl rfl rfl ?_
  refine J_iload_n dX6_count_0 rfl rfl ?_
  refine J_bipush (v := 13) dX6_count_1 (by decide) ?_
  refine J_bipush (v := 17) dX6_count_3 (by decide) ?_
  refine cSi ws_X6_25 c_X6_in dX6_count_5 (kk := ?_)
  refine J_if_eq (tgt := 21) dX6_count_8 (by decide) (fun h8 => ?_) (fun h8 => ?_)
  · refine J_iload_n dX6_count_21 rfl rfl ?_
    by_cases hts : y.toInt < 0 ∨ 19 < y.toInt
    · refine J_tableOut (tgt := 233) dX6_count_22 hts (by decide) ?_
      refine J_bipush (v := -2) dX6_count_233 (by decide) ?_
      refine r_int dX6_count_235 ?_
      exact ⟨⟨_, rfl⟩, rfl⟩
    · obtain ⟨k, hk, rfl⟩ := tin (n := 20) (m := 19) rfl hts
      match k, hk with
      | 0, _ =>
        refine J_tableIn (off := 94) (tgt := 116) dX6_count_22 (by decide) (by decide) (by decide) (by decide) ?_
        refine J_aload_n dX6_count_116 rfl rfl ?_
        refine gX6_s wf_X6_7 dX6_count_117 ?_
        refine J_sipush (v := 297) dX6_count_120 (by decide) ?_
        refine rd_s 297 (by decide) (by decide) dX6_count_123 ?_
        refine r_int dX6_count_124 ?_
        exact ⟨⟨_, rfl⟩, rfl⟩
      | 1, _ =>
        refine J_tableIn (off := 103) (tgt := 125) dX6_count_22 (by decide) (by decide) (by decide) (by decide) ?_
        refine J_aload_n dX6_count_125 rfl rfl ?_
        refine gX6_s wf_X6_7 dX6_count_126 ?_
        refine J_iconst (v := 5) dX6_count_129 (by decide) ?_
        refine rd_s 5 (by decide) (by decide) dX6_count_130 ?_
        refine r_int dX6_count_131 ?_
        exact ⟨⟨_, rfl⟩, rfl⟩
      | 2, _ =>
        refine J_tableIn (off := 110) (tgt := 132) dX6_count_22 (by decide) (by decide) (by decide) (by decide) ?_
        refine J_aload_n dX6_count_132 rfl rfl ?_
        refine J_iload_n dX6_count_133 rfl rfl ?_
        refine J_iconst (v := 3) dX6_count_134 (by decide) ?_
        refine J_icmp_ne (tgt := 142) dX6_count_135 (by decide) (fun h135 => ?_) (fun h135 => ?_)
        · refine J_iconst (v := 0) dX6_count_142 (by decide) ?_
          refine cVi wv_X6_145 (c_X6_boards (n := n) hn hn8) dX6_count_143 ob6 rfl rfl (kk := ?_)
          refine r_int dX6_count_146 ?_
          exact ⟨⟨_, rfl⟩, rfl⟩
        · refine J_iconst (v := 1) dX6_count_138 (by decide) ?_
          refine J_goto (tgt := 143) dX6_count_139 (by decide) ?_
          refine cVi wv_X6_145 (c_X6_boards (n := n) hn hn8) dX6_count_143 ob6 rfl rfl (kk := ?_)
          refine r_int dX6_count_146 ?_
          exact ⟨⟨_, rfl⟩, rfl⟩
      | 3, _ =>
        refine J_tableIn (off := 110) (tgt := 132) dX6_count_22 (by decide) (by decide) (by decide) (by decide) ?_
        refine J_aload_n dX6_count_132 rfl rfl ?_
        refine J_iload_n dX6_count_133 rfl rfl ?_
        refine J_iconst (v := 3) dX6_count_134 (by decide) ?_
        refine J_icmp_ne (tgt := 142) dX6_count_135 (by decide) (fun h135 => ?_) (fun h135 => ?_)
        · refine J_iconst (v := 0) dX6_count_142 (by decide) ?_
          refine cVi wv_X6_145 (c_X6_boards (n := n) hn hn8) dX6_count_143 ob6 rfl rfl (kk := ?_)
          refine r_int dX6_count_146 ?_
          exact ⟨⟨_, rfl⟩, rfl⟩
        · refine J_iconst (v := 1) dX6_count_138 (by decide) ?_
          refine J_goto (tgt := 143) dX6_count_139 (by decide) ?_
          refine cVi wv_X6_145 (c_X6_boards (n := n) hn hn8) dX6_count_143 ob6 rfl rfl (kk := ?_)
          refine r_int dX6_count_146 ?_
          exact ⟨⟨_, rfl⟩, rfl⟩
      | 4, _ =>
        refine J_tableIn (off := 125) (tgt := 147) dX6_count_22 (by decide) (by decide) (by decide) (by decide) ?_
        refine J_aload_n dX6_count_147 rfl rfl ?_
        refine gX6_s wf_X6_7 dX6_count_148 ?_
        refine J_bipush (v := 94) dX6_count_151 (by decide) ?_
        refine rd_s 94 (by decide) (by decide) dX6_count_153 ?_
        refine r_int dX6_count_154 ?_
        exact ⟨⟨_, rfl⟩, rfl⟩
      | 5, _ =>
        refine J_tableIn (off := 133) (tgt := 155) dX6_count_22 (by decide) (by decide) (by decide) (by decide) ?_
        refine J_aload_n dX6_count_155 rfl rfl ?_
        refine gX6_s wf_X6_7 dX6_count_156 ?_
        refine J_sipush (v := 300) dX6_count_159 (by decide) ?_
        refine rd_s 300 (by decide) (by decide) dX6_count_162 ?_
        refine r_int dX6_count_163 ?_
        exact ⟨⟨_, rfl⟩, rfl⟩
      | 6, _ =>
        refine J_tableIn (off := 142) (tgt := 164) dX6_count_22 (by decide) (by decide) (by decide) (by decide) ?_
        refine J_aload_n dX6_count_164 rfl rfl ?_
        refine gX6_s wf_X6_7 dX6_count_165 ?_
        refine J_sipush (v := 301) dX6_count_168 (by decide) ?_
        refine rd_s 301 (by decide) (by decide) dX6_count_171 ?_
        refine r_int dX6_count_172 ?_
        exact ⟨⟨_, rfl⟩, rfl⟩
      | 7, _ =>
        refine J_tableIn (off := 151) (tgt := 173) dX6_count_22 (by decide) (by decide) (by decide) (by decide) ?_
        refine J_aload_n dX6_count_173 rfl rfl ?_
        refine gX6_s wf_X6_7 dX6_count_174 ?_
        refine J_sipush (v := 295) dX6_count_177 (by decide) ?_
        refine rd_s 295 (by decide) (by decide) dX6_count_180 ?_
        refine r_int dX6_count_181 ?_
        exact ⟨⟨_, rfl⟩, rfl⟩
      | 8, _ =>
        refine J_tableIn (off := 160) (tgt := 182) dX6_count_22 (by decide) (by decide) (by decide) (by decide) ?_
        refine J_aload_n dX6_count_182 rfl rfl ?_
        refine cVi wv_X6_92 (c_X6_isHeld (n := n) hn hn8) dX6_count_183 ob6 rfl rfl (kk := ?_)
        refine J_if_eq (tgt := 193) dX6_count_186 (by decide) (fun h186 => ?_) (fun h186 => ?_)
        · refine J_iconst (v := 0) dX6_count_193 (by decide) ?_
          refine r_int dX6_count_194 ?_
          exact ⟨⟨_, rfl⟩, rfl⟩
        · refine J_iconst (v := 1) dX6_count_189 (by decide) ?_
          refine J_goto (tgt := 194) dX6_count_190 (by decide) ?_
          refine r_int dX6_count_194 ?_
          exact ⟨⟨_, rfl⟩, rfl⟩
      | 9, _ =>
        refine J_tableIn (off := 173) (tgt := 195) dX6_count_22 (by decide) (by decide) (by decide) (by decide) ?_
        refine J_aload_n dX6_count_195 rfl rfl ?_
        refine cVi wv_X6_62 (c_X6_draw (n := n) hn hn8) dX6_count_196 ob6 rfl rfl (kk := ?_)
        refine r_int dX6_count_199 ?_
        exact ⟨⟨_, rfl⟩, rfl⟩
      | 10, _ =>
        refine J_tableIn (off := 178) (tgt := 200) dX6_count_22 (by decide) (by decide) (by decide) (by decide) ?_
        refine J_aload_n dX6_count_200 rfl rfl ?_
        refine gX6_s wf_X6_7 dX6_count_201 ?_
        refine J_sipush (v := 298) dX6_count_204 (by decide) ?_
        refine rd_s 298 (by decide) (by decide) dX6_count_207 ?_
        refine r_int dX6_count_208 ?_
        exact ⟨⟨_, rfl⟩, rfl⟩
      | 11, _ =>
        refine J_tableIn (off := 187) (tgt := 209) dX6_count_22 (by decide) (by decide) (by decide) (by decide) ?_
        refine J_aload_n dX6_count_209 rfl rfl ?_
        refine gX6_s wf_X6_7 dX6_count_210 ?_
        refine J_sipush (v := 299) dX6_count_213 (by decide) ?_
        refine rd_s 299 (by decide) (by decide) dX6_count_216 ?_
        refine r_int dX6_count_217 ?_
        exact ⟨⟨_, rfl⟩, rfl⟩
      | 12, _ =>
        refine J_tableIn (off := 196) (tgt := 218) dX6_count_22 (by decide) (by decide) (by decide) (by decide) ?_
        refine J_aload_n dX6_count_218 rfl rfl ?_
        refine cVi wv_X6_149 (c_X6_tooSoon (n := n) hn hn8) dX6_count_219 ob6 rfl rfl (kk := ?_)
        refine r_int dX6_count_222 ?_
        exact ⟨⟨_, rfl⟩, rfl⟩
      | 13, _ =>
        refine J_tableIn (off := 211) (tgt := 233) dX6_count_22 (by decide) (by decide) (by decide) (by decide) ?_
        refine J_bipush (v := -2) dX6_count_233 (by decide) ?_
        refine r_int dX6_count_235 ?_
        exact ⟨⟨_, rfl⟩, rfl⟩
      | 14, _ =>
        refine J_tableIn (off := 211) (tgt := 233) dX6_count_22 (by decide) (by decide) (by decide) (by decide) ?_
        refine J_bipush (v := -2) dX6_count_233 (by decide) ?_
        refine r_int dX6_count_235 ?_
        exact ⟨⟨_, rfl⟩, rfl⟩
      | 15, _ =>
        refine J_tableIn (off := 211) (tgt := 233) dX6_count_22 (by decide) (by decide) (by decide) (by decide) ?_
        refine J_bipush (v := -2) dX6_count_233 (by decide) ?_
        refine r_int dX6_count_235 ?_
        exact ⟨⟨_, rfl⟩, rfl⟩
      | 16, _ =>
        refine J_tableIn (off := 211) (tgt := 233) dX6_count_22 (by decide) (by decide) (by decide) (by decide) ?_
        refine J_bipush (v := -2) dX6_count_233 (by decide) ?_
        refine r_int dX6_count_235 ?_
        exact ⟨⟨_, rfl⟩, rfl⟩
      | 17, _ =>
        refine J_tableIn (off := 211) (tgt := 233) dX6_count_22 (by decide) (by decide) (by decide) (by decide) ?_
        refine J_bipush (v := -2) dX6_count_233 (by decide) ?_
        refine r_int dX6_count_235 ?_
        exact ⟨⟨_, rfl⟩, rfl⟩
      | 18, _ =>
        refine J_tableIn (off := 201) (tgt := 223) dX6_count_22 (by decide) (by decide) (by decide) (by decide) ?_
        refine J_aload_n dX6_count_223 rfl rfl ?_
        refine gX6_length wf_X6_152 dX6_count_224 ?_
        refine r_int dX6_count_227 ?_
        exact ⟨⟨_, rfl⟩, rfl⟩
      | 19, _ =>
        refine J_tableIn (off := 206) (tgt := 228) dX6_count_22 (by decide) (by decide) (by decide) (by decide) ?_
        refine J_aload_n dX6_count_228 rfl rfl ?_
        refine gX6_known wf_X6_51 dX6_count_229 ?_
        refine r_int dX6_count_232 ?_
        exact ⟨⟨_, rfl⟩, rfl⟩
      | k + 20, hk => exact absurd hk (by omega)
  · obtain ⟨j, hj, ej⟩ := j13k h8
    refine J_aload_n dX6_count_11 rfl rfl ?_
    refine gX6_s wf_X6_7 dX6_count_12 ?_
    refine J_iload_n dX6_count_15 rfl rfl ?_
    refine J_bipush (v := 13) dX6_count_16 (by decide) ?_
    refine J_isub dX6_count_18 ?_
    refine rd_s j (by omega) ej dX6_count_19 ?_
    refine r_int dX6_count_20 ?_
    exact ⟨⟨_, rfl⟩, rfl⟩

